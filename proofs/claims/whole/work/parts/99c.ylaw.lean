section YLW
def NSEn : String := "java/util/NoSuchElementException"
/-- NoSuchElementException's constructor of a text -/
def rx13 : ByteArray := ⟨#[0x2a, 0x2b, 0xb7, 0x00, 0x0d, 0xb1]⟩
def thrL : List Cond := .classLink "MurmurSheds" 358 NSEn :: .initialized NSEn :: (yx_at "MurmurSheds" 362 NSEn "java/lang/RuntimeException" ["java/lang/Exception"] 13 rx13).filter vx_no
def thrK (w : Cond) : Bool := match w with
  | .declares _ => true
  | .castable _ _ => true
  | w => goodWord w
theorem thrL_ok : thrL.all (fun w => vx_ot w && thrK w) = true := by decide +kernel
theorem thrL_in : ∀ w ∈ thrL, w ∈ tables_1 := by decide +kernel
theorem thrL_ot {w : Cond} (h : w ∈ thrL) : vx_ot w = true := by
  have h1 := List.all_eq_true.mp thrL_ok w h
  rw [Bool.and_eq_true] at h1
  exact h1.1
theorem thrL_K {w : Cond} (h : w ∈ thrL) : thrK w = true := by
  have h1 := List.all_eq_true.mp thrL_ok w h
  rw [Bool.and_eq_true] at h1
  exact h1.2
/-- the words of the throw, at a state -/
def TW (U : State) : Prop := ∀ w ∈ thrL, ∀ a : Array Value, w.before a U = true
theorem TW.same {u U : State} (hv : u.vm = U.vm) (h : TW u) : TW U := fun w hw a => vx_ot_at (args := a) (by rw [← hv]; exact State.WarmedH.refl u) hv (thrL_ot hw) (h w hw a)
theorem TW.warm {s U : State} (hW : s.WarmedH U.vm) (h : TW s) : TW U := by
  intro w hw a
  have h1 := h w hw a
  have h2 := thrL_K hw
  unfold thrK at h2
  split at h2
  · exact va_tabs (A := a) rfl (rfl : (s.setVm U.vm).vm = U.vm) (by rw [Cond.declares_setVm hW.alike]; exact h1)
  · exact va_tabs (A := a) rfl (rfl : (s.setVm U.vm).vm = U.vm) (by rw [Cond.castable_setVm hW.alike]; exact h1)
  · exact word_at hW (good_of_word h2) h1
/-- what a throw needs besides: the words, the two texts, the two statics -/
def PT (G : Gt) (U : State) (H : Heap) : Prop := TW U ∧ (vk_R "MurmurSheds" 360 "no such stump" (G.ad 2302) U ∧ vk_R "MurmurSheds" 368 "no such rest" (G.ad 2303) U) ∧
  vx_Zq Bundle.tN "UNASSIGNED_STACK" Bundle.steD (A0 G.ad) U H ∧ vx_Zq Bundle.tN "SUPPRESSED_SENTINEL" Bundle.listD (A0 G.ad) U H
theorem PT.warm {G : Gt} {s U : State} {H : Heap} (hW : s.WarmedH U.vm) (h : PT G s H) : PT G U H := ⟨h.1.warm hW, ⟨vk_R.warm hW h.2.1.1, vk_R.warm hW h.2.1.2⟩, vx_Zq.moved hW.alike h.2.2.1, vx_Zq.moved hW.alike h.2.2.2⟩
theorem PT.same {G : Gt} {u U : State} {H : Heap} (hv : u.vm = U.vm) (h : PT G u H) : PT G U H := ⟨h.1.same hv, ⟨vk_R.same hv.symm h.2.1.1, vk_R.same hv.symm h.2.1.2⟩, vx_Zq.moved (by rw [hv]; exact Vm.Alike.refl _) h.2.2.1, vx_Zq.moved (by rw [hv]; exact Vm.Alike.refl _) h.2.2.2⟩
theorem PT.at {G : Gt} {s : State} {H : Heap} {locs : List Loc} (h : PT G s s.heap) (hS : va_S (A0 G.ad) s.heap H locs) : PT G s H := ⟨h.1, h.2.1, h.2.2.1.kept hS.2.1, h.2.2.2.kept hS.2.1⟩
/-- a call that may throw: the start of its contract, its end by a throw, its contract -/
def PWT (G : Gt) (M : Mm) (U : State) : Prop := PW G M U ∧ PT G U U.heap
def XCt (G : Gt) (X : Mm → Prop) : String → State → State → Prop := fun E st t => E = NSEn ∧ (∃ M', X M' ∧ va_P G.D vwCl (cells G.cA G.ad M') t.heap) ∧ va_F (A0 G.ad) st t
def rmT (d : Nat) : Room := { frames := d, cells := 1, slots := 6, locals := 80 * d }
def CallT (wl : List Cond) (X : Mm → Prop) (G : Gt) (d : Nat) (mi : Mi) (as : List Value) (M : Mm) (Q : Option Value → Mm → Prop) : Prop :=
  vx_Met G.1 mi.1 wl (rmT d) (va_Pc (as.map (tv G.ad)) (PWT G M)) (Qr G Q) (XCt G X) 1 6 (A0 G.ad)
theorem PWT_blind {G : Gt} {M : Mm} {av : List Value} : FrameBlind (va_Pc av (PWT G M)) := by
  intro a U g mk h
  obtain ⟨h0, h1, h2⟩ := h
  have h3 := PW_blind (G := G) (M := M) (av := av) a U g mk ⟨h0, h1⟩
  exact ⟨h3.1, h3.2, PT.same (u := U) (U := U.calling g mk a) rfl h2⟩
theorem PWT_start {G : Gt} {M : Mm} {s : State} (hK : KU G s) (hRO : RO G s s.heap) (hRT : RT G s) (hG : GI G) (hPT : PT G s s.heap) {H : Heap} {locs : List Loc} (hP : va_P G.D vwCl (cells G.cA G.ad M) H) (hS : va_S (A0 G.ad) s.heap H locs) : ∀ U : State, U.heap = H → s.WarmedH U.vm → PWT G M U := by
  intro U hU hW
  refine ⟨PW_start hK hRO hRT hG hP hS U hU hW, ?_⟩
  rw [hU]
  exact (hPT.at hS).warm hW
/-- where the law runs: b9 calls more may throw -/
def CxL (tb : List ExceptionTableEntry) (b9 : Nat) (G : Gt) (d : Nat) (mi : Mi) (Q : Option Value → Mm → Prop) (p : Program) (e : Env) (s : State) (m : MethodId) (args : Array Value) (below : List Frame) (meth : Method) (c : Code) (R : Room) (Z : State → Prop) (k0 n0 : Nat) : Prop :=
  (p.tables.exec = Jvm.exec ∧ c.code = mi.2.1 ∧ c.maxLocals = mi.2.2.1 ∧ s.vm.findClass mi.1.cls = some m.cls ∧ (∀ w ∈ lw_g, w.before args s = true) ∧ KU G s ∧ RO G s s.heap ∧ RT G s ∧ GI G ∧ PT G s s.heap ∧ c.exceptionTable.toList = tb) ∧
  (d ≤ R.frames ∧ 80 * d ≤ R.locals ∧ k0 + b9 ≤ R.cells ∧ n0 + 6 * b9 ≤ R.slots) ∧
  ∀ (pc : Nat) (H : Heap) (locs : List Loc) (lsA : Array Slot) (r : Option Value) (M : Mm), retAt mi pc r → Q r M → va_P G.D vwCl (cells G.cA G.ad M) H → va_S (A0 G.ad) s.heap H locs →
    W p G.1 e R s m args below meth c H locs (k0 + b9) (n0 + 6 * b9) Z (F0 m pc lsA (r.toList.map (tv G.ad)))
def EvL (tb : List ExceptionTableEntry) (b9 : Nat) (G : Gt) (d : Nat) (mi : Mi) (pc : Nat) (ls st : List Value) (M : Mm) (Q : Option Value → Mm → Prop) : Prop :=
  ∀ (p : Program) (e : Env) (s : State) (m : MethodId) (args : Array Value) (below : List Frame) (meth : Method) (c : Code) (R : Room) (Z : State → Prop) (k0 n0 : Nat) (H : Heap) (locs : List Loc) (lsA : Array Slot),
    CxL tb b9 G d mi Q p e s m args below meth c R Z k0 n0 → va_P G.D vwCl (cells G.cA G.ad M) H → va_S (A0 G.ad) s.heap H locs → lr G.ad lsA mi.2.2.1 ls →
    W p G.1 e R s m args below meth c H locs k0 n0 Z (F0 m pc lsA (st.map (tv G.ad)))
theorem kn1 {a b c : Nat} (h : a + b ≤ c) : a ≤ c := by omega
theorem W_widen {p : Program} {l : Launch} {e : Env} {R : Room} {s : State} {m : MethodId} {args : Array Value} {below : List Frame} {meth : Method} {c : Code} {H : Heap} {locs : List Loc} {k n k' n' : Nat} {Z : State → Prop} {g : JFrame} (h1 : k ≤ k') (h2 : n ≤ n') (h : W p l e R s m args below meth c H locs k' n' Z g) : W p l e R s m args below meth c H locs k n Z g := fun T hT X => h T hT (stand_widen X h1 h2)
theorem goodIn_lg (mi' : Mi) (h : Cond.code mi'.1 mi'.2.1 mi'.2.2.1 mi'.2.2.2 ∈ lw_g) : GoodIn lw_g (wsm mi') := by
  intro w hw
  have hw' : w ∈ lw_g := by
    rcases List.mem_cons.mp hw with e | e
    · rw [e]; exact h
    · exact e
  exact ⟨hw', good_of_word (List.mem_filter.mp hw').2⟩
section
variable {tb : List ExceptionTableEntry} {b9 : Nat} {G : Gt} {d : Nat} {mi : Mi} {pc : Nat} {ls st : List Value} {M : Mm} {Q : Option Value → Mm → Prop}
theorem y_iret {x : Int32} (hd : decode mi.2.1 pc = .ok (.ireturn, 1)) (hr : mi.2.2.2 = some .int) (hQ : Q (some (.int x)) M) : EvL tb b9 G d mi pc ls [.int x] M Q := by
  intro p e s m args below meth c R Z k0 n0 H locs lsA C hP hS hl
  obtain ⟨⟨hx, hb, hml, hown, hts, hK, hRO, hRT, hG, hPT, htb⟩, hR, hret⟩ := id C
  exact W_widen (by omega) (by omega) (hret pc H locs lsA (some (.int x)) M ⟨hd, _, hr, rfl⟩ hQ hP hS)
theorem y_zret {x : Int32} (hd : decode mi.2.1 pc = .ok (.ireturn, 1)) (hr : mi.2.2.2 = some .boolean) (hx1 : narrow .boolean (.int x) = .int x) (hQ : Q (some (.int x)) M) : EvL tb b9 G d mi pc ls [.int x] M Q := by
  intro p e s m args below meth c R Z k0 n0 H locs lsA C hP hS hl
  obtain ⟨⟨hx, hb, hml, hown, hts, hK, hRO, hRT, hG, hPT, htb⟩, hR, hret⟩ := id C
  exact W_widen (by omega) (by omega) (hret pc H locs lsA (some (.int x)) M ⟨hd, _, hr, hx1⟩ hQ hP hS)
theorem y_iconst {n : Int} {v : Int32} (hd : decode mi.2.1 pc = .ok (.iconst n, 1)) (hv : Int32.ofInt n = v) (k : EvL tb b9 G d mi (pc + 1) ls (.int v :: st) M Q) : EvL tb b9 G d mi pc ls (st) M Q := by
  intro p e s m args below meth c R Z k0 n0 H locs lsA C hP hS hl
  obtain ⟨⟨hx, hb, hml, hown, hts, hK, hRO, hRT, hG, hPT, htb⟩, hR, hret⟩ := id C
  exact lv_iconst hx hb hd hv (k p e s m args below meth c R Z k0 n0 H locs lsA C hP hS hl)
theorem y_bipush {n : Int} {v : Int32} (hd : decode mi.2.1 pc = .ok (.bipush n, 2)) (hv : (Int8.ofInt n).toInt32 = v) (k : EvL tb b9 G d mi (pc + 2) ls (.int v :: st) M Q) : EvL tb b9 G d mi pc ls (st) M Q := by
  intro p e s m args below meth c R Z k0 n0 H locs lsA C hP hS hl
  obtain ⟨⟨hx, hb, hml, hown, hts, hK, hRO, hRT, hG, hPT, htb⟩, hR, hret⟩ := id C
  exact lv_bipush hx hb hd hv (k p e s m args below meth c R Z k0 n0 H locs lsA C hP hS hl)
theorem y_iload_n {n : Fin 4} {x : Int32} (hd : decode mi.2.1 pc = .ok (.iload_n n, 1)) (h : ls[(n : Nat)]? = some (.int x)) (k : EvL tb b9 G d mi (pc + 1) ls (.int x :: st) M Q) : EvL tb b9 G d mi pc ls (st) M Q := by
  intro p e s m args below meth c R Z k0 n0 H locs lsA C hP hS hl
  obtain ⟨⟨hx, hb, hml, hown, hts, hK, hRO, hRT, hG, hPT, htb⟩, hR, hret⟩ := id C
  exact lv_iload_n hx hb hd rfl (lr_at hl h rfl) (k p e s m args below meth c R Z k0 n0 H locs lsA C hP hS hl)
theorem y_iload {i : Nat} {x : Int32} (hd : decode mi.2.1 pc = .ok (.iload i, 2)) (h : ls[i]? = some (.int x)) (k : EvL tb b9 G d mi (pc + 2) ls (.int x :: st) M Q) : EvL tb b9 G d mi pc ls (st) M Q := by
  intro p e s m args below meth c R Z k0 n0 H locs lsA C hP hS hl
  obtain ⟨⟨hx, hb, hml, hown, hts, hK, hRO, hRT, hG, hPT, htb⟩, hR, hret⟩ := id C
  exact lv_iload hx hb hd (lr_at hl h rfl) (k p e s m args below meth c R Z k0 n0 H locs lsA C hP hS hl)
theorem y_aload_n {n : Fin 4} {x : Nat} (hd : decode mi.2.1 pc = .ok (.aload_n n, 1)) (h : ls[(n : Nat)]? = some (.ref x)) (k : EvL tb b9 G d mi (pc + 1) ls (.ref x :: st) M Q) : EvL tb b9 G d mi pc ls (st) M Q := by
  intro p e s m args below meth c R Z k0 n0 H locs lsA C hP hS hl
  obtain ⟨⟨hx, hb, hml, hown, hts, hK, hRO, hRT, hG, hPT, htb⟩, hR, hret⟩ := id C
  exact lv_aload_n hx hb hd rfl (lr_at hl h rfl) (k p e s m args below meth c R Z k0 n0 H locs lsA C hP hS hl)
theorem y_aload {i : Nat} {x : Nat} (hd : decode mi.2.1 pc = .ok (.aload i, 2)) (h : ls[i]? = some (.ref x)) (k : EvL tb b9 G d mi (pc + 2) ls (.ref x :: st) M Q) : EvL tb b9 G d mi pc ls (st) M Q := by
  intro p e s m args below meth c R Z k0 n0 H locs lsA C hP hS hl
  obtain ⟨⟨hx, hb, hml, hown, hts, hK, hRO, hRT, hG, hPT, htb⟩, hR, hret⟩ := id C
  exact lv_aload hx hb hd (lr_at hl h rfl) (k p e s m args below meth c R Z k0 n0 H locs lsA C hP hS hl)
theorem y_istore {i : Nat} {x : Int32} {ls' : List Value} (hd : decode mi.2.1 pc = .ok (.istore i, 2)) (hn : i < mi.2.2.1) (hs : stI ls i (.int x) = ls') (k : EvL tb b9 G d mi (pc + 2) ls' st M Q) : EvL tb b9 G d mi pc ls (.int x :: st) M Q := by
  intro p e s m args below meth c R Z k0 n0 H locs lsA C hP hS hl
  obtain ⟨⟨hx, hb, hml, hown, hts, hK, hRO, hRT, hG, hPT, htb⟩, hR, hret⟩ := id C
  subst hs
  exact lv_istore hx hb hd hl.2 hn rfl (fun lsB hB => k p e s m args below meth c R Z k0 n0 H locs lsB C hP hS (lr_stI (v := Value.int x) hl.1 hB))
theorem y_istore_n {n : Fin 4} {x : Int32} {ls' : List Value} (hd : decode mi.2.1 pc = .ok (.istore_n n, 1)) (hn : (n : Nat) < mi.2.2.1) (hs : stI ls (n : Nat) (.int x) = ls') (k : EvL tb b9 G d mi (pc + 1) ls' st M Q) : EvL tb b9 G d mi pc ls (.int x :: st) M Q := by
  intro p e s m args below meth c R Z k0 n0 H locs lsA C hP hS hl
  obtain ⟨⟨hx, hb, hml, hown, hts, hK, hRO, hRT, hG, hPT, htb⟩, hR, hret⟩ := id C
  subst hs
  exact lv_istore_n hx hb hd rfl hl.2 hn rfl (fun lsB hB => k p e s m args below meth c R Z k0 n0 H locs lsB C hP hS (lr_stI (v := Value.int x) hl.1 hB))
theorem y_iinc {i : Nat} {n : Int} {x v : Int32} {ls' : List Value} (hd : decode mi.2.1 pc = .ok (.iinc i n, 3)) (h : ls[i]? = some (.int x)) (hv : x + Int32.ofInt n = v) (hn : i < mi.2.2.1) (hs : stI ls i (.int v) = ls') (k : EvL tb b9 G d mi (pc + 3) ls' st M Q) : EvL tb b9 G d mi pc ls st M Q := by
  intro p e s m args below meth c R Z k0 n0 H locs lsA C hP hS hl
  obtain ⟨⟨hx, hb, hml, hown, hts, hK, hRO, hRT, hG, hPT, htb⟩, hR, hret⟩ := id C
  subst hs
  have hm : (i, Value.int x) ∈ lqF G.ad 0 ls := (lqF_mem ls 0).mpr ⟨.int x, Nat.zero_le _, by simpa using h, rfl, rfl⟩
  obtain ⟨q, hq⟩ := List.getElem?_of_mem hm
  exact lv_iinc hx hb hd hl.2 hq hv hn rfl (fun lsB hB => k p e s m args below meth c R Z k0 n0 H locs lsB C hP hS (lr_stI (v := Value.int v) hl.1 hB))
theorem y_iadd {x y : Int32} (hd : decode mi.2.1 pc = .ok (.iadd, 1)) (k : EvL tb b9 G d mi (pc + 1) ls (.int (x + y) :: st) M Q) : EvL tb b9 G d mi pc ls (.int y :: .int x :: st) M Q := by
  intro p e s m args below meth c R Z k0 n0 H locs lsA C hP hS hl
  obtain ⟨⟨hx, hb, hml, hown, hts, hK, hRO, hRT, hG, hPT, htb⟩, hR, hret⟩ := id C
  exact lv_iadd hx hb hd (k p e s m args below meth c R Z k0 n0 H locs lsA C hP hS hl)
theorem y_isub {x y : Int32} (hd : decode mi.2.1 pc = .ok (.isub, 1)) (k : EvL tb b9 G d mi (pc + 1) ls (.int (x - y) :: st) M Q) : EvL tb b9 G d mi pc ls (.int y :: .int x :: st) M Q := by
  intro p e s m args below meth c R Z k0 n0 H locs lsA C hP hS hl
  obtain ⟨⟨hx, hb, hml, hown, hts, hK, hRO, hRT, hG, hPT, htb⟩, hR, hret⟩ := id C
  exact lv_isub hx hb hd (k p e s m args below meth c R Z k0 n0 H locs lsA C hP hS hl)
theorem y_iand {x y : Int32} (hd : decode mi.2.1 pc = .ok (.iand, 1)) (k : EvL tb b9 G d mi (pc + 1) ls (.int (x &&& y) :: st) M Q) : EvL tb b9 G d mi pc ls (.int y :: .int x :: st) M Q := by
  intro p e s m args below meth c R Z k0 n0 H locs lsA C hP hS hl
  obtain ⟨⟨hx, hb, hml, hown, hts, hK, hRO, hRT, hG, hPT, htb⟩, hR, hret⟩ := id C
  exact lv_iand hx hb hd (k p e s m args below meth c R Z k0 n0 H locs lsA C hP hS hl)
theorem y_land {x y : Int64} (hd : decode mi.2.1 pc = .ok (.land, 1)) (k : EvL tb b9 G d mi (pc + 1) ls (.long (x &&& y) :: st) M Q) : EvL tb b9 G d mi pc ls (.long y :: .long x :: st) M Q := by
  intro p e s m args below meth c R Z k0 n0 H locs lsA C hP hS hl
  obtain ⟨⟨hx, hb, hml, hown, hts, hK, hRO, hRT, hG, hPT, htb⟩, hR, hret⟩ := id C
  exact lv_land hx hb hd (k p e s m args below meth c R Z k0 n0 H locs lsA C hP hS hl)
theorem y_lor {x y : Int64} (hd : decode mi.2.1 pc = .ok (.lor, 1)) (k : EvL tb b9 G d mi (pc + 1) ls (.long (x ||| y) :: st) M Q) : EvL tb b9 G d mi pc ls (.long y :: .long x :: st) M Q := by
  intro p e s m args below meth c R Z k0 n0 H locs lsA C hP hS hl
  obtain ⟨⟨hx, hb, hml, hown, hts, hK, hRO, hRT, hG, hPT, htb⟩, hR, hret⟩ := id C
  exact lv_lor hx hb hd (k p e s m args below meth c R Z k0 n0 H locs lsA C hP hS hl)
theorem y_lshl {x : Int64} {y : Int32} (hd : decode mi.2.1 pc = .ok (.lshl, 1)) (k : EvL tb b9 G d mi (pc + 1) ls (.long (x <<< (y.toInt64 &&& 63)) :: st) M Q) : EvL tb b9 G d mi pc ls (.int y :: .long x :: st) M Q := by
  intro p e s m args below meth c R Z k0 n0 H locs lsA C hP hS hl
  obtain ⟨⟨hx, hb, hml, hown, hts, hK, hRO, hRT, hG, hPT, htb⟩, hR, hret⟩ := id C
  exact lv_lshl hx hb hd rfl (k p e s m args below meth c R Z k0 n0 H locs lsA C hP hS hl)
theorem y_i2l {x : Int32} (hd : decode mi.2.1 pc = .ok (.i2l, 1)) (k : EvL tb b9 G d mi (pc + 1) ls (.long x.toInt64 :: st) M Q) : EvL tb b9 G d mi pc ls (.int x :: st) M Q := by
  intro p e s m args below meth c R Z k0 n0 H locs lsA C hP hS hl
  obtain ⟨⟨hx, hb, hml, hown, hts, hK, hRO, hRT, hG, hPT, htb⟩, hR, hret⟩ := id C
  exact lv_i2l hx hb hd rfl (k p e s m args below meth c R Z k0 n0 H locs lsA C hP hS hl)
theorem y_lcmp {x y : Int64} (hd : decode mi.2.1 pc = .ok (.lcmp, 1)) (k : EvL tb b9 G d mi (pc + 1) ls (.int (lg_cmp x y) :: st) M Q) : EvL tb b9 G d mi pc ls (.long y :: .long x :: st) M Q := by
  intro p e s m args below meth c R Z k0 n0 H locs lsA C hP hS hl
  obtain ⟨⟨hx, hb, hml, hown, hts, hK, hRO, hRT, hG, hPT, htb⟩, hR, hret⟩ := id C
  exact W.lcmp hx hb hd (k p e s m args below meth c R Z k0 n0 H locs lsA C hP hS hl)
theorem y_if_eq {x : Int32} {off : Int} {tgt : Nat} (hd : decode mi.2.1 pc = .ok (.ifCond .eq off, 3)) (ht : (pc : Int) + off = (tgt : Int)) (kt : x = 0 → EvL tb b9 G d mi tgt ls st M Q) (kf : ¬ x = 0 → EvL tb b9 G d mi (pc + 3) ls st M Q) : EvL tb b9 G d mi pc ls (.int x :: st) M Q := by
  intro p e s m args below meth c R Z k0 n0 H locs lsA C hP hS hl
  obtain ⟨⟨hx, hb, hml, hown, hts, hK, hRO, hRT, hG, hPT, htb⟩, hR, hret⟩ := id C
  exact lv_if_eq hx hb hd ht (fun h => (kt h) p e s m args below meth c R Z k0 n0 H locs lsA C hP hS hl) (fun h => (kf h) p e s m args below meth c R Z k0 n0 H locs lsA C hP hS hl)
theorem y_if_ne {x : Int32} {off : Int} {tgt : Nat} (hd : decode mi.2.1 pc = .ok (.ifCond .ne off, 3)) (ht : (pc : Int) + off = (tgt : Int)) (kt : ¬ x = 0 → EvL tb b9 G d mi tgt ls st M Q) (kf : x = 0 → EvL tb b9 G d mi (pc + 3) ls st M Q) : EvL tb b9 G d mi pc ls (.int x :: st) M Q := by
  intro p e s m args below meth c R Z k0 n0 H locs lsA C hP hS hl
  obtain ⟨⟨hx, hb, hml, hown, hts, hK, hRO, hRT, hG, hPT, htb⟩, hR, hret⟩ := id C
  exact lv_if_ne hx hb hd ht (fun h => (kt h) p e s m args below meth c R Z k0 n0 H locs lsA C hP hS hl) (fun h => (kf h) p e s m args below meth c R Z k0 n0 H locs lsA C hP hS hl)
theorem y_icmp_eq {x y : Int32} {off : Int} {tgt : Nat} (hd : decode mi.2.1 pc = .ok (.if_icmp .eq off, 3)) (ht : (pc : Int) + off = (tgt : Int)) (kt : x = y → EvL tb b9 G d mi tgt ls st M Q) (kf : ¬ x = y → EvL tb b9 G d mi (pc + 3) ls st M Q) : EvL tb b9 G d mi pc ls (.int y :: .int x :: st) M Q := by
  intro p e s m args below meth c R Z k0 n0 H locs lsA C hP hS hl
  obtain ⟨⟨hx, hb, hml, hown, hts, hK, hRO, hRT, hG, hPT, htb⟩, hR, hret⟩ := id C
  exact lv_icmp_eq hx hb hd ht (fun h => (kt h) p e s m args below meth c R Z k0 n0 H locs lsA C hP hS hl) (fun h => (kf h) p e s m args below meth c R Z k0 n0 H locs lsA C hP hS hl)
theorem y_icmp_gt {x y : Int32} {off : Int} {tgt : Nat} (hd : decode mi.2.1 pc = .ok (.if_icmp .gt off, 3)) (ht : (pc : Int) + off = (tgt : Int)) (kt : y < x → EvL tb b9 G d mi tgt ls st M Q) (kf : ¬ y < x → EvL tb b9 G d mi (pc + 3) ls st M Q) : EvL tb b9 G d mi pc ls (.int y :: .int x :: st) M Q := by
  intro p e s m args below meth c R Z k0 n0 H locs lsA C hP hS hl
  obtain ⟨⟨hx, hb, hml, hown, hts, hK, hRO, hRT, hG, hPT, htb⟩, hR, hret⟩ := id C
  exact lv_icmp_gt hx hb hd ht (fun h => (kt h) p e s m args below meth c R Z k0 n0 H locs lsA C hP hS hl) (fun h => (kf h) p e s m args below meth c R Z k0 n0 H locs lsA C hP hS hl)
theorem y_goto {off : Int} {tgt : Nat} (hd : decode mi.2.1 pc = .ok (.goto off, 3)) (ht : (pc : Int) + off = (tgt : Int)) (k : EvL tb b9 G d mi tgt ls st M Q) : EvL tb b9 G d mi pc ls st M Q := by
  intro p e s m args below meth c R Z k0 n0 H locs lsA C hP hS hl
  obtain ⟨⟨hx, hb, hml, hown, hts, hK, hRO, hRT, hG, hPT, htb⟩, hR, hret⟩ := id C
  exact lv_goto hx hb hd ht (k p e s m args below meth c R Z k0 n0 H locs lsA C hP hS hl)
theorem y_tableIn {dflt lo hi : Int} {offs : Array Int} {len : Nat} {x : Int32} {off : Int} {tgt : Nat} (hd : decode mi.2.1 pc = .ok (.tableswitch dflt lo hi offs, len)) (h1 : ¬ x.toInt < lo) (h2 : ¬ hi < x.toInt) (ho : offs[(x.toInt - lo).toNat]? = some off) (ht : (pc : Int) + off = (tgt : Int)) (k : EvL tb b9 G d mi tgt ls st M Q) : EvL tb b9 G d mi pc ls (.int x :: st) M Q := by
  intro p e s m args below meth c R Z k0 n0 H locs lsA C hP hS hl
  obtain ⟨⟨hx, hb, hml, hown, hts, hK, hRO, hRT, hG, hPT, htb⟩, hR, hret⟩ := id C
  exact lv_tableIn hx hb hd h1 h2 ho ht (k p e s m args below meth c R Z k0 n0 H locs lsA C hP hS hl)
theorem y_tableOut {dflt lo hi : Int} {offs : Array Int} {len : Nat} {x : Int32} {tgt : Nat} (hd : decode mi.2.1 pc = .ok (.tableswitch dflt lo hi offs, len)) (h : x.toInt < lo ∨ hi < x.toInt) (ht : (pc : Int) + dflt = (tgt : Int)) (k : EvL tb b9 G d mi tgt ls st M Q) : EvL tb b9 G d mi pc ls (.int x :: st) M Q := by
  intro p e s m args below meth c R Z k0 n0 H locs lsA C hP hS hl
  obtain ⟨⟨hx, hb, hml, hown, hts, hK, hRO, hRT, hG, hPT, htb⟩, hR, hret⟩ := id C
  exact lv_tableOut hx hb hd h ht (k p e s m args below meth c R Z k0 n0 H locs lsA C hP hS hl)
theorem y_ldc2 {idx : Nat} {v : Int64} (hd : decode mi.2.1 pc = .ok (.ldc2_w idx, 3)) (hw : Jvm.Cond.constantLong mi.1.cls idx v ∈ lw_g) (k : EvL tb b9 G d mi (pc + 3) ls (.long v :: st) M Q) : EvL tb b9 G d mi pc ls st M Q := by
  intro p e s m args below meth c R Z k0 n0 H locs lsA C hP hS hl
  obtain ⟨⟨hx, hb, hml, hown, hts, hK, hRO, hRT, hG, hPT, htb⟩, hR, hret⟩ := id C
  exact lv_ldc2 hx hb hown (hts _ hw) hd (k p e s m args below meth c R Z k0 n0 H locs lsA C hP hS hl)
theorem y_lald {i n : Nat} {bs : List (Nat × Nat)} {j : Int32} (hd : decode mi.2.1 pc = .ok (.laload, 1)) (hs : shp i = (2, n, bs)) (hj : vp_in j n) (k1 : EvL tb b9 G d mi (pc + 1) ls (.long (M.2.1 i j.toNatClampNeg) :: st) M Q) : EvL tb b9 G d mi pc ls (.int j :: .ref i :: st) M Q := by
  intro p e s m args below meth c R Z k0 n0 H locs lsA C hP hS hl
  obtain ⟨⟨hx, hb, hml, hown, hts, hK, hRO, hRT, hG, hPT, htb⟩, hR, hret⟩ := id C
  exact va_lald hx hb hK.1 hP i 1 ((cells_at (shp_lt hs (by decide))).trans (by rw [cel_la hs])) rfl hj hd (k1 p e s m args below meth c R Z k0 n0 H locs lsA C hP hS hl)
theorem y_last {i n : Nat} {bs : List (Nat × Nat)} {j : Int32} {x : Int64} (hd : decode mi.2.1 pc = .ok (.lastore, 1)) (hs : shp i = (2, n, bs)) (hj : vp_in j n) (k1 : EvL tb b9 G d mi (pc + 1) ls st (setL M i j.toNatClampNeg x) Q) : EvL tb b9 G d mi pc ls (.long x :: .int j :: .ref i :: st) M Q := by
  intro p e s m args below meth c R Z k0 n0 H locs lsA C hP hS hl
  obtain ⟨⟨hx, hb, hml, hown, hts, hK, hRO, hRT, hG, hPT, htb⟩, hR, hret⟩ := id C
  have hi := shp_lt hs (by decide)
  refine va_last hx hb hK.1 hP (cells_D hG.nn) hS i 1 ((cells_at hi).trans (by rw [cel_la hs])) rfl hj hd (fun H1 locs1 hP1 _ hS1 => ?_)
  refine k1 p e s m args below meth c R Z k0 n0 H1 locs1 lsA C ?_ hS1 hl
  have hu : vp_updL (M.2.1 i) j.toNatClampNeg x = (setL M i j.toNatClampNeg x).2.1 i := by funext q; simp [vp_updL, setL]
  rw [hu, cells_set hi (cel_la hs) setL_ne] at hP1
  exact hP1
theorem y_iaddN {a b : Nat} (hd : decode mi.2.1 pc = .ok (.iadd, 1)) (k : EvL tb b9 G d mi (pc + 1) ls (.int (nI (a + b)) :: st) M Q) : EvL tb b9 G d mi pc ls (.int (nI b) :: .int (nI a) :: st) M Q := y_iadd hd (by rw [nI_add]; exact k)
theorem y_callV {idx n i ci : Nat} {fs : List (Nat × Nat)} {mi' : Mi} {d' : Nat} {as stk : List Value} {Q' : Option Value → Mm → Prop} (hd : decode mi.2.1 pc = .ok (.invokevirtual idx, 3)) (hm : MOV mi' n) (hl0 : ML mi.1.cls idx mi'.1) (hs : shp i = (0, ci, fs)) (hci : (vwCl[ci]?).map (fun q => q.1) = some mi'.1.cls) (hn : as.length = n) (hst : stk = as.reverse ++ .ref i :: st) (hW : (st.map fun v => v.category).sum ≤ 8) (hdd : d' + 1 ≤ d) (hc : Call G d' mi' (.ref i :: as) M Q') (k : ∀ r M1, Q' r M1 → EvL tb b9 G d mi (pc + 3) ls (r.toList ++ st) M1 Q) : EvL tb b9 G d mi pc ls stk M Q := by
  intro p e s m args below meth c R Z k0 n0 H locs lsA C hP hS hl
  obtain ⟨⟨hx, hb, hml, hown, hts, hK, hRO, hRT, hG, hPT, htb⟩, hR, hret⟩ := id C
  subst hst
  obtain ⟨⟨hco, hin, hh, hmx⟩, him, hse⟩ := hm
  have hi := shp_lt hs (by decide)
  have hat : (cells G.cA G.ad M)[i]? = some (G.ad i, .inr (ci, flds G.ad M i 0 fs)) := (cells_at hi).trans (by rw [cel_obj hs])
  obtain ⟨q, hq, hq2⟩ : ∃ q, vwCl[ci]? = some q ∧ q.1 = mi'.1.cls := by
    cases h : vwCl[ci]? with
    | none => rw [h] at hci; cases hci
    | some q => rw [h] at hci; exact ⟨q, rfl, by simpa using hci⟩
  have hrc := va_recv hK.1 hP hq hat
  rw [hq2] at hrc
  have hpre : PreV s H mi'.1.cls (G.ad i) (va_Pc ((Value.ref i :: as).map (tv G.ad)) (PW G M)) (as.map (tv G.ad)) := ⟨PW_blind, hrc, fun U hU hW => ⟨rfl, PW_start hK hRO hRT hG hP hS U hU hW⟩⟩
  have hstk : (as.reverse ++ Value.ref i :: st).map (tv G.ad) = (as.map (tv G.ad)).reverse ++ Value.ref (G.ad i) :: st.map (tv G.ad) := by simp [tv]
  have hkk : ∀ (r : Option Value) (M1 : Mm) (H1 : Heap) (locs1 : List Loc), Q' r M1 → va_P G.D vwCl (cells G.cA G.ad M1) H1 → va_S (A0 G.ad) s.heap H1 locs1 → W p G.1 e R s m args below meth c H1 locs1 k0 n0 Z (F0 m (pc + 3) lsA ((r.map (tv G.ad)).toList ++ st.map (tv G.ad))) := by
    intro r M1 H1 locs1 h1 h2 h3
    rw [lr_map]
    exact k r M1 h1 p e s m args below meth c R Z k0 n0 H1 locs1 lsA C h2 h3 hl
  have hRm : (rmd d').frames + 1 ≤ R.frames ∧ 8 + (mi'.2.2.1 + 11) + (rmd d').locals ≤ R.locals := by
    obtain ⟨r1, r2, -⟩ := hR
    simp only [rmd]
    constructor <;> omega
  rcases hl0 with hl1 | ⟨host, hl1⟩
  · exact callU (va_runV (cc := mi.2.1) (nL := mi.2.2.1) (own := mi.1.cls) (C := mi'.1.cls) (bytes := mi'.2.1) (maxL := mi'.2.2.1) (ret := mi'.2.2.2) (n := n) (Ts := lw_g) ⟨hx, hb, hml, hown, hts⟩ hc ⟨callB_of n hts (goodIn_lg mi' hco) rfl rfl rfl (hts _ hin) (hts _ hl1) hh hRm, hts _ him, hts _ hse⟩ hpre rfl (by simpa using hn) hl.2.1 hstk (by show 2 * 0 + _ ≤ _; rw [cat_map]; omega) hd ⟨kn1 hR.2.2.1, kn1 hR.2.2.2⟩) hS hkk
  · exact callU (va_runVN (cc := mi.2.1) (nL := mi.2.2.1) (own := mi.1.cls) (C := mi'.1.cls) (host := host) (bytes := mi'.2.1) (maxL := mi'.2.2.1) (ret := mi'.2.2.2) (n := n) (Ts := lw_g) ⟨hx, hb, hml, hown, hts⟩ hc ⟨va_cnB n hts (goodIn_lg mi' hco) rfl rfl rfl (hK.2 _ hl1) (hts _ hin) hh hRm, hts _ him, hts _ hse⟩ hpre rfl (by simpa using hn) hl.2.1 hstk (by show 2 * 0 + _ ≤ _; rw [cat_map]; omega) hd ⟨kn1 hR.2.2.1, kn1 hR.2.2.2⟩) hS hkk
theorem y_callS {idx n : Nat} {mi' : Mi} {d' : Nat} {as stk : List Value} {Q' : Option Value → Mm → Prop} (hd : decode mi.2.1 pc = .ok (.invokestatic idx, 3)) (hm : MOS mi' n) (hl0 : ML mi.1.cls idx mi'.1) (hn : as.length = n) (hst : stk = as.reverse ++ st) (hW : (st.map fun v => v.category).sum ≤ 8) (hdd : d' + 1 ≤ d) (hc : Call G d' mi' as M Q') (k : ∀ r M1, Q' r M1 → EvL tb b9 G d mi (pc + 3) ls (r.toList ++ st) M1 Q) : EvL tb b9 G d mi pc ls stk M Q := by
  intro p e s m args below meth c R Z k0 n0 H locs lsA C hP hS hl
  obtain ⟨⟨hx, hb, hml, hown, hts, hK, hRO, hRT, hG, hPT, htb⟩, hR, hret⟩ := id C
  subst hst
  obtain ⟨⟨hco, hin, hh, hmx⟩, him⟩ := hm
  have hpre : PreS s H (va_Pc (as.map (tv G.ad)) (PW G M)) (as.map (tv G.ad)) := ⟨PW_blind, fun U hU hW => ⟨rfl, PW_start hK hRO hRT hG hP hS U hU hW⟩⟩
  have hstk : (as.reverse ++ st).map (tv G.ad) = (as.map (tv G.ad)).reverse ++ st.map (tv G.ad) := by simp
  have hkk : ∀ (r : Option Value) (M1 : Mm) (H1 : Heap) (locs1 : List Loc), Q' r M1 → va_P G.D vwCl (cells G.cA G.ad M1) H1 → va_S (A0 G.ad) s.heap H1 locs1 → W p G.1 e R s m args below meth c H1 locs1 k0 n0 Z (F0 m (pc + 3) lsA ((r.map (tv G.ad)).toList ++ st.map (tv G.ad))) := by
    intro r M1 H1 locs1 h1 h2 h3
    rw [lr_map]
    exact k r M1 h1 p e s m args below meth c R Z k0 n0 H1 locs1 lsA C h2 h3 hl
  have hRm : (rmd d').frames + 1 ≤ R.frames ∧ 8 + (mi'.2.2.1 + 11) + (rmd d').locals ≤ R.locals := by
    obtain ⟨r1, r2, -⟩ := hR
    simp only [rmd]
    constructor <;> omega
  rcases hl0 with hl1 | ⟨host, hl1⟩
  · exact callU (va_runS (cc := mi.2.1) (nL := mi.2.2.1) (own := mi.1.cls) (bytes := mi'.2.1) (maxL := mi'.2.2.1) (ret := mi'.2.2.2) (n := n) (Ts := lw_g) ⟨hx, hb, hml, hown, hts⟩ hc ⟨callB_of n hts (goodIn_lg mi' hco) rfl rfl rfl (hts _ hin) (hts _ hl1) hh hRm, hts _ him⟩ hpre rfl (by simpa using hn) hl.2.1 hstk (by show 2 * 0 + _ ≤ _; rw [cat_map]; omega) hd ⟨kn1 hR.2.2.1, kn1 hR.2.2.2⟩) hS hkk
  · exact callU (va_runSN (cc := mi.2.1) (nL := mi.2.2.1) (own := mi.1.cls) (host := host) (bytes := mi'.2.1) (maxL := mi'.2.2.1) (ret := mi'.2.2.2) (n := n) (Ts := lw_g) ⟨hx, hb, hml, hown, hts⟩ hc ⟨va_cnB n hts (goodIn_lg mi' hco) rfl rfl rfl (hK.2 _ hl1) (hts _ hin) hh hRm, hts _ him, trivial⟩ hpre rfl (by simpa using hn) hl.2.1 hstk (by show 2 * 0 + _ ≤ _; rw [cat_map]; omega) hd ⟨kn1 hR.2.2.1, kn1 hR.2.2.2⟩) hS hkk
theorem ycV0r {idx i ci : Nat} {fs : List (Nat × Nat)} {v : Value} {M1 : Mm} {mi' : Mi} {d' : Nat} (hd : decode mi.2.1 pc = .ok (.invokevirtual idx, 3)) (hm : MOV mi' 0) (hl0 : ML mi.1.cls idx mi'.1) (hs : shp i = (0, ci, fs)) (hci : (vwCl[ci]?).map (fun q => q.1) = some mi'.1.cls) (hW : (st.map fun v => v.category).sum ≤ 8) (hdd : d' + 1 ≤ d) (hc : Call G d' mi' (.ref i :: []) M (eqQ (some v) M1)) (k : EvL tb b9 G d mi (pc + 3) ls (v :: st) M1 Q) : EvL tb b9 G d mi pc ls (.ref i :: st) M Q := y_callV hd hm hl0 hs hci (as := []) rfl rfl hW hdd hc (fun r M2 h => by obtain ⟨rfl, rfl⟩ := h; exact k)
theorem ycV0x {idx i ci : Nat} {fs : List (Nat × Nat)} {Q' : Option Value → Mm → Prop} {mi' : Mi} {d' : Nat} (hd : decode mi.2.1 pc = .ok (.invokevirtual idx, 3)) (hm : MOV mi' 0) (hl0 : ML mi.1.cls idx mi'.1) (hs : shp i = (0, ci, fs)) (hci : (vwCl[ci]?).map (fun q => q.1) = some mi'.1.cls) (hW : (st.map fun v => v.category).sum ≤ 8) (hdd : d' + 1 ≤ d) (hc : Call G d' mi' (.ref i :: []) M Q') (k : ∀ r M1, Q' r M1 → EvL tb b9 G d mi (pc + 3) ls (r.toList ++ st) M1 Q) : EvL tb b9 G d mi pc ls (.ref i :: st) M Q := y_callV hd hm hl0 hs hci (as := []) rfl rfl hW hdd hc k
theorem ycV1r {idx i ci : Nat} {fs : List (Nat × Nat)} {a1 : Value} {v : Value} {M1 : Mm} {mi' : Mi} {d' : Nat} (hd : decode mi.2.1 pc = .ok (.invokevirtual idx, 3)) (hm : MOV mi' 1) (hl0 : ML mi.1.cls idx mi'.1) (hs : shp i = (0, ci, fs)) (hci : (vwCl[ci]?).map (fun q => q.1) = some mi'.1.cls) (hW : (st.map fun v => v.category).sum ≤ 8) (hdd : d' + 1 ≤ d) (hc : Call G d' mi' (.ref i :: [a1]) M (eqQ (some v) M1)) (k : EvL tb b9 G d mi (pc + 3) ls (v :: st) M1 Q) : EvL tb b9 G d mi pc ls (a1 :: .ref i :: st) M Q := y_callV hd hm hl0 hs hci (as := [a1]) rfl rfl hW hdd hc (fun r M2 h => by obtain ⟨rfl, rfl⟩ := h; exact k)
theorem ycV1x {idx i ci : Nat} {fs : List (Nat × Nat)} {a1 : Value} {Q' : Option Value → Mm → Prop} {mi' : Mi} {d' : Nat} (hd : decode mi.2.1 pc = .ok (.invokevirtual idx, 3)) (hm : MOV mi' 1) (hl0 : ML mi.1.cls idx mi'.1) (hs : shp i = (0, ci, fs)) (hci : (vwCl[ci]?).map (fun q => q.1) = some mi'.1.cls) (hW : (st.map fun v => v.category).sum ≤ 8) (hdd : d' + 1 ≤ d) (hc : Call G d' mi' (.ref i :: [a1]) M Q') (k : ∀ r M1, Q' r M1 → EvL tb b9 G d mi (pc + 3) ls (r.toList ++ st) M1 Q) : EvL tb b9 G d mi pc ls (a1 :: .ref i :: st) M Q := y_callV hd hm hl0 hs hci (as := [a1]) rfl rfl hW hdd hc k
theorem ycV2r {idx i ci : Nat} {fs : List (Nat × Nat)} {a1 a2 : Value} {v : Value} {M1 : Mm} {mi' : Mi} {d' : Nat} (hd : decode mi.2.1 pc = .ok (.invokevirtual idx, 3)) (hm : MOV mi' 2) (hl0 : ML mi.1.cls idx mi'.1) (hs : shp i = (0, ci, fs)) (hci : (vwCl[ci]?).map (fun q => q.1) = some mi'.1.cls) (hW : (st.map fun v => v.category).sum ≤ 8) (hdd : d' + 1 ≤ d) (hc : Call G d' mi' (.ref i :: [a1, a2]) M (eqQ (some v) M1)) (k : EvL tb b9 G d mi (pc + 3) ls (v :: st) M1 Q) : EvL tb b9 G d mi pc ls (a2 :: a1 :: .ref i :: st) M Q := y_callV hd hm hl0 hs hci (as := [a1, a2]) rfl rfl hW hdd hc (fun r M2 h => by obtain ⟨rfl, rfl⟩ := h; exact k)
theorem ycV2x {idx i ci : Nat} {fs : List (Nat × Nat)} {a1 a2 : Value} {Q' : Option Value → Mm → Prop} {mi' : Mi} {d' : Nat} (hd : decode mi.2.1 pc = .ok (.invokevirtual idx, 3)) (hm : MOV mi' 2) (hl0 : ML mi.1.cls idx mi'.1) (hs : shp i = (0, ci, fs)) (hci : (vwCl[ci]?).map (fun q => q.1) = some mi'.1.cls) (hW : (st.map fun v => v.category).sum ≤ 8) (hdd : d' + 1 ≤ d) (hc : Call G d' mi' (.ref i :: [a1, a2]) M Q') (k : ∀ r M1, Q' r M1 → EvL tb b9 G d mi (pc + 3) ls (r.toList ++ st) M1 Q) : EvL tb b9 G d mi pc ls (a2 :: a1 :: .ref i :: st) M Q := y_callV hd hm hl0 hs hci (as := [a1, a2]) rfl rfl hW hdd hc k
theorem ycV3r {idx i ci : Nat} {fs : List (Nat × Nat)} {a1 a2 a3 : Value} {v : Value} {M1 : Mm} {mi' : Mi} {d' : Nat} (hd : decode mi.2.1 pc = .ok (.invokevirtual idx, 3)) (hm : MOV mi' 3) (hl0 : ML mi.1.cls idx mi'.1) (hs : shp i = (0, ci, fs)) (hci : (vwCl[ci]?).map (fun q => q.1) = some mi'.1.cls) (hW : (st.map fun v => v.category).sum ≤ 8) (hdd : d' + 1 ≤ d) (hc : Call G d' mi' (.ref i :: [a1, a2, a3]) M (eqQ (some v) M1)) (k : EvL tb b9 G d mi (pc + 3) ls (v :: st) M1 Q) : EvL tb b9 G d mi pc ls (a3 :: a2 :: a1 :: .ref i :: st) M Q := y_callV hd hm hl0 hs hci (as := [a1, a2, a3]) rfl rfl hW hdd hc (fun r M2 h => by obtain ⟨rfl, rfl⟩ := h; exact k)
theorem ycV3x {idx i ci : Nat} {fs : List (Nat × Nat)} {a1 a2 a3 : Value} {Q' : Option Value → Mm → Prop} {mi' : Mi} {d' : Nat} (hd : decode mi.2.1 pc = .ok (.invokevirtual idx, 3)) (hm : MOV mi' 3) (hl0 : ML mi.1.cls idx mi'.1) (hs : shp i = (0, ci, fs)) (hci : (vwCl[ci]?).map (fun q => q.1) = some mi'.1.cls) (hW : (st.map fun v => v.category).sum ≤ 8) (hdd : d' + 1 ≤ d) (hc : Call G d' mi' (.ref i :: [a1, a2, a3]) M Q') (k : ∀ r M1, Q' r M1 → EvL tb b9 G d mi (pc + 3) ls (r.toList ++ st) M1 Q) : EvL tb b9 G d mi pc ls (a3 :: a2 :: a1 :: .ref i :: st) M Q := y_callV hd hm hl0 hs hci (as := [a1, a2, a3]) rfl rfl hW hdd hc k
theorem ycV4r {idx i ci : Nat} {fs : List (Nat × Nat)} {a1 a2 a3 a4 : Value} {v : Value} {M1 : Mm} {mi' : Mi} {d' : Nat} (hd : decode mi.2.1 pc = .ok (.invokevirtual idx, 3)) (hm : MOV mi' 4) (hl0 : ML mi.1.cls idx mi'.1) (hs : shp i = (0, ci, fs)) (hci : (vwCl[ci]?).map (fun q => q.1) = some mi'.1.cls) (hW : (st.map fun v => v.category).sum ≤ 8) (hdd : d' + 1 ≤ d) (hc : Call G d' mi' (.ref i :: [a1, a2, a3, a4]) M (eqQ (some v) M1)) (k : EvL tb b9 G d mi (pc + 3) ls (v :: st) M1 Q) : EvL tb b9 G d mi pc ls (a4 :: a3 :: a2 :: a1 :: .ref i :: st) M Q := y_callV hd hm hl0 hs hci (as := [a1, a2, a3, a4]) rfl rfl hW hdd hc (fun r M2 h => by obtain ⟨rfl, rfl⟩ := h; exact k)
theorem ycV4x {idx i ci : Nat} {fs : List (Nat × Nat)} {a1 a2 a3 a4 : Value} {Q' : Option Value → Mm → Prop} {mi' : Mi} {d' : Nat} (hd : decode mi.2.1 pc = .ok (.invokevirtual idx, 3)) (hm : MOV mi' 4) (hl0 : ML mi.1.cls idx mi'.1) (hs : shp i = (0, ci, fs)) (hci : (vwCl[ci]?).map (fun q => q.1) = some mi'.1.cls) (hW : (st.map fun v => v.category).sum ≤ 8) (hdd : d' + 1 ≤ d) (hc : Call G d' mi' (.ref i :: [a1, a2, a3, a4]) M Q') (k : ∀ r M1, Q' r M1 → EvL tb b9 G d mi (pc + 3) ls (r.toList ++ st) M1 Q) : EvL tb b9 G d mi pc ls (a4 :: a3 :: a2 :: a1 :: .ref i :: st) M Q := y_callV hd hm hl0 hs hci (as := [a1, a2, a3, a4]) rfl rfl hW hdd hc k
theorem y_sld {j : Int32} (hd : decode mi.2.1 pc = .ok (.iaload, 1)) (hj : vp_in j G.L) (k : EvL tb b9 G d mi (pc + 1) ls (.int (G.xs j.toNatClampNeg) :: st) M Q) : EvL tb b9 G d mi pc ls (.int j :: .ref 2200 :: st) M Q := by
  intro p e s m args below meth c R Z k0 n0 H locs lsA C hP hS hl
  obtain ⟨⟨hx, hb, hml, hown, hts, hK, hRO, hRT, hG, hPT, htb⟩, hR, hret⟩ := id C
  obtain ⟨scr, hs1, hs2⟩ := hRO.1.1
  exact va_sld hx hb ⟨scr, hs1, hs2⟩ (Array.getElem?_eq_some_iff.mp hs1).1 hRO.1.2 hS hj hd (k p e s m args below meth c R Z k0 n0 H locs lsA C hP hS hl)
theorem y_slen (hd : decode mi.2.1 pc = .ok (.arraylength, 1)) (k : EvL tb b9 G d mi (pc + 1) ls (.int (Int32.ofNat G.L) :: st) M Q) : EvL tb b9 G d mi pc ls (.ref 2200 :: st) M Q := by
  intro p e s m args below meth c R Z k0 n0 H locs lsA C hP hS hl
  obtain ⟨⟨hx, hb, hml, hown, hts, hK, hRO, hRT, hG, hPT, htb⟩, hR, hret⟩ := id C
  obtain ⟨scr, hs1, hs2⟩ := hRO.1.1
  exact va_slen hx hb ⟨scr, hs1, hs2⟩ (Array.getElem?_eq_some_iff.mp hs1).1 hRO.1.2 hS hd (k p e s m args below meth c R Z k0 n0 H locs lsA C hP hS hl)
end
end YLW
