section PM3
variable {G : Gt} {d : Nat} {mi : Mi} {pc : Nat} {ls st : List Value} {M : Mm} {Q : Option Value → Mm → Prop}
theorem lr_size {ad : Nat → Nat} {lsA : Array Slot} {nL : Nat} {ls : List Value} (h : lr ad lsA nL ls) : lsA.size = nL := h.2.1
theorem e_iconst {n : Int} {v : Int32} (hd : decode mi.2.1 pc = .ok (.iconst n, 1)) (hv : Int32.ofInt n = v) (k : Ev G d mi (pc + 1) ls (.int v :: st) M Q) : Ev G d mi pc ls (st) M Q := by
  intro p e s m args below meth c R Z k0 n0 H locs lsA C hP hS hl
  obtain ⟨⟨hx, hb, hml, hown, hts, hK, hRO, hRT, hG⟩, hR, hret⟩ := id C
  exact lv_iconst hx hb hd hv (k p e s m args below meth c R Z k0 n0 H locs lsA C hP hS hl)
theorem e_bipush {n : Int} {v : Int32} (hd : decode mi.2.1 pc = .ok (.bipush n, 2)) (hv : (Int8.ofInt n).toInt32 = v) (k : Ev G d mi (pc + 2) ls (.int v :: st) M Q) : Ev G d mi pc ls (st) M Q := by
  intro p e s m args below meth c R Z k0 n0 H locs lsA C hP hS hl
  obtain ⟨⟨hx, hb, hml, hown, hts, hK, hRO, hRT, hG⟩, hR, hret⟩ := id C
  exact lv_bipush hx hb hd hv (k p e s m args below meth c R Z k0 n0 H locs lsA C hP hS hl)
theorem e_sipush {n : Int} {v : Int32} (hd : decode mi.2.1 pc = .ok (.sipush n, 3)) (hv : (Int16.ofInt n).toInt32 = v) (k : Ev G d mi (pc + 3) ls (.int v :: st) M Q) : Ev G d mi pc ls (st) M Q := by
  intro p e s m args below meth c R Z k0 n0 H locs lsA C hP hS hl
  obtain ⟨⟨hx, hb, hml, hown, hts, hK, hRO, hRT, hG⟩, hR, hret⟩ := id C
  exact lv_sipush hx hb hd hv (k p e s m args below meth c R Z k0 n0 H locs lsA C hP hS hl)
theorem e_lconst {n : Fin 2} {v : Int64} (hd : decode mi.2.1 pc = .ok (.lconst n, 1)) (hv : Int64.ofNat (n : Nat) = v) (k : Ev G d mi (pc + 1) ls (.long v :: st) M Q) : Ev G d mi pc ls (st) M Q := by
  intro p e s m args below meth c R Z k0 n0 H locs lsA C hP hS hl
  obtain ⟨⟨hx, hb, hml, hown, hts, hK, hRO, hRT, hG⟩, hR, hret⟩ := id C
  exact lv_lconst hx hb hd hv (k p e s m args below meth c R Z k0 n0 H locs lsA C hP hS hl)
theorem e_anull (hd : decode mi.2.1 pc = .ok (.aconst_null, 1)) (k : Ev G d mi (pc + 1) ls (.null :: st) M Q) : Ev G d mi pc ls (st) M Q := by
  intro p e s m args below meth c R Z k0 n0 H locs lsA C hP hS hl
  obtain ⟨⟨hx, hb, hml, hown, hts, hK, hRO, hRT, hG⟩, hR, hret⟩ := id C
  exact lv_null hx hb hd (k p e s m args below meth c R Z k0 n0 H locs lsA C hP hS hl)
theorem e_iload_n {n : Fin 4} {x : Int32} (hd : decode mi.2.1 pc = .ok (.iload_n n, 1)) (h : ls[(n : Nat)]? = some (.int x)) (k : Ev G d mi (pc + 1) ls (.int x :: st) M Q) : Ev G d mi pc ls (st) M Q := by
  intro p e s m args below meth c R Z k0 n0 H locs lsA C hP hS hl
  obtain ⟨⟨hx, hb, hml, hown, hts, hK, hRO, hRT, hG⟩, hR, hret⟩ := id C
  exact lv_iload_n hx hb hd rfl (lr_at hl h rfl) (k p e s m args below meth c R Z k0 n0 H locs lsA C hP hS hl)
theorem e_iload {i : Nat} {x : Int32} (hd : decode mi.2.1 pc = .ok (.iload i, 2)) (h : ls[i]? = some (.int x)) (k : Ev G d mi (pc + 2) ls (.int x :: st) M Q) : Ev G d mi pc ls (st) M Q := by
  intro p e s m args below meth c R Z k0 n0 H locs lsA C hP hS hl
  obtain ⟨⟨hx, hb, hml, hown, hts, hK, hRO, hRT, hG⟩, hR, hret⟩ := id C
  exact lv_iload hx hb hd (lr_at hl h rfl) (k p e s m args below meth c R Z k0 n0 H locs lsA C hP hS hl)
theorem e_lload_n {n : Fin 4} {x : Int64} (hd : decode mi.2.1 pc = .ok (.lload_n n, 1)) (h : ls[(n : Nat)]? = some (.long x)) (k : Ev G d mi (pc + 1) ls (.long x :: st) M Q) : Ev G d mi pc ls (st) M Q := by
  intro p e s m args below meth c R Z k0 n0 H locs lsA C hP hS hl
  obtain ⟨⟨hx, hb, hml, hown, hts, hK, hRO, hRT, hG⟩, hR, hret⟩ := id C
  exact lv_lload_n hx hb hd rfl (lr_at hl h rfl) (k p e s m args below meth c R Z k0 n0 H locs lsA C hP hS hl)
theorem e_lload {i : Nat} {x : Int64} (hd : decode mi.2.1 pc = .ok (.lload i, 2)) (h : ls[i]? = some (.long x)) (k : Ev G d mi (pc + 2) ls (.long x :: st) M Q) : Ev G d mi pc ls (st) M Q := by
  intro p e s m args below meth c R Z k0 n0 H locs lsA C hP hS hl
  obtain ⟨⟨hx, hb, hml, hown, hts, hK, hRO, hRT, hG⟩, hR, hret⟩ := id C
  exact lv_lload hx hb hd (lr_at hl h rfl) (k p e s m args below meth c R Z k0 n0 H locs lsA C hP hS hl)
theorem e_aload_n {n : Fin 4} {x : Nat} (hd : decode mi.2.1 pc = .ok (.aload_n n, 1)) (h : ls[(n : Nat)]? = some (.ref x)) (k : Ev G d mi (pc + 1) ls (.ref x :: st) M Q) : Ev G d mi pc ls (st) M Q := by
  intro p e s m args below meth c R Z k0 n0 H locs lsA C hP hS hl
  obtain ⟨⟨hx, hb, hml, hown, hts, hK, hRO, hRT, hG⟩, hR, hret⟩ := id C
  exact lv_aload_n hx hb hd rfl (lr_at hl h rfl) (k p e s m args below meth c R Z k0 n0 H locs lsA C hP hS hl)
theorem e_aload {i : Nat} {x : Nat} (hd : decode mi.2.1 pc = .ok (.aload i, 2)) (h : ls[i]? = some (.ref x)) (k : Ev G d mi (pc + 2) ls (.ref x :: st) M Q) : Ev G d mi pc ls (st) M Q := by
  intro p e s m args below meth c R Z k0 n0 H locs lsA C hP hS hl
  obtain ⟨⟨hx, hb, hml, hown, hts, hK, hRO, hRT, hG⟩, hR, hret⟩ := id C
  exact lv_aload hx hb hd (lr_at hl h rfl) (k p e s m args below meth c R Z k0 n0 H locs lsA C hP hS hl)
theorem e_aload_nN {n : Fin 4} (hd : decode mi.2.1 pc = .ok (.aload_n n, 1)) (h : ls[(n : Nat)]? = some .null) (k : Ev G d mi (pc + 1) ls (.null :: st) M Q) : Ev G d mi pc ls (st) M Q := by
  intro p e s m args below meth c R Z k0 n0 H locs lsA C hP hS hl
  obtain ⟨⟨hx, hb, hml, hown, hts, hK, hRO, hRT, hG⟩, hR, hret⟩ := id C
  exact lv_aload_nN hx hb hd rfl (lr_at hl h rfl) (k p e s m args below meth c R Z k0 n0 H locs lsA C hP hS hl)
theorem e_aloadN {i : Nat} (hd : decode mi.2.1 pc = .ok (.aload i, 2)) (h : ls[i]? = some .null) (k : Ev G d mi (pc + 2) ls (.null :: st) M Q) : Ev G d mi pc ls (st) M Q := by
  intro p e s m args below meth c R Z k0 n0 H locs lsA C hP hS hl
  obtain ⟨⟨hx, hb, hml, hown, hts, hK, hRO, hRT, hG⟩, hR, hret⟩ := id C
  exact lv_aloadN hx hb hd (lr_at hl h rfl) (k p e s m args below meth c R Z k0 n0 H locs lsA C hP hS hl)
theorem e_istore_n {n : Fin 4} {x : Int32} {ls' : List Value} (hd : decode mi.2.1 pc = .ok (.istore_n n, 1)) (hn : (n : Nat) < mi.2.2.1) (hs : stI ls (n : Nat) (.int x) = ls') (k : Ev G d mi (pc + 1) ls' st M Q) : Ev G d mi pc ls (.int x :: st) M Q := by
  intro p e s m args below meth c R Z k0 n0 H locs lsA C hP hS hl
  obtain ⟨⟨hx, hb, hml, hown, hts, hK, hRO, hRT, hG⟩, hR, hret⟩ := id C
  subst hs
  exact lv_istore_n hx hb hd rfl hl.2 hn rfl (fun lsB hB => k p e s m args below meth c R Z k0 n0 H locs lsB C hP hS (lr_stI (v := Value.int x) hl.1 hB))
theorem e_istore {i : Nat} {x : Int32} {ls' : List Value} (hd : decode mi.2.1 pc = .ok (.istore i, 2)) (hn : i < mi.2.2.1) (hs : stI ls i (.int x) = ls') (k : Ev G d mi (pc + 2) ls' st M Q) : Ev G d mi pc ls (.int x :: st) M Q := by
  intro p e s m args below meth c R Z k0 n0 H locs lsA C hP hS hl
  obtain ⟨⟨hx, hb, hml, hown, hts, hK, hRO, hRT, hG⟩, hR, hret⟩ := id C
  subst hs
  exact lv_istore hx hb hd hl.2 hn rfl (fun lsB hB => k p e s m args below meth c R Z k0 n0 H locs lsB C hP hS (lr_stI (v := Value.int x) hl.1 hB))
theorem e_lstore_n {n : Fin 4} {x : Int64} {ls' : List Value} (hd : decode mi.2.1 pc = .ok (.lstore_n n, 1)) (hn : (n : Nat) + 1 < mi.2.2.1) (hs : stL ls (n : Nat) (.long x) = ls') (k : Ev G d mi (pc + 1) ls' st M Q) : Ev G d mi pc ls (.long x :: st) M Q := by
  intro p e s m args below meth c R Z k0 n0 H locs lsA C hP hS hl
  obtain ⟨⟨hx, hb, hml, hown, hts, hK, hRO, hRT, hG⟩, hR, hret⟩ := id C
  subst hs
  exact lv_lstore_n hx hb hd rfl hl.2 hn rfl (fun lsB hB => k p e s m args below meth c R Z k0 n0 H locs lsB C hP hS (lr_stL (v := Value.long x) hl.1 hB))
theorem e_lstore {i : Nat} {x : Int64} {ls' : List Value} (hd : decode mi.2.1 pc = .ok (.lstore i, 2)) (hn : i + 1 < mi.2.2.1) (hs : stL ls i (.long x) = ls') (k : Ev G d mi (pc + 2) ls' st M Q) : Ev G d mi pc ls (.long x :: st) M Q := by
  intro p e s m args below meth c R Z k0 n0 H locs lsA C hP hS hl
  obtain ⟨⟨hx, hb, hml, hown, hts, hK, hRO, hRT, hG⟩, hR, hret⟩ := id C
  subst hs
  exact lv_lstore hx hb hd hl.2 hn rfl (fun lsB hB => k p e s m args below meth c R Z k0 n0 H locs lsB C hP hS (lr_stL (v := Value.long x) hl.1 hB))
theorem e_astore_n {n : Fin 4} {x : Nat} {ls' : List Value} (hd : decode mi.2.1 pc = .ok (.astore_n n, 1)) (hn : (n : Nat) < mi.2.2.1) (hs : stI ls (n : Nat) (.ref x) = ls') (k : Ev G d mi (pc + 1) ls' st M Q) : Ev G d mi pc ls (.ref x :: st) M Q := by
  intro p e s m args below meth c R Z k0 n0 H locs lsA C hP hS hl
  obtain ⟨⟨hx, hb, hml, hown, hts, hK, hRO, hRT, hG⟩, hR, hret⟩ := id C
  subst hs
  exact lv_astore_n hx hb hd rfl hl.2 hn rfl (fun lsB hB => k p e s m args below meth c R Z k0 n0 H locs lsB C hP hS (lr_stI (v := Value.ref x) hl.1 hB))
theorem e_astore {i : Nat} {x : Nat} {ls' : List Value} (hd : decode mi.2.1 pc = .ok (.astore i, 2)) (hn : i < mi.2.2.1) (hs : stI ls i (.ref x) = ls') (k : Ev G d mi (pc + 2) ls' st M Q) : Ev G d mi pc ls (.ref x :: st) M Q := by
  intro p e s m args below meth c R Z k0 n0 H locs lsA C hP hS hl
  obtain ⟨⟨hx, hb, hml, hown, hts, hK, hRO, hRT, hG⟩, hR, hret⟩ := id C
  subst hs
  exact lv_astore hx hb hd hl.2 hn rfl (fun lsB hB => k p e s m args below meth c R Z k0 n0 H locs lsB C hP hS (lr_stI (v := Value.ref x) hl.1 hB))
theorem e_astore_nN {n : Fin 4} {ls' : List Value} (hd : decode mi.2.1 pc = .ok (.astore_n n, 1)) (hn : (n : Nat) < mi.2.2.1) (hs : stI ls (n : Nat) (.null) = ls') (k : Ev G d mi (pc + 1) ls' st M Q) : Ev G d mi pc ls (.null :: st) M Q := by
  intro p e s m args below meth c R Z k0 n0 H locs lsA C hP hS hl
  obtain ⟨⟨hx, hb, hml, hown, hts, hK, hRO, hRT, hG⟩, hR, hret⟩ := id C
  subst hs
  exact lv_astore_nN hx hb hd rfl hl.2 hn rfl (fun lsB hB => k p e s m args below meth c R Z k0 n0 H locs lsB C hP hS (lr_stI (v := .null) hl.1 hB))
theorem e_astoreN {i : Nat} {ls' : List Value} (hd : decode mi.2.1 pc = .ok (.astore i, 2)) (hn : i < mi.2.2.1) (hs : stI ls i (.null) = ls') (k : Ev G d mi (pc + 2) ls' st M Q) : Ev G d mi pc ls (.null :: st) M Q := by
  intro p e s m args below meth c R Z k0 n0 H locs lsA C hP hS hl
  obtain ⟨⟨hx, hb, hml, hown, hts, hK, hRO, hRT, hG⟩, hR, hret⟩ := id C
  subst hs
  exact lv_astoreN hx hb hd hl.2 hn rfl (fun lsB hB => k p e s m args below meth c R Z k0 n0 H locs lsB C hP hS (lr_stI (v := .null) hl.1 hB))
theorem e_iinc {i : Nat} {n : Int} {x v : Int32} {ls' : List Value} (hd : decode mi.2.1 pc = .ok (.iinc i n, 3)) (h : ls[i]? = some (.int x)) (hv : x + Int32.ofInt n = v) (hn : i < mi.2.2.1) (hs : stI ls i (.int v) = ls') (k : Ev G d mi (pc + 3) ls' st M Q) : Ev G d mi pc ls st M Q := by
  intro p e s m args below meth c R Z k0 n0 H locs lsA C hP hS hl
  obtain ⟨⟨hx, hb, hml, hown, hts, hK, hRO, hRT, hG⟩, hR, hret⟩ := id C
  subst hs
  have hm : (i, Value.int x) ∈ lqF G.ad 0 ls := (lqF_mem ls 0).mpr ⟨.int x, Nat.zero_le _, by simpa using h, rfl, rfl⟩
  obtain ⟨q, hq⟩ := List.getElem?_of_mem hm
  exact lv_iinc hx hb hd hl.2 hq hv hn rfl (fun lsB hB => k p e s m args below meth c R Z k0 n0 H locs lsB C hP hS (lr_stI (v := Value.int v) hl.1 hB))
theorem e_iadd {x y : Int32} (hd : decode mi.2.1 pc = .ok (.iadd, 1)) (k : Ev G d mi (pc + 1) ls (.int (x + y) :: st) M Q) : Ev G d mi pc ls (.int y :: .int x :: st) M Q := by
  intro p e s m args below meth c R Z k0 n0 H locs lsA C hP hS hl
  obtain ⟨⟨hx, hb, hml, hown, hts, hK, hRO, hRT, hG⟩, hR, hret⟩ := id C
  exact lv_iadd hx hb hd (k p e s m args below meth c R Z k0 n0 H locs lsA C hP hS hl)
theorem e_isub {x y : Int32} (hd : decode mi.2.1 pc = .ok (.isub, 1)) (k : Ev G d mi (pc + 1) ls (.int (x - y) :: st) M Q) : Ev G d mi pc ls (.int y :: .int x :: st) M Q := by
  intro p e s m args below meth c R Z k0 n0 H locs lsA C hP hS hl
  obtain ⟨⟨hx, hb, hml, hown, hts, hK, hRO, hRT, hG⟩, hR, hret⟩ := id C
  exact lv_isub hx hb hd (k p e s m args below meth c R Z k0 n0 H locs lsA C hP hS hl)
theorem e_imul {x y : Int32} (hd : decode mi.2.1 pc = .ok (.imul, 1)) (k : Ev G d mi (pc + 1) ls (.int (x * y) :: st) M Q) : Ev G d mi pc ls (.int y :: .int x :: st) M Q := by
  intro p e s m args below meth c R Z k0 n0 H locs lsA C hP hS hl
  obtain ⟨⟨hx, hb, hml, hown, hts, hK, hRO, hRT, hG⟩, hR, hret⟩ := id C
  exact lv_imul hx hb hd (k p e s m args below meth c R Z k0 n0 H locs lsA C hP hS hl)
theorem e_iand {x y : Int32} (hd : decode mi.2.1 pc = .ok (.iand, 1)) (k : Ev G d mi (pc + 1) ls (.int (x &&& y) :: st) M Q) : Ev G d mi pc ls (.int y :: .int x :: st) M Q := by
  intro p e s m args below meth c R Z k0 n0 H locs lsA C hP hS hl
  obtain ⟨⟨hx, hb, hml, hown, hts, hK, hRO, hRT, hG⟩, hR, hret⟩ := id C
  exact lv_iand hx hb hd (k p e s m args below meth c R Z k0 n0 H locs lsA C hP hS hl)
theorem e_ior {x y : Int32} (hd : decode mi.2.1 pc = .ok (.ior, 1)) (k : Ev G d mi (pc + 1) ls (.int (x ||| y) :: st) M Q) : Ev G d mi pc ls (.int y :: .int x :: st) M Q := by
  intro p e s m args below meth c R Z k0 n0 H locs lsA C hP hS hl
  obtain ⟨⟨hx, hb, hml, hown, hts, hK, hRO, hRT, hG⟩, hR, hret⟩ := id C
  exact lv_ior hx hb hd (k p e s m args below meth c R Z k0 n0 H locs lsA C hP hS hl)
theorem e_ixor {x y : Int32} (hd : decode mi.2.1 pc = .ok (.ixor, 1)) (k : Ev G d mi (pc + 1) ls (.int (x ^^^ y) :: st) M Q) : Ev G d mi pc ls (.int y :: .int x :: st) M Q := by
  intro p e s m args below meth c R Z k0 n0 H locs lsA C hP hS hl
  obtain ⟨⟨hx, hb, hml, hown, hts, hK, hRO, hRT, hG⟩, hR, hret⟩ := id C
  exact lv_ixor hx hb hd (k p e s m args below meth c R Z k0 n0 H locs lsA C hP hS hl)
theorem e_ishl {x y : Int32} (hd : decode mi.2.1 pc = .ok (.ishl, 1)) (k : Ev G d mi (pc + 1) ls (.int (x <<< (y &&& 31)) :: st) M Q) : Ev G d mi pc ls (.int y :: .int x :: st) M Q := by
  intro p e s m args below meth c R Z k0 n0 H locs lsA C hP hS hl
  obtain ⟨⟨hx, hb, hml, hown, hts, hK, hRO, hRT, hG⟩, hR, hret⟩ := id C
  exact lv_ishl hx hb hd (k p e s m args below meth c R Z k0 n0 H locs lsA C hP hS hl)
theorem e_ishr {x y : Int32} (hd : decode mi.2.1 pc = .ok (.ishr, 1)) (k : Ev G d mi (pc + 1) ls (.int (x >>> (y &&& 31)) :: st) M Q) : Ev G d mi pc ls (.int y :: .int x :: st) M Q := by
  intro p e s m args below meth c R Z k0 n0 H locs lsA C hP hS hl
  obtain ⟨⟨hx, hb, hml, hown, hts, hK, hRO, hRT, hG⟩, hR, hret⟩ := id C
  exact lv_ishr hx hb hd (k p e s m args below meth c R Z k0 n0 H locs lsA C hP hS hl)
theorem e_iushr {x y : Int32} (hd : decode mi.2.1 pc = .ok (.iushr, 1)) (k : Ev G d mi (pc + 1) ls (.int (x.toUInt32 >>> (y.toUInt32 &&& Int32.toUInt32 31)).toInt32 :: st) M Q) : Ev G d mi pc ls (.int y :: .int x :: st) M Q := by
  intro p e s m args below meth c R Z k0 n0 H locs lsA C hP hS hl
  obtain ⟨⟨hx, hb, hml, hown, hts, hK, hRO, hRT, hG⟩, hR, hret⟩ := id C
  exact lv_iushr hx hb hd rfl (k p e s m args below meth c R Z k0 n0 H locs lsA C hP hS hl)
theorem e_idiv {x y : Int32} (hd : decode mi.2.1 pc = .ok (.idiv, 1)) (hne : ¬ y = 0) (k : Ev G d mi (pc + 1) ls (.int (x / y) :: st) M Q) : Ev G d mi pc ls (.int y :: .int x :: st) M Q := by
  intro p e s m args below meth c R Z k0 n0 H locs lsA C hP hS hl
  obtain ⟨⟨hx, hb, hml, hown, hts, hK, hRO, hRT, hG⟩, hR, hret⟩ := id C
  exact lv_idiv hx hb hd hne (k p e s m args below meth c R Z k0 n0 H locs lsA C hP hS hl)
theorem e_irem {x y : Int32} (hd : decode mi.2.1 pc = .ok (.irem, 1)) (hne : ¬ y = 0) (k : Ev G d mi (pc + 1) ls (.int (x - x / y * y) :: st) M Q) : Ev G d mi pc ls (.int y :: .int x :: st) M Q := by
  intro p e s m args below meth c R Z k0 n0 H locs lsA C hP hS hl
  obtain ⟨⟨hx, hb, hml, hown, hts, hK, hRO, hRT, hG⟩, hR, hret⟩ := id C
  exact lv_irem hx hb hd hne (k p e s m args below meth c R Z k0 n0 H locs lsA C hP hS hl)
theorem e_ineg {x : Int32} (hd : decode mi.2.1 pc = .ok (.ineg, 1)) (k : Ev G d mi (pc + 1) ls (.int (-x) :: st) M Q) : Ev G d mi pc ls (.int x :: st) M Q := by
  intro p e s m args below meth c R Z k0 n0 H locs lsA C hP hS hl
  obtain ⟨⟨hx, hb, hml, hown, hts, hK, hRO, hRT, hG⟩, hR, hret⟩ := id C
  exact lv_ineg hx hb hd (k p e s m args below meth c R Z k0 n0 H locs lsA C hP hS hl)
theorem e_ladd {x y : Int64} (hd : decode mi.2.1 pc = .ok (.ladd, 1)) (k : Ev G d mi (pc + 1) ls (.long (x + y) :: st) M Q) : Ev G d mi pc ls (.long y :: .long x :: st) M Q := by
  intro p e s m args below meth c R Z k0 n0 H locs lsA C hP hS hl
  obtain ⟨⟨hx, hb, hml, hown, hts, hK, hRO, hRT, hG⟩, hR, hret⟩ := id C
  exact lv_ladd hx hb hd (k p e s m args below meth c R Z k0 n0 H locs lsA C hP hS hl)
theorem e_lsub {x y : Int64} (hd : decode mi.2.1 pc = .ok (.lsub, 1)) (k : Ev G d mi (pc + 1) ls (.long (x - y) :: st) M Q) : Ev G d mi pc ls (.long y :: .long x :: st) M Q := by
  intro p e s m args below meth c R Z k0 n0 H locs lsA C hP hS hl
  obtain ⟨⟨hx, hb, hml, hown, hts, hK, hRO, hRT, hG⟩, hR, hret⟩ := id C
  exact lv_lsub hx hb hd (k p e s m args below meth c R Z k0 n0 H locs lsA C hP hS hl)
theorem e_lmul {x y : Int64} (hd : decode mi.2.1 pc = .ok (.lmul, 1)) (k : Ev G d mi (pc + 1) ls (.long (x * y) :: st) M Q) : Ev G d mi pc ls (.long y :: .long x :: st) M Q := by
  intro p e s m args below meth c R Z k0 n0 H locs lsA C hP hS hl
  obtain ⟨⟨hx, hb, hml, hown, hts, hK, hRO, hRT, hG⟩, hR, hret⟩ := id C
  exact lv_lmul hx hb hd (k p e s m args below meth c R Z k0 n0 H locs lsA C hP hS hl)
theorem e_land {x y : Int64} (hd : decode mi.2.1 pc = .ok (.land, 1)) (k : Ev G d mi (pc + 1) ls (.long (x &&& y) :: st) M Q) : Ev G d mi pc ls (.long y :: .long x :: st) M Q := by
  intro p e s m args below meth c R Z k0 n0 H locs lsA C hP hS hl
  obtain ⟨⟨hx, hb, hml, hown, hts, hK, hRO, hRT, hG⟩, hR, hret⟩ := id C
  exact lv_land hx hb hd (k p e s m args below meth c R Z k0 n0 H locs lsA C hP hS hl)
theorem e_lor {x y : Int64} (hd : decode mi.2.1 pc = .ok (.lor, 1)) (k : Ev G d mi (pc + 1) ls (.long (x ||| y) :: st) M Q) : Ev G d mi pc ls (.long y :: .long x :: st) M Q := by
  intro p e s m args below meth c R Z k0 n0 H locs lsA C hP hS hl
  obtain ⟨⟨hx, hb, hml, hown, hts, hK, hRO, hRT, hG⟩, hR, hret⟩ := id C
  exact lv_lor hx hb hd (k p e s m args below meth c R Z k0 n0 H locs lsA C hP hS hl)
theorem e_lxor {x y : Int64} (hd : decode mi.2.1 pc = .ok (.lxor, 1)) (k : Ev G d mi (pc + 1) ls (.long (x ^^^ y) :: st) M Q) : Ev G d mi pc ls (.long y :: .long x :: st) M Q := by
  intro p e s m args below meth c R Z k0 n0 H locs lsA C hP hS hl
  obtain ⟨⟨hx, hb, hml, hown, hts, hK, hRO, hRT, hG⟩, hR, hret⟩ := id C
  exact lv_lxor hx hb hd (k p e s m args below meth c R Z k0 n0 H locs lsA C hP hS hl)
theorem e_ldiv {x y : Int64} (hd : decode mi.2.1 pc = .ok (.ldiv, 1)) (hne : ¬ y = 0) (k : Ev G d mi (pc + 1) ls (.long (x / y) :: st) M Q) : Ev G d mi pc ls (.long y :: .long x :: st) M Q := by
  intro p e s m args below meth c R Z k0 n0 H locs lsA C hP hS hl
  obtain ⟨⟨hx, hb, hml, hown, hts, hK, hRO, hRT, hG⟩, hR, hret⟩ := id C
  exact lv_ldiv hx hb hd hne (k p e s m args below meth c R Z k0 n0 H locs lsA C hP hS hl)
theorem e_lrem {x y : Int64} (hd : decode mi.2.1 pc = .ok (.lrem, 1)) (hne : ¬ y = 0) (k : Ev G d mi (pc + 1) ls (.long (x - x / y * y) :: st) M Q) : Ev G d mi pc ls (.long y :: .long x :: st) M Q := by
  intro p e s m args below meth c R Z k0 n0 H locs lsA C hP hS hl
  obtain ⟨⟨hx, hb, hml, hown, hts, hK, hRO, hRT, hG⟩, hR, hret⟩ := id C
  exact lv_lrem hx hb hd hne (k p e s m args below meth c R Z k0 n0 H locs lsA C hP hS hl)
theorem e_lushr {x : Int64} {y : Int32} (hd : decode mi.2.1 pc = .ok (.lushr, 1)) (k : Ev G d mi (pc + 1) ls (.long (x.toUInt64 >>> (y.toInt64.toUInt64 &&& Int64.toUInt64 63)).toInt64 :: st) M Q) : Ev G d mi pc ls (.int y :: .long x :: st) M Q := by
  intro p e s m args below meth c R Z k0 n0 H locs lsA C hP hS hl
  obtain ⟨⟨hx, hb, hml, hown, hts, hK, hRO, hRT, hG⟩, hR, hret⟩ := id C
  exact lv_lushr hx hb hd rfl (k p e s m args below meth c R Z k0 n0 H locs lsA C hP hS hl)
theorem e_lshl {x : Int64} {y : Int32} (hd : decode mi.2.1 pc = .ok (.lshl, 1)) (k : Ev G d mi (pc + 1) ls (.long (x <<< (y.toInt64 &&& 63)) :: st) M Q) : Ev G d mi pc ls (.int y :: .long x :: st) M Q := by
  intro p e s m args below meth c R Z k0 n0 H locs lsA C hP hS hl
  obtain ⟨⟨hx, hb, hml, hown, hts, hK, hRO, hRT, hG⟩, hR, hret⟩ := id C
  exact lv_lshl hx hb hd rfl (k p e s m args below meth c R Z k0 n0 H locs lsA C hP hS hl)
theorem e_lshr {x v : Int64} {y : Int32} (hd : decode mi.2.1 pc = .ok (.lshr, 1)) (hv : x >>> (y.toInt64 &&& 63) = v) (k : Ev G d mi (pc + 1) ls (.long v :: st) M Q) : Ev G d mi pc ls (.int y :: .long x :: st) M Q := by
  intro p e s m args below meth c R Z k0 n0 H locs lsA C hP hS hl
  obtain ⟨⟨hx, hb, hml, hown, hts, hK, hRO, hRT, hG⟩, hR, hret⟩ := id C
  exact lv_lshr hx hb hd hv (k p e s m args below meth c R Z k0 n0 H locs lsA C hP hS hl)
theorem e_i2l {x : Int32} (hd : decode mi.2.1 pc = .ok (.i2l, 1)) (k : Ev G d mi (pc + 1) ls (.long x.toInt64 :: st) M Q) : Ev G d mi pc ls (.int x :: st) M Q := by
  intro p e s m args below meth c R Z k0 n0 H locs lsA C hP hS hl
  obtain ⟨⟨hx, hb, hml, hown, hts, hK, hRO, hRT, hG⟩, hR, hret⟩ := id C
  exact lv_i2l hx hb hd rfl (k p e s m args below meth c R Z k0 n0 H locs lsA C hP hS hl)
theorem e_l2i {x : Int64} (hd : decode mi.2.1 pc = .ok (.l2i, 1)) (k : Ev G d mi (pc + 1) ls (.int x.toInt32 :: st) M Q) : Ev G d mi pc ls (.long x :: st) M Q := by
  intro p e s m args below meth c R Z k0 n0 H locs lsA C hP hS hl
  obtain ⟨⟨hx, hb, hml, hown, hts, hK, hRO, hRT, hG⟩, hR, hret⟩ := id C
  exact lv_l2i hx hb hd rfl (k p e s m args below meth c R Z k0 n0 H locs lsA C hP hS hl)
theorem e_i2c {x : Int32} (hd : decode mi.2.1 pc = .ok (.i2c, 1)) (k : Ev G d mi (pc + 1) ls (.int (x.toUInt32 % 65536).toInt32 :: st) M Q) : Ev G d mi pc ls (.int x :: st) M Q := by
  intro p e s m args below meth c R Z k0 n0 H locs lsA C hP hS hl
  obtain ⟨⟨hx, hb, hml, hown, hts, hK, hRO, hRT, hG⟩, hR, hret⟩ := id C
  exact lv_i2c hx hb hd rfl (k p e s m args below meth c R Z k0 n0 H locs lsA C hP hS hl)
theorem e_lcmp {x y : Int64} (hd : decode mi.2.1 pc = .ok (.lcmp, 1)) (k : Ev G d mi (pc + 1) ls (.int (lg_cmp x y) :: st) M Q) : Ev G d mi pc ls (.long y :: .long x :: st) M Q := by
  intro p e s m args below meth c R Z k0 n0 H locs lsA C hP hS hl
  obtain ⟨⟨hx, hb, hml, hown, hts, hK, hRO, hRT, hG⟩, hR, hret⟩ := id C
  exact W.lcmp hx hb hd (k p e s m args below meth c R Z k0 n0 H locs lsA C hP hS hl)
theorem e_dup {v : Value} (hd : decode mi.2.1 pc = .ok (.dup, 1)) (hv : v.category = 1) (k : Ev G d mi (pc + 1) ls (v :: v :: st) M Q) : Ev G d mi pc ls (v :: st) M Q := by
  intro p e s m args below meth c R Z k0 n0 H locs lsA C hP hS hl
  obtain ⟨⟨hx, hb, hml, hown, hts, hK, hRO, hRT, hG⟩, hR, hret⟩ := id C
  exact lv_dup hx hb hd (by rw [tv_cat]; exact hv) (k p e s m args below meth c R Z k0 n0 H locs lsA C hP hS hl)
theorem e_pop {v : Value} (hd : decode mi.2.1 pc = .ok (.pop, 1)) (hv : v.category = 1) (k : Ev G d mi (pc + 1) ls (st) M Q) : Ev G d mi pc ls (v :: st) M Q := by
  intro p e s m args below meth c R Z k0 n0 H locs lsA C hP hS hl
  obtain ⟨⟨hx, hb, hml, hown, hts, hK, hRO, hRT, hG⟩, hR, hret⟩ := id C
  exact lv_pop hx hb hd (by rw [tv_cat]; exact hv) (k p e s m args below meth c R Z k0 n0 H locs lsA C hP hS hl)
theorem e_dup2 {v w : Value} (hd : decode mi.2.1 pc = .ok (.dup2, 1)) (hv : v.category = 1) (hw : w.category = 1) (k : Ev G d mi (pc + 1) ls (v :: w :: v :: w :: st) M Q) : Ev G d mi pc ls (v :: w :: st) M Q := by
  intro p e s m args below meth c R Z k0 n0 H locs lsA C hP hS hl
  obtain ⟨⟨hx, hb, hml, hown, hts, hK, hRO, hRT, hG⟩, hR, hret⟩ := id C
  exact lv_dup2_11 hx hb hd (by rw [tv_cat]; exact hv) (by rw [tv_cat]; exact hw) (k p e s m args below meth c R Z k0 n0 H locs lsA C hP hS hl)
theorem e_dup2l {x : Int64} (hd : decode mi.2.1 pc = .ok (.dup2, 1)) (k : Ev G d mi (pc + 1) ls (.long x :: .long x :: st) M Q) : Ev G d mi pc ls (.long x :: st) M Q := by
  intro p e s m args below meth c R Z k0 n0 H locs lsA C hP hS hl
  obtain ⟨⟨hx, hb, hml, hown, hts, hK, hRO, hRT, hG⟩, hR, hret⟩ := id C
  exact lv_dup2_2 hx hb hd rfl (k p e s m args below meth c R Z k0 n0 H locs lsA C hP hS hl)
theorem e_dup_x1 {v w : Value} (hd : decode mi.2.1 pc = .ok (.dup_x1, 1)) (hv : v.category = 1) (hw : w.category = 1) (k : Ev G d mi (pc + 1) ls (v :: w :: v :: st) M Q) : Ev G d mi pc ls (v :: w :: st) M Q := by
  intro p e s m args below meth c R Z k0 n0 H locs lsA C hP hS hl
  obtain ⟨⟨hx, hb, hml, hown, hts, hK, hRO, hRT, hG⟩, hR, hret⟩ := id C
  exact lv_dup_x1 hx hb hd (by rw [tv_cat]; exact hv) (by rw [tv_cat]; exact hw) (k p e s m args below meth c R Z k0 n0 H locs lsA C hP hS hl)
theorem i_nlt {x y : Int32} (h : y ≤ x) : ¬ x < y := Int32.not_lt.mpr h
theorem i_nle {x y : Int32} (h : ¬ y ≤ x) : x < y := Int32.not_le.mp h
theorem e_if_eq {x : Int32} {off : Int} {tgt : Nat} (hd : decode mi.2.1 pc = .ok (.ifCond .eq off, 3)) (ht : (pc : Int) + off = (tgt : Int)) (kt : x = 0 → Ev G d mi tgt ls st M Q) (kf : ¬ x = 0 → Ev G d mi (pc + 3) ls st M Q) : Ev G d mi pc ls (.int x :: st) M Q := by
  intro p e s m args below meth c R Z k0 n0 H locs lsA C hP hS hl
  obtain ⟨⟨hx, hb, hml, hown, hts, hK, hRO, hRT, hG⟩, hR, hret⟩ := id C
  exact lv_if_eq hx hb hd ht (fun h => (kt h) p e s m args below meth c R Z k0 n0 H locs lsA C hP hS hl) (fun h => (kf h) p e s m args below meth c R Z k0 n0 H locs lsA C hP hS hl)
theorem e_icmp_eq {x y : Int32} {off : Int} {tgt : Nat} (hd : decode mi.2.1 pc = .ok (.if_icmp .eq off, 3)) (ht : (pc : Int) + off = (tgt : Int)) (kt : x = y → Ev G d mi tgt ls st M Q) (kf : ¬ x = y → Ev G d mi (pc + 3) ls st M Q) : Ev G d mi pc ls (.int y :: .int x :: st) M Q := by
  intro p e s m args below meth c R Z k0 n0 H locs lsA C hP hS hl
  obtain ⟨⟨hx, hb, hml, hown, hts, hK, hRO, hRT, hG⟩, hR, hret⟩ := id C
  exact lv_icmp_eq hx hb hd ht (fun h => (kt h) p e s m args below meth c R Z k0 n0 H locs lsA C hP hS hl) (fun h => (kf h) p e s m args below meth c R Z k0 n0 H locs lsA C hP hS hl)
theorem e_if_ne {x : Int32} {off : Int} {tgt : Nat} (hd : decode mi.2.1 pc = .ok (.ifCond .ne off, 3)) (ht : (pc : Int) + off = (tgt : Int)) (kt : ¬ x = 0 → Ev G d mi tgt ls st M Q) (kf : x = 0 → Ev G d mi (pc + 3) ls st M Q) : Ev G d mi pc ls (.int x :: st) M Q := by
  intro p e s m args below meth c R Z k0 n0 H locs lsA C hP hS hl
  obtain ⟨⟨hx, hb, hml, hown, hts, hK, hRO, hRT, hG⟩, hR, hret⟩ := id C
  exact lv_if_ne hx hb hd ht (fun h => (kt h) p e s m args below meth c R Z k0 n0 H locs lsA C hP hS hl) (fun h => (kf h) p e s m args below meth c R Z k0 n0 H locs lsA C hP hS hl)
theorem e_icmp_ne {x y : Int32} {off : Int} {tgt : Nat} (hd : decode mi.2.1 pc = .ok (.if_icmp .ne off, 3)) (ht : (pc : Int) + off = (tgt : Int)) (kt : ¬ x = y → Ev G d mi tgt ls st M Q) (kf : x = y → Ev G d mi (pc + 3) ls st M Q) : Ev G d mi pc ls (.int y :: .int x :: st) M Q := by
  intro p e s m args below meth c R Z k0 n0 H locs lsA C hP hS hl
  obtain ⟨⟨hx, hb, hml, hown, hts, hK, hRO, hRT, hG⟩, hR, hret⟩ := id C
  exact lv_icmp_ne hx hb hd ht (fun h => (kt h) p e s m args below meth c R Z k0 n0 H locs lsA C hP hS hl) (fun h => (kf h) p e s m args below meth c R Z k0 n0 H locs lsA C hP hS hl)
theorem e_if_lt {x : Int32} {off : Int} {tgt : Nat} (hd : decode mi.2.1 pc = .ok (.ifCond .lt off, 3)) (ht : (pc : Int) + off = (tgt : Int)) (kt : x < 0 → Ev G d mi tgt ls st M Q) (kf : ¬ x < 0 → Ev G d mi (pc + 3) ls st M Q) : Ev G d mi pc ls (.int x :: st) M Q := by
  intro p e s m args below meth c R Z k0 n0 H locs lsA C hP hS hl
  obtain ⟨⟨hx, hb, hml, hown, hts, hK, hRO, hRT, hG⟩, hR, hret⟩ := id C
  exact lv_if_lt hx hb hd ht (fun h => (kt h) p e s m args below meth c R Z k0 n0 H locs lsA C hP hS hl) (fun h => (kf h) p e s m args below meth c R Z k0 n0 H locs lsA C hP hS hl)
theorem e_icmp_lt {x y : Int32} {off : Int} {tgt : Nat} (hd : decode mi.2.1 pc = .ok (.if_icmp .lt off, 3)) (ht : (pc : Int) + off = (tgt : Int)) (kt : x < y → Ev G d mi tgt ls st M Q) (kf : ¬ x < y → Ev G d mi (pc + 3) ls st M Q) : Ev G d mi pc ls (.int y :: .int x :: st) M Q := by
  intro p e s m args below meth c R Z k0 n0 H locs lsA C hP hS hl
  obtain ⟨⟨hx, hb, hml, hown, hts, hK, hRO, hRT, hG⟩, hR, hret⟩ := id C
  exact lv_icmp_lt hx hb hd ht (fun h => (kt h) p e s m args below meth c R Z k0 n0 H locs lsA C hP hS hl) (fun h => (kf h) p e s m args below meth c R Z k0 n0 H locs lsA C hP hS hl)
theorem e_if_ge {x : Int32} {off : Int} {tgt : Nat} (hd : decode mi.2.1 pc = .ok (.ifCond .ge off, 3)) (ht : (pc : Int) + off = (tgt : Int)) (kt : ¬ x < 0 → Ev G d mi tgt ls st M Q) (kf : x < 0 → Ev G d mi (pc + 3) ls st M Q) : Ev G d mi pc ls (.int x :: st) M Q := by
  intro p e s m args below meth c R Z k0 n0 H locs lsA C hP hS hl
  obtain ⟨⟨hx, hb, hml, hown, hts, hK, hRO, hRT, hG⟩, hR, hret⟩ := id C
  exact lv_if_ge hx hb hd ht (fun h => (kt (i_nlt h)) p e s m args below meth c R Z k0 n0 H locs lsA C hP hS hl) (fun h => (kf (i_nle h)) p e s m args below meth c R Z k0 n0 H locs lsA C hP hS hl)
theorem e_icmp_ge {x y : Int32} {off : Int} {tgt : Nat} (hd : decode mi.2.1 pc = .ok (.if_icmp .ge off, 3)) (ht : (pc : Int) + off = (tgt : Int)) (kt : ¬ x < y → Ev G d mi tgt ls st M Q) (kf : x < y → Ev G d mi (pc + 3) ls st M Q) : Ev G d mi pc ls (.int y :: .int x :: st) M Q := by
  intro p e s m args below meth c R Z k0 n0 H locs lsA C hP hS hl
  obtain ⟨⟨hx, hb, hml, hown, hts, hK, hRO, hRT, hG⟩, hR, hret⟩ := id C
  exact lv_icmp_ge hx hb hd ht (fun h => (kt (i_nlt h)) p e s m args below meth c R Z k0 n0 H locs lsA C hP hS hl) (fun h => (kf (i_nle h)) p e s m args below meth c R Z k0 n0 H locs lsA C hP hS hl)
theorem e_if_gt {x : Int32} {off : Int} {tgt : Nat} (hd : decode mi.2.1 pc = .ok (.ifCond .gt off, 3)) (ht : (pc : Int) + off = (tgt : Int)) (kt : 0 < x → Ev G d mi tgt ls st M Q) (kf : ¬ 0 < x → Ev G d mi (pc + 3) ls st M Q) : Ev G d mi pc ls (.int x :: st) M Q := by
  intro p e s m args below meth c R Z k0 n0 H locs lsA C hP hS hl
  obtain ⟨⟨hx, hb, hml, hown, hts, hK, hRO, hRT, hG⟩, hR, hret⟩ := id C
  exact lv_if_gt hx hb hd ht (fun h => (kt h) p e s m args below meth c R Z k0 n0 H locs lsA C hP hS hl) (fun h => (kf h) p e s m args below meth c R Z k0 n0 H locs lsA C hP hS hl)
theorem e_icmp_gt {x y : Int32} {off : Int} {tgt : Nat} (hd : decode mi.2.1 pc = .ok (.if_icmp .gt off, 3)) (ht : (pc : Int) + off = (tgt : Int)) (kt : y < x → Ev G d mi tgt ls st M Q) (kf : ¬ y < x → Ev G d mi (pc + 3) ls st M Q) : Ev G d mi pc ls (.int y :: .int x :: st) M Q := by
  intro p e s m args below meth c R Z k0 n0 H locs lsA C hP hS hl
  obtain ⟨⟨hx, hb, hml, hown, hts, hK, hRO, hRT, hG⟩, hR, hret⟩ := id C
  exact lv_icmp_gt hx hb hd ht (fun h => (kt h) p e s m args below meth c R Z k0 n0 H locs lsA C hP hS hl) (fun h => (kf h) p e s m args below meth c R Z k0 n0 H locs lsA C hP hS hl)
theorem e_if_le {x : Int32} {off : Int} {tgt : Nat} (hd : decode mi.2.1 pc = .ok (.ifCond .le off, 3)) (ht : (pc : Int) + off = (tgt : Int)) (kt : ¬ 0 < x → Ev G d mi tgt ls st M Q) (kf : 0 < x → Ev G d mi (pc + 3) ls st M Q) : Ev G d mi pc ls (.int x :: st) M Q := by
  intro p e s m args below meth c R Z k0 n0 H locs lsA C hP hS hl
  obtain ⟨⟨hx, hb, hml, hown, hts, hK, hRO, hRT, hG⟩, hR, hret⟩ := id C
  exact lv_if_le hx hb hd ht (fun h => (kt (i_nlt h)) p e s m args below meth c R Z k0 n0 H locs lsA C hP hS hl) (fun h => (kf (i_nle h)) p e s m args below meth c R Z k0 n0 H locs lsA C hP hS hl)
theorem e_icmp_le {x y : Int32} {off : Int} {tgt : Nat} (hd : decode mi.2.1 pc = .ok (.if_icmp .le off, 3)) (ht : (pc : Int) + off = (tgt : Int)) (kt : ¬ y < x → Ev G d mi tgt ls st M Q) (kf : y < x → Ev G d mi (pc + 3) ls st M Q) : Ev G d mi pc ls (.int y :: .int x :: st) M Q := by
  intro p e s m args below meth c R Z k0 n0 H locs lsA C hP hS hl
  obtain ⟨⟨hx, hb, hml, hown, hts, hK, hRO, hRT, hG⟩, hR, hret⟩ := id C
  exact lv_icmp_le hx hb hd ht (fun h => (kt (i_nlt h)) p e s m args below meth c R Z k0 n0 H locs lsA C hP hS hl) (fun h => (kf (i_nle h)) p e s m args below meth c R Z k0 n0 H locs lsA C hP hS hl)
theorem e_goto {off : Int} {tgt : Nat} (hd : decode mi.2.1 pc = .ok (.goto off, 3)) (ht : (pc : Int) + off = (tgt : Int)) (k : Ev G d mi tgt ls st M Q) : Ev G d mi pc ls st M Q := by
  intro p e s m args below meth c R Z k0 n0 H locs lsA C hP hS hl
  obtain ⟨⟨hx, hb, hml, hown, hts, hK, hRO, hRT, hG⟩, hR, hret⟩ := id C
  exact lv_goto hx hb hd ht (k p e s m args below meth c R Z k0 n0 H locs lsA C hP hS hl)
theorem e_ifnull {x : Nat} {off : Int} (hd : decode mi.2.1 pc = .ok (.ifnull off, 3)) (k : Ev G d mi (pc + 3) ls st M Q) : Ev G d mi pc ls (.ref x :: st) M Q := by
  intro p e s m args below meth c R Z k0 n0 H locs lsA C hP hS hl
  obtain ⟨⟨hx, hb, hml, hown, hts, hK, hRO, hRT, hG⟩, hR, hret⟩ := id C
  exact lv_ifnull hx hb hd (k p e s m args below meth c R Z k0 n0 H locs lsA C hP hS hl)
theorem e_ifnullN {off : Int} {tgt : Nat} (hd : decode mi.2.1 pc = .ok (.ifnull off, 3)) (ht : (pc : Int) + off = (tgt : Int)) (k : Ev G d mi tgt ls st M Q) : Ev G d mi pc ls (.null :: st) M Q := by
  intro p e s m args below meth c R Z k0 n0 H locs lsA C hP hS hl
  obtain ⟨⟨hx, hb, hml, hown, hts, hK, hRO, hRT, hG⟩, hR, hret⟩ := id C
  exact lv_ifnullN hx hb hd ht (k p e s m args below meth c R Z k0 n0 H locs lsA C hP hS hl)
theorem e_ifnonnull {x : Nat} {off : Int} {tgt : Nat} (hd : decode mi.2.1 pc = .ok (.ifnonnull off, 3)) (ht : (pc : Int) + off = (tgt : Int)) (k : Ev G d mi tgt ls st M Q) : Ev G d mi pc ls (.ref x :: st) M Q := by
  intro p e s m args below meth c R Z k0 n0 H locs lsA C hP hS hl
  obtain ⟨⟨hx, hb, hml, hown, hts, hK, hRO, hRT, hG⟩, hR, hret⟩ := id C
  exact lv_ifnonnull hx hb hd ht (k p e s m args below meth c R Z k0 n0 H locs lsA C hP hS hl)
theorem e_ifnonnullN {off : Int} (hd : decode mi.2.1 pc = .ok (.ifnonnull off, 3)) (k : Ev G d mi (pc + 3) ls st M Q) : Ev G d mi pc ls (.null :: st) M Q := by
  intro p e s m args below meth c R Z k0 n0 H locs lsA C hP hS hl
  obtain ⟨⟨hx, hb, hml, hown, hts, hK, hRO, hRT, hG⟩, hR, hret⟩ := id C
  exact lv_ifnonnullN hx hb hd (k p e s m args below meth c R Z k0 n0 H locs lsA C hP hS hl)
theorem e_acmp_eq {i j : Nat} {off : Int} {tgt : Nat} (hd : decode mi.2.1 pc = .ok (.if_acmp .eq off, 3)) (ht : (pc : Int) + off = (tgt : Int)) (h1 : okId i) (h2 : okId j) (kt : i = j → Ev G d mi tgt ls st M Q) (kf : ¬ i = j → Ev G d mi (pc + 3) ls st M Q) : Ev G d mi pc ls (.ref j :: .ref i :: st) M Q := by
  intro p e s m args below meth c R Z k0 n0 H locs lsA C hP hS hl
  obtain ⟨⟨hx, hb, hml, hown, hts, hK, hRO, hRT, hG⟩, hR, hret⟩ := id C
  exact lv_acmp_eq (rx := some (G.ad i)) (ry := some (G.ad j)) hx hb hd ht (fun h => (kt (hG _ _ h1 h2 (Option.some.inj h))) p e s m args below meth c R Z k0 n0 H locs lsA C hP hS hl) (fun h => (kf (fun e => h (congrArg (fun q => some (G.ad q)) e))) p e s m args below meth c R Z k0 n0 H locs lsA C hP hS hl)
theorem e_acmp_ne {i j : Nat} {off : Int} {tgt : Nat} (hd : decode mi.2.1 pc = .ok (.if_acmp .ne off, 3)) (ht : (pc : Int) + off = (tgt : Int)) (h1 : okId i) (h2 : okId j) (kt : ¬ i = j → Ev G d mi tgt ls st M Q) (kf : i = j → Ev G d mi (pc + 3) ls st M Q) : Ev G d mi pc ls (.ref j :: .ref i :: st) M Q := by
  intro p e s m args below meth c R Z k0 n0 H locs lsA C hP hS hl
  obtain ⟨⟨hx, hb, hml, hown, hts, hK, hRO, hRT, hG⟩, hR, hret⟩ := id C
  exact lv_acmp_ne (rx := some (G.ad i)) (ry := some (G.ad j)) hx hb hd ht (fun h => (kt (fun e => h (congrArg (fun q => some (G.ad q)) e))) p e s m args below meth c R Z k0 n0 H locs lsA C hP hS hl) (fun h => (kf (hG _ _ h1 h2 (Option.some.inj h))) p e s m args below meth c R Z k0 n0 H locs lsA C hP hS hl)
theorem e_tableIn {dflt lo hi : Int} {offs : Array Int} {len : Nat} {x : Int32} {off : Int} {tgt : Nat} (hd : decode mi.2.1 pc = .ok (.tableswitch dflt lo hi offs, len)) (h1 : ¬ x.toInt < lo) (h2 : ¬ hi < x.toInt) (ho : offs[(x.toInt - lo).toNat]? = some off) (ht : (pc : Int) + off = (tgt : Int)) (k : Ev G d mi tgt ls st M Q) : Ev G d mi pc ls (.int x :: st) M Q := by
  intro p e s m args below meth c R Z k0 n0 H locs lsA C hP hS hl
  obtain ⟨⟨hx, hb, hml, hown, hts, hK, hRO, hRT, hG⟩, hR, hret⟩ := id C
  exact lv_tableIn hx hb hd h1 h2 ho ht (k p e s m args below meth c R Z k0 n0 H locs lsA C hP hS hl)
theorem e_tableOut {dflt lo hi : Int} {offs : Array Int} {len : Nat} {x : Int32} {tgt : Nat} (hd : decode mi.2.1 pc = .ok (.tableswitch dflt lo hi offs, len)) (h : x.toInt < lo ∨ hi < x.toInt) (ht : (pc : Int) + dflt = (tgt : Int)) (k : Ev G d mi tgt ls st M Q) : Ev G d mi pc ls (.int x :: st) M Q := by
  intro p e s m args below meth c R Z k0 n0 H locs lsA C hP hS hl
  obtain ⟨⟨hx, hb, hml, hown, hts, hK, hRO, hRT, hG⟩, hR, hret⟩ := id C
  exact lv_tableOut hx hb hd h ht (k p e s m args below meth c R Z k0 n0 H locs lsA C hP hS hl)
theorem wsm_in {w : Jvm.Cond} (h : w ∈ lw_g) : w ∈ wsm mi := List.mem_cons_of_mem _ h
theorem e_ldc2 {idx : Nat} {v : Int64} (hd : decode mi.2.1 pc = .ok (.ldc2_w idx, 3)) (hw : Jvm.Cond.constantLong mi.1.cls idx v ∈ lw_g) (k : Ev G d mi (pc + 3) ls (.long v :: st) M Q) : Ev G d mi pc ls st M Q := by
  intro p e s m args below meth c R Z k0 n0 H locs lsA C hP hS hl
  obtain ⟨⟨hx, hb, hml, hown, hts, hK, hRO, hRT, hG⟩, hR, hret⟩ := id C
  exact lv_ldc2 hx hb hown (hts _ (wsm_in hw)) hd (k p e s m args below meth c R Z k0 n0 H locs lsA C hP hS hl)
theorem e_ldcw {idx : Nat} {v : Int32} (hd : decode mi.2.1 pc = .ok (.ldc_w idx, 3)) (hw : Jvm.Cond.constant mi.1.cls idx v ∈ lw_g) (k : Ev G d mi (pc + 3) ls (.int v :: st) M Q) : Ev G d mi pc ls st M Q := by
  intro p e s m args below meth c R Z k0 n0 H locs lsA C hP hS hl
  obtain ⟨⟨hx, hb, hml, hown, hts, hK, hRO, hRT, hG⟩, hR, hret⟩ := id C
  exact lv_ldcw hx hb hown (hts _ (wsm_in hw)) hd (k p e s m args below meth c R Z k0 n0 H locs lsA C hP hS hl)
theorem e_ldc {idx : Nat} {v : Int32} (hd : decode mi.2.1 pc = .ok (.ldc idx, 2)) (hw : Jvm.Cond.constant mi.1.cls idx v ∈ lw_g) (k : Ev G d mi (pc + 2) ls (.int v :: st) M Q) : Ev G d mi pc ls st M Q := by
  intro p e s m args below meth c R Z k0 n0 H locs lsA C hP hS hl
  obtain ⟨⟨hx, hb, hml, hown, hts, hK, hRO, hRT, hG⟩, hR, hret⟩ := id C
  exact lv_ldc hx hb hown (hts _ (wsm_in hw)) hd (k p e s m args below meth c R Z k0 n0 H locs lsA C hP hS hl)
theorem e_iret {x : Int32} (hd : decode mi.2.1 pc = .ok (.ireturn, 1)) (hr : mi.2.2.2 = some .int) (hQ : Q (some (.int x)) M) : Ev G d mi pc ls [.int x] M Q := by
  intro p e s m args below meth c R Z k0 n0 H locs lsA C hP hS hl
  obtain ⟨⟨hx, hb, hml, hown, hts, hK, hRO, hRT, hG⟩, hR, hret⟩ := id C
  exact hret pc H locs lsA (some (.int x)) M ⟨hd, _, hr, rfl⟩ hQ hP hS
theorem e_lret {x : Int64} (hd : decode mi.2.1 pc = .ok (.lreturn, 1)) (hr : mi.2.2.2 = some .long) (hQ : Q (some (.long x)) M) : Ev G d mi pc ls [.long x] M Q := by
  intro p e s m args below meth c R Z k0 n0 H locs lsA C hP hS hl
  obtain ⟨⟨hx, hb, hml, hown, hts, hK, hRO, hRT, hG⟩, hR, hret⟩ := id C
  exact hret pc H locs lsA (some (.long x)) M ⟨hd, hr⟩ hQ hP hS
theorem e_zret {x : Int32} (hd : decode mi.2.1 pc = .ok (.ireturn, 1)) (hr : mi.2.2.2 = some .boolean) (hz : narrow .boolean (.int x) = .int x) (hQ : Q (some (.int x)) M) : Ev G d mi pc ls [.int x] M Q := by
  intro p e s m args below meth c R Z k0 n0 H locs lsA C hP hS hl
  obtain ⟨⟨hx, hb, hml, hown, hts, hK, hRO, hRT, hG⟩, hR, hret⟩ := id C
  exact hret pc H locs lsA (some (.int x)) M ⟨hd, _, hr, hz⟩ hQ hP hS
theorem e_aret {x : Nat} {n : String} (hd : decode mi.2.1 pc = .ok (.areturn, 1)) (hr : mi.2.2.2 = some (.object n)) (hQ : Q (some (.ref x)) M) : Ev G d mi pc ls [.ref x] M Q := by
  intro p e s m args below meth c R Z k0 n0 H locs lsA C hP hS hl
  obtain ⟨⟨hx, hb, hml, hown, hts, hK, hRO, hRT, hG⟩, hR, hret⟩ := id C
  exact hret pc H locs lsA (some (.ref x)) M ⟨hd, _, hr⟩ hQ hP hS
theorem e_aretN {n : String} (hd : decode mi.2.1 pc = .ok (.areturn, 1)) (hr : mi.2.2.2 = some (.object n)) (hQ : Q (some .null) M) : Ev G d mi pc ls [.null] M Q := by
  intro p e s m args below meth c R Z k0 n0 H locs lsA C hP hS hl
  obtain ⟨⟨hx, hb, hml, hown, hts, hK, hRO, hRT, hG⟩, hR, hret⟩ := id C
  exact hret pc H locs lsA (some .null) M ⟨hd, _, hr⟩ hQ hP hS
theorem e_vret (hd : decode mi.2.1 pc = .ok (.return_, 1)) (hr : mi.2.2.2 = none) (hQ : Q none M) : Ev G d mi pc ls [] M Q := by
  intro p e s m args below meth c R Z k0 n0 H locs lsA C hP hS hl
  obtain ⟨⟨hx, hb, hml, hown, hts, hK, hRO, hRT, hG⟩, hR, hret⟩ := id C
  exact hret pc H locs lsA none M ⟨hr, hd⟩ hQ hP hS
def KC (ci : Nat) (C : String) (T : u_T) (N : Nat) (ty : Nat → FieldType) : Prop := vwCl[ci]? = some (C, T, N) ∧ (∀ w ∈ u_ws C T N, w ∈ lw_g) ∧ (∀ k, k < N → parseFieldDescriptor (T k).2.2.1 = some (ty k)) ∧ (∀ a, a < N → ∀ b, b < N → a ≠ b → (T a).2.1 ≠ (T b).2.1)
def FL (own : String) (idx ci k : Nat) (t : FieldType) (fin : Bool) : Prop := ∃ C T N ty, KC ci C T N ty ∧ k < N ∧ ty k = t ∧ (T k).2.2.2 = fin ∧ (Jvm.Cond.fieldLink own idx (T k).1 (T k).2.1 (T k).2.2.1 ∈ lw_g ∨ ∃ host, Jvm.Cond.fieldLinkNest own idx (T k).1 (T k).2.1 (T k).2.2.1 host ∈ nwl)
def fvp (M : Mm) (i k : Nat) (q : Nat × Nat) : Value := match q.1 with
  | 0 => .int (M.1 i k)
  | 1 => .long (M.2.1 i k)
  | 2 => .ref q.2
  | _ => .ref (M.2.2 i k)
theorem fvp_tv (ad : Nat → Nat) (M : Mm) (i k : Nat) (q : Nat × Nat) : tv ad (fvp M i k q) = fv ad M i k q := by
  obtain ⟨a, b⟩ := q
  match a with
  | 0 => rfl
  | 1 => rfl
  | 2 => rfl
  | n + 3 => rfl
theorem GI.nn {G : Gt} (h : GI G) : ∀ i j, i < NN → j < NN → G.ad i = G.ad j → i = j := fun i j hi hj => h i j (Or.inl hi) (Or.inl hj)
theorem shp_lt {i a b : Nat} {fs : List (Nat × Nat)} (h : shp i = (a, b, fs)) (ha : a ≠ 9) : i < NN := shp_in (by rw [h]; exact ha)
theorem e_get {idx i ci k : Nat} {fs : List (Nat × Nat)} {q : Nat × Nat} {t : FieldType} {fin : Bool} (hd : decode mi.2.1 pc = .ok (.getfield idx, 3)) (hf : FL mi.1.cls idx ci k t fin) (hs : shp i = (0, ci, fs)) (hk : fs[k]? = some q) (k1 : Ev G d mi (pc + 3) ls (fvp M i k q :: st) M Q) : Ev G d mi pc ls (.ref i :: st) M Q := by
  intro p e s m args below meth c R Z k0 n0 H locs lsA C hP hS hl
  obtain ⟨⟨hx, hb, hml, hown, hts, hK, hRO, hRT, hG⟩, hR, hret⟩ := id C
  obtain ⟨C1, T, N, ty, ⟨hc, hin, hty, hnm⟩, hkN, -, -, hl1 | ⟨host, hl1⟩⟩ := hf
  · exact va_get (ci := ci) (C := C1) (T := T) (N := N) hx hb hts (fun w h => wsm_in (hin w h)) hown hK.1 hP i ((cells_at (shp_lt hs (by decide))).trans (by rw [cel_obj hs])) hc k hkN (hts _ (wsm_in hl1)) (fun _ h => h) ((flds_get fs 0 k q hk).trans (by rw [Nat.zero_add, ← fvp_tv])) hd (k1 p e s m args below meth c R Z k0 n0 H locs lsA C hP hS hl)
  · exact va_getN (ci := ci) (C := C1) (T := T) (N := N) hx hb hts (fun w h => wsm_in (hin w h)) hown hK.1 hP i ((cells_at (shp_lt hs (by decide))).trans (by rw [cel_obj hs])) hc k hkN (va_Nw.use rfl (hK.2 _ hl1)) (fun _ h => h) ((flds_get fs 0 k q hk).trans (by rw [Nat.zero_add, ← fvp_tv])) hd (k1 p e s m args below meth c R Z k0 n0 H locs lsA C hP hS hl)
theorem e_getI {idx i ci k : Nat} {fs : List (Nat × Nat)} {t : FieldType} {fin : Bool} (hd : decode mi.2.1 pc = .ok (.getfield idx, 3)) (hf : FL mi.1.cls idx ci k t fin) (hs : shp i = (0, ci, fs)) (hk : fs[k]? = some (0, 0)) (k1 : Ev G d mi (pc + 3) ls (.int (M.1 i k) :: st) M Q) : Ev G d mi pc ls (.ref i :: st) M Q := e_get hd hf hs hk k1
theorem e_getL {idx i ci k : Nat} {fs : List (Nat × Nat)} {t : FieldType} {fin : Bool} (hd : decode mi.2.1 pc = .ok (.getfield idx, 3)) (hf : FL mi.1.cls idx ci k t fin) (hs : shp i = (0, ci, fs)) (hk : fs[k]? = some (1, 0)) (k1 : Ev G d mi (pc + 3) ls (.long (M.2.1 i k) :: st) M Q) : Ev G d mi pc ls (.ref i :: st) M Q := e_get hd hf hs hk k1
theorem e_getR {idx i ci k : Nat} {fs : List (Nat × Nat)} {j : Nat} {t : FieldType} {fin : Bool} (hd : decode mi.2.1 pc = .ok (.getfield idx, 3)) (hf : FL mi.1.cls idx ci k t fin) (hs : shp i = (0, ci, fs)) (hk : fs[k]? = some (2, j)) (k1 : Ev G d mi (pc + 3) ls (.ref j :: st) M Q) : Ev G d mi pc ls (.ref i :: st) M Q := e_get hd hf hs hk k1
theorem e_getP {idx i ci k : Nat} {fs : List (Nat × Nat)} {t : FieldType} {fin : Bool} (hd : decode mi.2.1 pc = .ok (.getfield idx, 3)) (hf : FL mi.1.cls idx ci k t fin) (hs : shp i = (0, ci, fs)) (hk : fs[k]? = some (3, 0)) (k1 : Ev G d mi (pc + 3) ls (.ref (M.2.2 i k) :: st) M Q) : Ev G d mi pc ls (.ref i :: st) M Q := e_get hd hf hs hk k1
theorem e_putI {idx i ci k : Nat} {fs : List (Nat × Nat)} {t : FieldType} {v : Int32} (hd : decode mi.2.1 pc = .ok (.putfield idx, 3)) (hf : FL mi.1.cls idx ci k t false) (hs : shp i = (0, ci, fs)) (hk : fs[k]? = some (0, 0)) (hn : narrow t (Value.int v) = Value.int v) (hfit : fits t (Value.int v) = true) (k1 : Ev G d mi (pc + 3) ls st (setI M i k v) Q) : Ev G d mi pc ls (.int v :: .ref i :: st) M Q := by
  intro p e s m args below meth c R Z k0 n0 H locs lsA C hP hS hl
  obtain ⟨⟨hx, hb, hml, hown, hts, hK, hRO, hRT, hG⟩, hR, hret⟩ := id C
  obtain ⟨C1, T, N, ty, ⟨hc, hin, hty, hnm⟩, hkN, rfl, hfin, hl1⟩ := hf
  have hi := shp_lt hs (by decide)
  have hlen : k < (flds G.ad M i 0 fs).length := by rw [flds_len]; exact (List.getElem?_eq_some_iff.mp hk).1
  have hset : (flds G.ad M i 0 fs).set k (Value.int v) = flds G.ad (setI M i k v) i 0 fs := by
    refine flds_set fs 0 k _ hk ?_ (fun k' q' h' => fv_setI (by omega))
    rw [Nat.zero_add]; simp [fv, setI]
  have hcs : ∀ (H1 : Heap), va_P G.D vwCl ((cells G.cA G.ad M).set i (G.ad i, .inr (ci, (flds G.ad M i 0 fs).set k (Value.int v)))) H1 → va_P G.D vwCl (cells G.cA G.ad (setI M i k v)) H1 := by
    intro H1 h
    rw [hset, cells_set hi (cel_obj hs) setI_ne] at h
    exact h
  have hn2 : narrow (ty k) (Value.int v) = Value.int v := by exact hn
  have hf2 : fits (ty k) (Value.int v) = true := by exact hfit
  rcases hl1 with hl1 | ⟨host, hl1⟩
  · exact va_put (ci := ci) (C := C1) (T := T) (N := N) hx hb hts (fun w h => wsm_in (hin w h)) ty hty hnm hown hK.1 hP (cells_D hG.nn) hS i ((cells_at hi).trans (by rw [cel_obj hs])) hc k hkN (hts _ (wsm_in hl1)) (fun _ h => h) hfin (hty k hkN) hn2 hf2 hlen hd (fun H1 locs1 hP1 _ hS1 => k1 p e s m args below meth c R Z k0 n0 H1 locs1 lsA C (hcs H1 hP1) hS1 hl)
  · exact va_putN (ci := ci) (C := C1) (T := T) (N := N) hx hb hts (fun w h => wsm_in (hin w h)) ty hty hnm hown hK.1 hP (cells_D hG.nn) hS i ((cells_at hi).trans (by rw [cel_obj hs])) hc k hkN (va_Nw.use rfl (hK.2 _ hl1)) (fun _ h => h) hfin (hty k hkN) hn2 hf2 hlen hd (fun H1 locs1 hP1 _ hS1 => k1 p e s m args below meth c R Z k0 n0 H1 locs1 lsA C (hcs H1 hP1) hS1 hl)
theorem e_putL {idx i ci k : Nat} {fs : List (Nat × Nat)} {t : FieldType} {v : Int64} (hd : decode mi.2.1 pc = .ok (.putfield idx, 3)) (hf : FL mi.1.cls idx ci k t false) (hs : shp i = (0, ci, fs)) (hk : fs[k]? = some (1, 0)) (hn : narrow t (Value.long v) = Value.long v) (hfit : fits t (Value.long v) = true) (k1 : Ev G d mi (pc + 3) ls st (setL M i k v) Q) : Ev G d mi pc ls (.long v :: .ref i :: st) M Q := by
  intro p e s m args below meth c R Z k0 n0 H locs lsA C hP hS hl
  obtain ⟨⟨hx, hb, hml, hown, hts, hK, hRO, hRT, hG⟩, hR, hret⟩ := id C
  obtain ⟨C1, T, N, ty, ⟨hc, hin, hty, hnm⟩, hkN, rfl, hfin, hl1⟩ := hf
  have hi := shp_lt hs (by decide)
  have hlen : k < (flds G.ad M i 0 fs).length := by rw [flds_len]; exact (List.getElem?_eq_some_iff.mp hk).1
  have hset : (flds G.ad M i 0 fs).set k (Value.long v) = flds G.ad (setL M i k v) i 0 fs := by
    refine flds_set fs 0 k _ hk ?_ (fun k' q' h' => fv_setL (by omega))
    rw [Nat.zero_add]; simp [fv, setL]
  have hcs : ∀ (H1 : Heap), va_P G.D vwCl ((cells G.cA G.ad M).set i (G.ad i, .inr (ci, (flds G.ad M i 0 fs).set k (Value.long v)))) H1 → va_P G.D vwCl (cells G.cA G.ad (setL M i k v)) H1 := by
    intro H1 h
    rw [hset, cells_set hi (cel_obj hs) setL_ne] at h
    exact h
  have hn2 : narrow (ty k) (Value.long v) = Value.long v := by exact hn
  have hf2 : fits (ty k) (Value.long v) = true := by exact hfit
  rcases hl1 with hl1 | ⟨host, hl1⟩
  · exact va_put (ci := ci) (C := C1) (T := T) (N := N) hx hb hts (fun w h => wsm_in (hin w h)) ty hty hnm hown hK.1 hP (cells_D hG.nn) hS i ((cells_at hi).trans (by rw [cel_obj hs])) hc k hkN (hts _ (wsm_in hl1)) (fun _ h => h) hfin (hty k hkN) hn2 hf2 hlen hd (fun H1 locs1 hP1 _ hS1 => k1 p e s m args below meth c R Z k0 n0 H1 locs1 lsA C (hcs H1 hP1) hS1 hl)
  · exact va_putN (ci := ci) (C := C1) (T := T) (N := N) hx hb hts (fun w h => wsm_in (hin w h)) ty hty hnm hown hK.1 hP (cells_D hG.nn) hS i ((cells_at hi).trans (by rw [cel_obj hs])) hc k hkN (va_Nw.use rfl (hK.2 _ hl1)) (fun _ h => h) hfin (hty k hkN) hn2 hf2 hlen hd (fun H1 locs1 hP1 _ hS1 => k1 p e s m args below meth c R Z k0 n0 H1 locs1 lsA C (hcs H1 hP1) hS1 hl)
theorem e_putP {idx i ci k : Nat} {fs : List (Nat × Nat)} {t : FieldType} {v : Nat} (hd : decode mi.2.1 pc = .ok (.putfield idx, 3)) (hf : FL mi.1.cls idx ci k t false) (hs : shp i = (0, ci, fs)) (hk : fs[k]? = some (3, 0)) (hn : narrow t (Value.ref (0)) = Value.ref (0)) (hfit : fits t (Value.ref (0)) = true) (k1 : Ev G d mi (pc + 3) ls st (setP M i k v) Q) : Ev G d mi pc ls (.ref v :: .ref i :: st) M Q := by
  intro p e s m args below meth c R Z k0 n0 H locs lsA C hP hS hl
  obtain ⟨⟨hx, hb, hml, hown, hts, hK, hRO, hRT, hG⟩, hR, hret⟩ := id C
  obtain ⟨C1, T, N, ty, ⟨hc, hin, hty, hnm⟩, hkN, rfl, hfin, hl1⟩ := hf
  have hi := shp_lt hs (by decide)
  have hlen : k < (flds G.ad M i 0 fs).length := by rw [flds_len]; exact (List.getElem?_eq_some_iff.mp hk).1
  have hset : (flds G.ad M i 0 fs).set k (Value.ref (G.ad v)) = flds G.ad (setP M i k v) i 0 fs := by
    refine flds_set fs 0 k _ hk ?_ (fun k' q' h' => fv_setP (by omega))
    rw [Nat.zero_add]; simp [fv, setP]
  have hcs : ∀ (H1 : Heap), va_P G.D vwCl ((cells G.cA G.ad M).set i (G.ad i, .inr (ci, (flds G.ad M i 0 fs).set k (Value.ref (G.ad v))))) H1 → va_P G.D vwCl (cells G.cA G.ad (setP M i k v)) H1 := by
    intro H1 h
    rw [hset, cells_set hi (cel_obj hs) setP_ne] at h
    exact h
  have hn2 : narrow (ty k) (Value.ref (G.ad v)) = Value.ref (G.ad v) := by (revert hn; cases ty k <;> simp [narrow])
  have hf2 : fits (ty k) (Value.ref (G.ad v)) = true := by (revert hfit; cases ty k <;> simp [fits])
  rcases hl1 with hl1 | ⟨host, hl1⟩
  · exact va_put (ci := ci) (C := C1) (T := T) (N := N) hx hb hts (fun w h => wsm_in (hin w h)) ty hty hnm hown hK.1 hP (cells_D hG.nn) hS i ((cells_at hi).trans (by rw [cel_obj hs])) hc k hkN (hts _ (wsm_in hl1)) (fun _ h => h) hfin (hty k hkN) hn2 hf2 hlen hd (fun H1 locs1 hP1 _ hS1 => k1 p e s m args below meth c R Z k0 n0 H1 locs1 lsA C (hcs H1 hP1) hS1 hl)
  · exact va_putN (ci := ci) (C := C1) (T := T) (N := N) hx hb hts (fun w h => wsm_in (hin w h)) ty hty hnm hown hK.1 hP (cells_D hG.nn) hS i ((cells_at hi).trans (by rw [cel_obj hs])) hc k hkN (va_Nw.use rfl (hK.2 _ hl1)) (fun _ h => h) hfin (hty k hkN) hn2 hf2 hlen hd (fun H1 locs1 hP1 _ hS1 => k1 p e s m args below meth c R Z k0 n0 H1 locs1 lsA C (hcs H1 hP1) hS1 hl)
theorem e_iald {i n : Nat} {bs : List (Nat × Nat)} {j : Int32} (hd : decode mi.2.1 pc = .ok (.iaload, 1)) (hs : shp i = (1, n, bs)) (hj : vp_in j n) (k1 : Ev G d mi (pc + 1) ls (.int (M.1 i j.toNatClampNeg) :: st) M Q) : Ev G d mi pc ls (.int j :: .ref i :: st) M Q := by
  intro p e s m args below meth c R Z k0 n0 H locs lsA C hP hS hl
  obtain ⟨⟨hx, hb, hml, hown, hts, hK, hRO, hRT, hG⟩, hR, hret⟩ := id C
  exact va_iald hx hb hK.1 hP i 0 ((cells_at (shp_lt hs (by decide))).trans (by rw [cel_ia hs])) rfl hj hd (k1 p e s m args below meth c R Z k0 n0 H locs lsA C hP hS hl)
theorem e_lald {i n : Nat} {bs : List (Nat × Nat)} {j : Int32} (hd : decode mi.2.1 pc = .ok (.laload, 1)) (hs : shp i = (2, n, bs)) (hj : vp_in j n) (k1 : Ev G d mi (pc + 1) ls (.long (M.2.1 i j.toNatClampNeg) :: st) M Q) : Ev G d mi pc ls (.int j :: .ref i :: st) M Q := by
  intro p e s m args below meth c R Z k0 n0 H locs lsA C hP hS hl
  obtain ⟨⟨hx, hb, hml, hown, hts, hK, hRO, hRT, hG⟩, hR, hret⟩ := id C
  exact va_lald hx hb hK.1 hP i 1 ((cells_at (shp_lt hs (by decide))).trans (by rw [cel_la hs])) rfl hj hd (k1 p e s m args below meth c R Z k0 n0 H locs lsA C hP hS hl)
theorem e_zald {i n : Nat} {bs : List (Nat × Nat)} {j : Int32} (hd : decode mi.2.1 pc = .ok (.baload, 1)) (hs : shp i = (3, n, bs)) (hj : vp_in j n) (k1 : Ev G d mi (pc + 1) ls (.int (M.1 i j.toNatClampNeg) :: st) M Q) : Ev G d mi pc ls (.int j :: .ref i :: st) M Q := by
  intro p e s m args below meth c R Z k0 n0 H locs lsA C hP hS hl
  obtain ⟨⟨hx, hb, hml, hown, hts, hK, hRO, hRT, hG⟩, hR, hret⟩ := id C
  exact va_zald hx hb hK.1 hP i 2 ((cells_at (shp_lt hs (by decide))).trans (by rw [cel_za hs])) rfl hj hd (k1 p e s m args below meth c R Z k0 n0 H locs lsA C hP hS hl)
theorem e_mald {i n b0 sp : Nat} {bs : List (Nat × Nat)} {j : Int32} (hd : decode mi.2.1 pc = .ok (.aaload, 1)) (hs : shp i = (4, n, (b0, sp) :: bs)) (hj : vp_in j n) (k1 : Ev G d mi (pc + 1) ls (.ref (b0 + sp * j.toNatClampNeg) :: st) M Q) : Ev G d mi pc ls (.int j :: .ref i :: st) M Q := by
  intro p e s m args below meth c R Z k0 n0 H locs lsA C hP hS hl
  obtain ⟨⟨hx, hb, hml, hown, hts, hK, hRO, hRT, hG⟩, hR, hret⟩ := id C
  exact va_aldq (f := rfa G.ad ((b0, sp) :: bs)) hx hb hK.1 hP i 3 ((cells_at (shp_lt hs (by decide))).trans (by rw [cel_ma hs])) rfl hj hd (k1 p e s m args below meth c R Z k0 n0 H locs lsA C hP hS hl)
theorem e_sald {i n b0 sp : Nat} {bs : List (Nat × Nat)} {j : Int32} (hd : decode mi.2.1 pc = .ok (.aaload, 1)) (hs : shp i = (5, n, (b0, sp) :: bs)) (hj : vp_in j n) (k1 : Ev G d mi (pc + 1) ls (.ref (b0 + sp * j.toNatClampNeg) :: st) M Q) : Ev G d mi pc ls (.int j :: .ref i :: st) M Q := by
  intro p e s m args below meth c R Z k0 n0 H locs lsA C hP hS hl
  obtain ⟨⟨hx, hb, hml, hown, hts, hK, hRO, hRT, hG⟩, hR, hret⟩ := id C
  exact va_aldq (f := rfa G.ad ((b0, sp) :: bs)) hx hb hK.1 hP i 4 ((cells_at (shp_lt hs (by decide))).trans (by rw [cel_sa hs])) rfl hj hd (k1 p e s m args below meth c R Z k0 n0 H locs lsA C hP hS hl)
theorem e_alenI {i n : Nat} {bs : List (Nat × Nat)} {v : Int32} (hd : decode mi.2.1 pc = .ok (.arraylength, 1)) (hs : shp i = (1, n, bs)) (hv : Int32.ofNat n = v) (k1 : Ev G d mi (pc + 1) ls (.int v :: st) M Q) : Ev G d mi pc ls (.ref i :: st) M Q := by
  intro p e s m args below meth c R Z k0 n0 H locs lsA C hP hS hl
  obtain ⟨⟨hx, hb, hml, hown, hts, hK, hRO, hRT, hG⟩, hR, hret⟩ := id C
  exact va_alen hx hb hK.1 hP i 0 ((cells_at (shp_lt hs (by decide))).trans (by rw [cel_ia hs])) rfl hv hd (k1 p e s m args below meth c R Z k0 n0 H locs lsA C hP hS hl)
theorem e_alenL {i n : Nat} {bs : List (Nat × Nat)} {v : Int32} (hd : decode mi.2.1 pc = .ok (.arraylength, 1)) (hs : shp i = (2, n, bs)) (hv : Int32.ofNat n = v) (k1 : Ev G d mi (pc + 1) ls (.int v :: st) M Q) : Ev G d mi pc ls (.ref i :: st) M Q := by
  intro p e s m args below meth c R Z k0 n0 H locs lsA C hP hS hl
  obtain ⟨⟨hx, hb, hml, hown, hts, hK, hRO, hRT, hG⟩, hR, hret⟩ := id C
  exact va_alen hx hb hK.1 hP i 1 ((cells_at (shp_lt hs (by decide))).trans (by rw [cel_la hs])) rfl hv hd (k1 p e s m args below meth c R Z k0 n0 H locs lsA C hP hS hl)
theorem e_alenZ {i n : Nat} {bs : List (Nat × Nat)} {v : Int32} (hd : decode mi.2.1 pc = .ok (.arraylength, 1)) (hs : shp i = (3, n, bs)) (hv : Int32.ofNat n = v) (k1 : Ev G d mi (pc + 1) ls (.int v :: st) M Q) : Ev G d mi pc ls (.ref i :: st) M Q := by
  intro p e s m args below meth c R Z k0 n0 H locs lsA C hP hS hl
  obtain ⟨⟨hx, hb, hml, hown, hts, hK, hRO, hRT, hG⟩, hR, hret⟩ := id C
  exact va_alen hx hb hK.1 hP i 2 ((cells_at (shp_lt hs (by decide))).trans (by rw [cel_za hs])) rfl hv hd (k1 p e s m args below meth c R Z k0 n0 H locs lsA C hP hS hl)
theorem e_alenM {i n : Nat} {bs : List (Nat × Nat)} {v : Int32} (hd : decode mi.2.1 pc = .ok (.arraylength, 1)) (hs : shp i = (4, n, bs)) (hv : Int32.ofNat n = v) (k1 : Ev G d mi (pc + 1) ls (.int v :: st) M Q) : Ev G d mi pc ls (.ref i :: st) M Q := by
  intro p e s m args below meth c R Z k0 n0 H locs lsA C hP hS hl
  obtain ⟨⟨hx, hb, hml, hown, hts, hK, hRO, hRT, hG⟩, hR, hret⟩ := id C
  exact va_alen hx hb hK.1 hP i 3 ((cells_at (shp_lt hs (by decide))).trans (by rw [cel_ma hs])) rfl hv hd (k1 p e s m args below meth c R Z k0 n0 H locs lsA C hP hS hl)
theorem e_alenS {i n : Nat} {bs : List (Nat × Nat)} {v : Int32} (hd : decode mi.2.1 pc = .ok (.arraylength, 1)) (hs : shp i = (5, n, bs)) (hv : Int32.ofNat n = v) (k1 : Ev G d mi (pc + 1) ls (.int v :: st) M Q) : Ev G d mi pc ls (.ref i :: st) M Q := by
  intro p e s m args below meth c R Z k0 n0 H locs lsA C hP hS hl
  obtain ⟨⟨hx, hb, hml, hown, hts, hK, hRO, hRT, hG⟩, hR, hret⟩ := id C
  exact va_alen hx hb hK.1 hP i 4 ((cells_at (shp_lt hs (by decide))).trans (by rw [cel_sa hs])) rfl hv hd (k1 p e s m args below meth c R Z k0 n0 H locs lsA C hP hS hl)
theorem e_iast {i n : Nat} {bs : List (Nat × Nat)} {j : Int32} {x : Int32} (hd : decode mi.2.1 pc = .ok (.iastore, 1)) (hs : shp i = (1, n, bs)) (hj : vp_in j n) (k1 : Ev G d mi (pc + 1) ls st (setI M i j.toNatClampNeg x) Q) : Ev G d mi pc ls (.int x :: .int j :: .ref i :: st) M Q := by
  intro p e s m args below meth c R Z k0 n0 H locs lsA C hP hS hl
  obtain ⟨⟨hx, hb, hml, hown, hts, hK, hRO, hRT, hG⟩, hR, hret⟩ := id C
  have hi := shp_lt hs (by decide)
  refine va_iast hx hb hK.1 hP (cells_D hG.nn) hS i 0 ((cells_at hi).trans (by rw [cel_ia hs])) rfl hj hd (fun H1 locs1 hP1 _ hS1 => ?_)
  refine k1 p e s m args below meth c R Z k0 n0 H1 locs1 lsA C ?_ hS1 hl
  have hu : upd (M.1 i) j.toNatClampNeg x = (setI M i j.toNatClampNeg x).1 i := by funext q; simp [upd, setI]
  rw [hu, cells_set hi (cel_ia hs) setI_ne] at hP1
  exact hP1
theorem e_last {i n : Nat} {bs : List (Nat × Nat)} {j : Int32} {x : Int64} (hd : decode mi.2.1 pc = .ok (.lastore, 1)) (hs : shp i = (2, n, bs)) (hj : vp_in j n) (k1 : Ev G d mi (pc + 1) ls st (setL M i j.toNatClampNeg x) Q) : Ev G d mi pc ls (.long x :: .int j :: .ref i :: st) M Q := by
  intro p e s m args below meth c R Z k0 n0 H locs lsA C hP hS hl
  obtain ⟨⟨hx, hb, hml, hown, hts, hK, hRO, hRT, hG⟩, hR, hret⟩ := id C
  have hi := shp_lt hs (by decide)
  refine va_last hx hb hK.1 hP (cells_D hG.nn) hS i 1 ((cells_at hi).trans (by rw [cel_la hs])) rfl hj hd (fun H1 locs1 hP1 _ hS1 => ?_)
  refine k1 p e s m args below meth c R Z k0 n0 H1 locs1 lsA C ?_ hS1 hl
  have hu : vp_updL (M.2.1 i) j.toNatClampNeg x = (setL M i j.toNatClampNeg x).2.1 i := by funext q; simp [vp_updL, setL]
  rw [hu, cells_set hi (cel_la hs) setL_ne] at hP1
  exact hP1
theorem e_zast {i n : Nat} {bs : List (Nat × Nat)} {j : Int32} {x : Int32} (hd : decode mi.2.1 pc = .ok (.bastore, 1)) (hs : shp i = (3, n, bs)) (hj : vp_in j n) (k1 : Ev G d mi (pc + 1) ls st (setI M i j.toNatClampNeg (vp_nar .boolean x)) Q) : Ev G d mi pc ls (.int x :: .int j :: .ref i :: st) M Q := by
  intro p e s m args below meth c R Z k0 n0 H locs lsA C hP hS hl
  obtain ⟨⟨hx, hb, hml, hown, hts, hK, hRO, hRT, hG⟩, hR, hret⟩ := id C
  have hi := shp_lt hs (by decide)
  refine va_zast hx hb hK.1 hP (cells_D hG.nn) hS i 2 ((cells_at hi).trans (by rw [cel_za hs])) rfl hj hd (fun H1 locs1 hP1 _ hS1 => ?_)
  refine k1 p e s m args below meth c R Z k0 n0 H1 locs1 lsA C ?_ hS1 hl
  have hu : upd (M.1 i) j.toNatClampNeg (vp_nar .boolean x) = (setI M i j.toNatClampNeg (vp_nar .boolean x)).1 i := by funext q; simp [upd, setI]
  rw [hu, cells_set hi (cel_za hs) setI_ne] at hP1
  exact hP1
end PM3
