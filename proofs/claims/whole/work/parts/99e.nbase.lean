section NBS
theorem oi_inst : Jvm.Cond.instanceMethod Lib.objectInit ∈ lw_g := mem_g 31 (by decide +kernel) rfl
theorem oi_code : Jvm.Cond.code Lib.objectInit ⟨#[0xb1]⟩ 1 none ∈ lw_g := mem_g 32 (by decide +kernel) rfl
/-- the order in which the cells are made -/
def alN (k : Nat) : Nat := if k = 0 then 0 else if k ≤ 56 then k + 5 else if k ≤ 61 then k - 56 else k
def ordN (i : Nat) : Nat := if i = 0 then 0 else if i ≤ 5 then i + 56 else if i ≤ 61 then i - 5 else i
theorem ord_al (k : Nat) : ordN (alN k) = k := by
  unfold ordN alN
  by_cases h1 : k = 0
  · simp [h1]
  · by_cases h2 : k ≤ 56
    · rw [if_neg h1, if_pos h2, if_neg (by omega), if_neg (by omega), if_pos (by omega)]; omega
    · by_cases h3 : k ≤ 61
      · rw [if_neg h1, if_neg h2, if_pos h3, if_neg (by omega), if_pos (by omega)]; omega
      · rw [if_neg h1, if_neg h2, if_neg h3, if_neg (by omega), if_neg (by omega), if_neg (by omega)]
theorem al_ord (i : Nat) : alN (ordN i) = i := by
  unfold ordN alN
  by_cases h1 : i = 0
  · simp [h1]
  · by_cases h2 : i ≤ 5
    · rw [if_neg h1, if_pos h2, if_neg (by omega), if_neg (by omega), if_pos (by omega)]; omega
    · by_cases h3 : i ≤ 61
      · rw [if_neg h1, if_neg h2, if_pos h3, if_neg (by omega), if_pos (by omega)]; omega
      · rw [if_neg h1, if_neg h2, if_neg h3, if_neg (by omega), if_neg (by omega), if_neg (by omega)]
theorem al_lt {k : Nat} (h : k < NN) : alN k < NN := by
  unfold alN
  have h' : k < 286 := h
  show _ < 286
  split
  · omega
  · split
    · omega
    · split <;> omega
theorem ord_lt {k : Nat} (h : k < NN) : ordN k < NN := by
  unfold ordN
  have h' : k < 286 := h
  show _ < 286
  split
  · omega
  · split
    · omega
    · split <;> omega
/-- which references are stored -/
abbrev Pf : Type := Nat → Nat → Bool
def pf1 (F : Pf) (i k : Nat) : Pf := fun j q => (j == i && q == k) || F j q
theorem pf1_at (F : Pf) (i k : Nat) : pf1 F i k i k = true := by simp [pf1]
theorem pf1_ne {F : Pf} {i k j q : Nat} (h : ¬ (j = i ∧ q = k)) : pf1 F i k j q = F j q := by
  simp only [pf1, Bool.or_eq_right_iff_imp, Bool.and_eq_true, beq_iff_eq]
  intro h1; exact absurd h1 h
theorem pf1_or {F : Pf} {i k j q : Nat} (h : F j q = true) : pf1 F i k j q = true := by simp [pf1, h]
def fvN (ad : Nat → Nat) (M : Mm) (F : Pf) (i k : Nat) (q : Nat × Nat) : Value := match q.1 with
  | 0 => .int (M.1 i k)
  | 1 => .long (M.2.1 i k)
  | 2 => if F i k = true then .ref (ad q.2) else .null
  | _ => if F i k = true then .ref (ad (M.2.2 i k)) else .null
def fldsN (ad : Nat → Nat) (M : Mm) (F : Pf) (i : Nat) : Nat → List (Nat × Nat) → List Value
  | _, [] => []
  | k, q :: qs => fvN ad M F i k q :: fldsN ad M F i (k + 1) qs
def rfaN (ad : Nat → Nat) (F : Pf) (i : Nat) (bs : List (Nat × Nat)) : Nat → Option Nat := fun j => if F i j = true then rfa ad bs j else none
def celN (cA : Nat → ClassId) (ad : Nat → Nat) (M : Mm) (F : Pf) (i : Nat) : va_E := match shp i with
  | (0, c, fs) => .inr (c, fldsN ad M F i 0 fs)
  | (1, n, _) => .inl (cA 0, n, .inl (M.1 i))
  | (2, n, _) => .inl (cA 1, n, .inr (.inl (M.2.1 i)))
  | (3, n, _) => .inl (cA 2, n, .inl (M.1 i))
  | (4, n, bs) => .inl (cA 3, n, .inr (.inr (.inr (.inr (rfaN ad F i bs)))))
  | (_, n, bs) => .inl (cA 4, n, .inr (.inr (.inr (.inr (rfaN ad F i bs)))))
def cellsN (c9 : Nat) (cA : Nat → ClassId) (ad : Nat → Nat) (M : Mm) (F : Pf) : va_W := (List.range c9).map (fun k => (ad (alN k), celN cA ad M F (alN k)))
section
variable {cA : Nat → ClassId} {ad : Nat → Nat} {M M' : Mm} {F F' : Pf} {c9 i n c : Nat} {fs bs : List (Nat × Nat)}
theorem celN_obj (h : shp i = (0, c, fs)) : celN cA ad M F i = .inr (c, fldsN ad M F i 0 fs) := by simp [celN, h]
theorem celN_ia (h : shp i = (1, n, bs)) : celN cA ad M F i = .inl (cA 0, n, .inl (M.1 i)) := by simp [celN, h]
theorem celN_la (h : shp i = (2, n, bs)) : celN cA ad M F i = .inl (cA 1, n, .inr (.inl (M.2.1 i))) := by simp [celN, h]
theorem celN_za (h : shp i = (3, n, bs)) : celN cA ad M F i = .inl (cA 2, n, .inl (M.1 i)) := by simp [celN, h]
theorem celN_ma (h : shp i = (4, n, bs)) : celN cA ad M F i = .inl (cA 3, n, .inr (.inr (.inr (.inr (rfaN ad F i bs))))) := by simp [celN, h]
theorem celN_sa (h : shp i = (5, n, bs)) : celN cA ad M F i = .inl (cA 4, n, .inr (.inr (.inr (.inr (rfaN ad F i bs))))) := by simp [celN, h]
theorem cellsN_at {k : Nat} (h : k < c9) : (cellsN c9 cA ad M F)[k]? = some (ad (alN k), celN cA ad M F (alN k)) := by
  unfold cellsN
  rw [List.getElem?_map, List.getElem?_range h]
  rfl
theorem cellsN_len : (cellsN c9 cA ad M F).length = c9 := by simp [cellsN]
theorem cellsN_push : cellsN (c9 + 1) cA ad M F = cellsN c9 cA ad M F ++ [(ad (alN c9), celN cA ad M F (alN c9))] := by
  unfold cellsN
  rw [List.range_succ, List.map_append]
  rfl
theorem fldsN_get : ∀ (fs : List (Nat × Nat)) (j k : Nat) (q : Nat × Nat), fs[k]? = some q → (fldsN ad M F i j fs)[k]? = some (fvN ad M F i (j + k) q) := by
  intro fs
  induction fs with
  | nil => intro j k q h; simp at h
  | cons u us ih =>
    intro j k q h
    cases k with
    | zero => simp at h; subst h; simp [fldsN]
    | succ k =>
      rw [fldsN, List.getElem?_cons_succ]
      rw [List.getElem?_cons_succ] at h
      rw [ih (j + 1) k q h, show j + 1 + k = j + (k + 1) by omega]
theorem fldsN_len : ∀ (fs : List (Nat × Nat)) (j : Nat), (fldsN ad M F i j fs).length = fs.length := by
  intro fs
  induction fs with
  | nil => intro j; rfl
  | cons u us ih => intro j; simp [fldsN, ih]
theorem fldsN_congr (h : ∀ (k' : Nat) (q' : Nat × Nat), fvN ad M' F' i k' q' = fvN ad M F i k' q') : ∀ (fs : List (Nat × Nat)) (j : Nat), fldsN ad M' F' i j fs = fldsN ad M F i j fs := by
  intro fs
  induction fs with
  | nil => intro j; rfl
  | cons u us ih => intro j; rw [fldsN, fldsN, ih, h]
theorem fldsN_set {v : Value} : ∀ (fs : List (Nat × Nat)) (j k : Nat) (q : Nat × Nat), fs[k]? = some q → fvN ad M' F' i (j + k) q = v → (∀ (k' : Nat) (q' : Nat × Nat), k' ≠ j + k → fvN ad M' F' i k' q' = fvN ad M F i k' q') → (fldsN ad M F i j fs).set k v = fldsN ad M' F' i j fs := by
  intro fs j k q h hv hk
  apply List.ext_getElem?
  intro x
  by_cases hx : x = k
  · subst hx
    rw [fldsN_get fs j x q h, hv]
    rw [List.getElem?_set_self (by rw [fldsN_len]; exact (List.getElem?_eq_some_iff.mp h).1)]
  · rw [List.getElem?_set_ne (fun e => hx e.symm)]
    cases hr : fs[x]? with
    | none =>
      have h1 : fs.length ≤ x := List.getElem?_eq_none_iff.mp hr
      rw [List.getElem?_eq_none (by rw [fldsN_len]; exact h1), List.getElem?_eq_none (by rw [fldsN_len]; exact h1)]
    | some q' => rw [fldsN_get fs j x q' hr, fldsN_get fs j x q' hr, hk _ _ (by omega)]
theorem celN_congr (h1 : M'.1 i = M.1 i) (h2 : M'.2.1 i = M.2.1 i) (h3 : M'.2.2 i = M.2.2 i) (h4 : F' i = F i) : celN cA ad M' F' i = celN cA ad M F i := by
  have hf : ∀ (k' : Nat) (q' : Nat × Nat), fvN ad M' F' i k' q' = fvN ad M F i k' q' := by
    intro k' q'
    unfold fvN
    rw [h1, h2, h3, h4]
  have hr : ∀ bs, rfaN ad F' i bs = rfaN ad F i bs := by
    intro bs
    unfold rfaN
    rw [h4]
  unfold celN
  rw [h1, h2]
  split <;> first | rfl | (rw [fldsN_congr hf]) | (rw [hr])
theorem cellsN_set {k : Nat} {e : va_E} (hk : k < c9) (he : celN cA ad M' F' (alN k) = e) (h : ∀ j, j ≠ alN k → M'.1 j = M.1 j ∧ M'.2.1 j = M.2.1 j ∧ M'.2.2 j = M.2.2 j ∧ F' j = F j) : (cellsN c9 cA ad M F).set k (ad (alN k), e) = cellsN c9 cA ad M' F' := by
  apply List.ext_getElem?
  intro x
  by_cases hx : x = k
  · subst hx
    rw [cellsN_at hk, he, List.getElem?_set_self (by rw [cellsN_len]; exact hk)]
  · rw [List.getElem?_set_ne (fun e => hx e.symm)]
    by_cases hl : x < c9
    · rw [cellsN_at hl, cellsN_at hl]
      have hne : alN x ≠ alN k := fun e => hx (by rw [← ord_al x, e, ord_al])
      obtain ⟨q1, q2, q3, q4⟩ := h _ hne
      rw [celN_congr q1 q2 q3 q4]
    · rw [List.getElem?_eq_none (by rw [cellsN_len]; omega), List.getElem?_eq_none (by rw [cellsN_len]; omega)]
end
/-- cells that aren't made yet: nothing is in them -/
def Fr (c9 : Nat) (M : Mm) (F : Pf) : Prop := ∀ k, c9 ≤ k → (∀ q, M.1 (alN k) q = 0) ∧ (∀ q, M.2.1 (alN k) q = 0) ∧ ∀ q, F (alN k) q = false
def HN (b0 : Nat) (G : Gt) (c9 : Nat) (M : Mm) (F : Pf) (H : Heap) : Prop := H.size = b0 + c9 ∧ va_P G.D vwCl (cellsN c9 G.cA G.ad M F) H ∧ Fr c9 M F
def nB (G : Gt) (b0 : Nat) : Prop := ∀ k, k < NN → G.ad (alN k) = b0 + k
def AOs (U : State) : Prop := va_AO "MurmurSheds$Mark" U ∧ va_AO "MurmurSheds$Standing" U
theorem nB.nn {G : Gt} {b0 : Nat} (h : nB G b0) : ∀ i j, i < NN → j < NN → G.ad i = G.ad j → i = j := by
  intro i j hi hj e
  have h1 := h _ (ord_lt hi)
  have h2 := h _ (ord_lt hj)
  rw [al_ord] at h1 h2
  have h3 : ordN i = ordN j := by omega
  rw [← al_ord i, h3, al_ord]
theorem cellsN_D {G : Gt} {b0 c9 : Nat} {M : Mm} {F : Pf} (h : nB G b0) (hc : c9 ≤ NN) : va_D (A0 G.ad) (cellsN c9 G.cA G.ad M F) := by
  have key : ∀ (k : Nat) (q : Nat × va_E), (cellsN c9 G.cA G.ad M F)[k]? = some q → k < c9 ∧ q.1 = b0 + k ∧ q.1 = G.ad (alN k) := by
    intro k q hk
    have hl : k < c9 := by
      have := (List.getElem?_eq_some_iff.mp hk).1
      rw [cellsN_len] at this
      exact this
    rw [cellsN_at hl] at hk
    cases hk
    exact ⟨hl, h k (by omega), rfl⟩
  refine ⟨fun i j p q hi hj e => ?_, fun k q hk => ⟨alN k, al_lt (by have := (key k q hk).1; omega), (key k q hk).2.2⟩⟩
  obtain ⟨h1, h2, -⟩ := key i p hi
  obtain ⟨h3, h4, -⟩ := key j q hj
  omega
theorem Fr.set {c9 k : Nat} {M M' : Mm} {F F' : Pf} (h : Fr c9 M F) (hk : k < c9) (hh : ∀ j, j ≠ alN k → M'.1 j = M.1 j ∧ M'.2.1 j = M.2.1 j ∧ M'.2.2 j = M.2.2 j ∧ F' j = F j) : Fr c9 M' F' := by
  intro x hx
  have hne : alN x ≠ alN k := fun e => by
    have h1 := ord_al x
    rw [e, ord_al] at h1
    omega
  obtain ⟨q1, q2, -, q4⟩ := hh _ hne
  rw [q1, q2, q4]
  exact h x hx
theorem Fr.mono {c9 : Nat} {M : Mm} {F : Pf} (h : Fr c9 M F) : Fr (c9 + 1) M F := fun k hk => h k (by omega)
/-- a new cell -/
theorem HN.push {b0 : Nat} {G : Gt} {c9 : Nat} {M : Mm} {F : Pf} {H H1 : Heap} (h : HN b0 G c9 M F H) (hz : H1.size = b0 + c9 + 1) (ho : ∀ q, q < b0 + c9 → H1[q]? = H[q]?) (ha : va_at G.D vwCl (G.ad (alN c9), celN G.cA G.ad M F (alN c9)) H1) : HN b0 G (c9 + 1) M F H1 := by
  refine ⟨by omega, ?_, h.2.2.mono⟩
  rw [cellsN_push]
  refine (h.2.1.kept (fun k q hk => ho _ (by rw [← h.1]; exact vx_lt h.2.1 hk))).app (fun k q hk => ?_)
  have hz : k < 1 := (List.getElem?_eq_some_iff.mp hk).1
  rw [show k = 0 by omega] at hk
  cases hk
  exact ha
/-- what was there before stands; there are as many cells as were counted -/
def SN (b0 c9 k0 : Nat) (G : Gt) (s : State) (H : Heap) (locs : List Loc) : Prop := va_S (A0 G.ad) s.heap H locs ∧ b0 + c9 = s.heap.size + k0
theorem W_le {p : Program} {l : Launch} {e : Env} {R : Room} {s : State} {m : MethodId} {args : Array Value} {below : List Frame} {meth : Method} {c : Code} {H : Heap} {locs : List Loc} {k n : Nat} {Z : State → Prop} {g : JFrame} (h : H.size ≤ s.heap.size + k → W p l e R s m args below meth c H locs k n Z g) : W p l e R s m args below meth c H locs k n Z g := fun T hT X => h (by rw [← hT]; exact X.heapSize) T hT X
theorem HN.fix {b0 c9 k0 sz : Nat} {G : Gt} {M : Mm} {F : Pf} {H1 : Heap} (hP1 : va_P G.D vwCl (cellsN c9 G.cA G.ad M F) H1) (hpos : 0 < c9) (hc : c9 ≤ NN) (hnB : nB G b0) (hup : H1.size ≤ sz + k0) (heq : b0 + c9 = sz + k0) : H1.size = b0 + c9 := by
  have h1 := vx_lt hP1 (cellsN_at (k := c9 - 1) (by omega))
  have h2 := hnB (c9 - 1) (by omega)
  dsimp only at h1
  omega
def CxN (b0 bk bs : Nat) (X : Nat → List Value → Nat → Mm → Pf → Prop) (G : Gt) (d : Nat) (mi : Mi) (p : Program) (e : Env) (s : State) (m : MethodId) (args : Array Value) (below : List Frame) (meth : Method) (c : Code) (R : Room) (Z : State → Prop) (k0 n0 : Nat) : Prop :=
  (p.tables.exec = Jvm.exec ∧ c.code = mi.2.1 ∧ c.maxLocals = mi.2.2.1 ∧ s.vm.findClass mi.1.cls = some m.cls ∧ (∀ w ∈ lw_g, w.before args s = true) ∧ KU G s ∧ RO G s s.heap ∧ nB G b0 ∧ AOs s ∧ meth.name = mi.1.name) ∧
  (d ≤ R.frames ∧ 80 * d ≤ R.locals ∧ k0 + bk ≤ R.cells ∧ n0 + bs ≤ R.slots) ∧
  ∀ (pc : Nat) (H : Heap) (locs : List Loc) (lsA : Array Slot) (ls : List Value) (c9 : Nat) (M : Mm) (F : Pf), X pc ls c9 M F → HN b0 G c9 M F H → va_S (A0 G.ad) s.heap H locs → lr G.ad lsA mi.2.2.1 ls →
    W p G.1 e R s m args below meth c H locs (k0 + bk) (n0 + bs) Z (F0 m pc lsA [])
def EvN (b0 bk bs : Nat) (G : Gt) (d : Nat) (mi : Mi) (pc : Nat) (ls st : List Value) (c9 : Nat) (M : Mm) (F : Pf) (X : Nat → List Value → Nat → Mm → Pf → Prop) : Prop :=
  ∀ (p : Program) (e : Env) (s : State) (m : MethodId) (args : Array Value) (below : List Frame) (meth : Method) (c : Code) (R : Room) (Z : State → Prop) (k0 n0 : Nat) (H : Heap) (locs : List Loc) (lsA : Array Slot),
    CxN b0 bk bs X G d mi p e s m args below meth c R Z k0 n0 → HN b0 G c9 M F H → SN b0 c9 k0 G s H locs → lr G.ad lsA mi.2.2.1 ls →
    W p G.1 e R s m args below meth c H locs k0 n0 Z (F0 m pc lsA (st.map (tv G.ad)))
theorem CxN.less {b0 bk bs x y : Nat} {X : Nat → List Value → Nat → Mm → Pf → Prop} {G : Gt} {d : Nat} {mi : Mi} {p : Program} {e : Env} {s : State} {m : MethodId} {args : Array Value} {below : List Frame} {meth : Method} {c : Code} {R : Room} {Z : State → Prop} {k0 n0 : Nat} (C : CxN b0 (bk + x) (bs + y) X G d mi p e s m args below meth c R Z k0 n0) : CxN b0 bk bs X G d mi p e s m args below meth c R Z (k0 + x) (n0 + y) := by
  obtain ⟨h1, ⟨r1, r2, r3, r4⟩, h3⟩ := C
  refine ⟨h1, ⟨r1, r2, by omega, by omega⟩, ?_⟩
  have e1 : k0 + x + bk = k0 + (bk + x) := by omega
  have e2 : n0 + y + bs = n0 + (bs + y) := by omega
  rw [e1, e2]
  exact h3
section
variable {b0 bk bs : Nat} {G : Gt} {d : Nat} {mi : Mi} {pc : Nat} {ls st : List Value} {c9 : Nat} {M : Mm} {F : Pf} {X : Nat → List Value → Nat → Mm → Pf → Prop}
/-- out of here -/
theorem n_exit (hX : X pc ls c9 M F) : EvN b0 bk bs G d mi pc ls [] c9 M F X := by
  intro p e s m args below meth c R Z k0 n0 H locs lsA C hP hS hl
  obtain ⟨h1, hR, hret⟩ := id C
  exact W_widen (by omega) (by omega) (hret pc H locs lsA ls c9 M F hX hP hS.1 hl)
theorem n_iconst {n : Int} {v : Int32} (hd : decode mi.2.1 pc = .ok (.iconst n, 1)) (hv : Int32.ofInt n = v) (k : EvN b0 bk bs G d mi (pc + 1) ls (.int v :: st) c9 M F X) : EvN b0 bk bs G d mi pc ls (st) c9 M F X := by
  intro p e s m args below meth c R Z k0 n0 H locs lsA C hP hS hl
  obtain ⟨⟨hx, hb, hml, hown, hts, hK, hRO, hnB, hAO, hme⟩, hR, hret⟩ := id C
  exact lv_iconst hx hb hd hv (k p e s m args below meth c R Z k0 n0 H locs lsA C hP hS hl)
theorem n_bipush {n : Int} {v : Int32} (hd : decode mi.2.1 pc = .ok (.bipush n, 2)) (hv : (Int8.ofInt n).toInt32 = v) (k : EvN b0 bk bs G d mi (pc + 2) ls (.int v :: st) c9 M F X) : EvN b0 bk bs G d mi pc ls (st) c9 M F X := by
  intro p e s m args below meth c R Z k0 n0 H locs lsA C hP hS hl
  obtain ⟨⟨hx, hb, hml, hown, hts, hK, hRO, hnB, hAO, hme⟩, hR, hret⟩ := id C
  exact lv_bipush hx hb hd hv (k p e s m args below meth c R Z k0 n0 H locs lsA C hP hS hl)
theorem n_sipush {n : Int} {v : Int32} (hd : decode mi.2.1 pc = .ok (.sipush n, 3)) (hv : (Int16.ofInt n).toInt32 = v) (k : EvN b0 bk bs G d mi (pc + 3) ls (.int v :: st) c9 M F X) : EvN b0 bk bs G d mi pc ls (st) c9 M F X := by
  intro p e s m args below meth c R Z k0 n0 H locs lsA C hP hS hl
  obtain ⟨⟨hx, hb, hml, hown, hts, hK, hRO, hnB, hAO, hme⟩, hR, hret⟩ := id C
  exact lv_sipush hx hb hd hv (k p e s m args below meth c R Z k0 n0 H locs lsA C hP hS hl)
theorem n_iload_n {n : Fin 4} {x : Int32} (hd : decode mi.2.1 pc = .ok (.iload_n n, 1)) (h : ls[(n : Nat)]? = some (.int x)) (k : EvN b0 bk bs G d mi (pc + 1) ls (.int x :: st) c9 M F X) : EvN b0 bk bs G d mi pc ls (st) c9 M F X := by
  intro p e s m args below meth c R Z k0 n0 H locs lsA C hP hS hl
  obtain ⟨⟨hx, hb, hml, hown, hts, hK, hRO, hnB, hAO, hme⟩, hR, hret⟩ := id C
  exact lv_iload_n hx hb hd rfl (lr_at hl h rfl) (k p e s m args below meth c R Z k0 n0 H locs lsA C hP hS hl)
theorem n_aload_n {n : Fin 4} {x : Nat} (hd : decode mi.2.1 pc = .ok (.aload_n n, 1)) (h : ls[(n : Nat)]? = some (.ref x)) (k : EvN b0 bk bs G d mi (pc + 1) ls (.ref x :: st) c9 M F X) : EvN b0 bk bs G d mi pc ls (st) c9 M F X := by
  intro p e s m args below meth c R Z k0 n0 H locs lsA C hP hS hl
  obtain ⟨⟨hx, hb, hml, hown, hts, hK, hRO, hnB, hAO, hme⟩, hR, hret⟩ := id C
  exact lv_aload_n hx hb hd rfl (lr_at hl h rfl) (k p e s m args below meth c R Z k0 n0 H locs lsA C hP hS hl)
theorem n_istore_n {n : Fin 4} {x : Int32} {ls' : List Value} (hd : decode mi.2.1 pc = .ok (.istore_n n, 1)) (hn : (n : Nat) < mi.2.2.1) (hs : stI ls (n : Nat) (.int x) = ls') (k : EvN b0 bk bs G d mi (pc + 1) ls' st c9 M F X) : EvN b0 bk bs G d mi pc ls (.int x :: st) c9 M F X := by
  intro p e s m args below meth c R Z k0 n0 H locs lsA C hP hS hl
  obtain ⟨⟨hx, hb, hml, hown, hts, hK, hRO, hnB, hAO, hme⟩, hR, hret⟩ := id C
  subst hs
  exact lv_istore_n hx hb hd rfl hl.2 hn rfl (fun lsB hB => k p e s m args below meth c R Z k0 n0 H locs lsB C hP hS (lr_stI (v := Value.int x) hl.1 hB))
theorem n_iinc {i : Nat} {n : Int} {x v : Int32} {ls' : List Value} (hd : decode mi.2.1 pc = .ok (.iinc i n, 3)) (h : ls[i]? = some (.int x)) (hv : x + Int32.ofInt n = v) (hn : i < mi.2.2.1) (hs : stI ls i (.int v) = ls') (k : EvN b0 bk bs G d mi (pc + 3) ls' st c9 M F X) : EvN b0 bk bs G d mi pc ls st c9 M F X := by
  intro p e s m args below meth c R Z k0 n0 H locs lsA C hP hS hl
  obtain ⟨⟨hx, hb, hml, hown, hts, hK, hRO, hnB, hAO, hme⟩, hR, hret⟩ := id C
  subst hs
  have hm : (i, Value.int x) ∈ lqF G.ad 0 ls := (lqF_mem ls 0).mpr ⟨.int x, Nat.zero_le _, by simpa using h, rfl, rfl⟩
  obtain ⟨q, hq⟩ := List.getElem?_of_mem hm
  exact lv_iinc hx hb hd hl.2 hq hv hn rfl (fun lsB hB => k p e s m args below meth c R Z k0 n0 H locs lsB C hP hS (lr_stI (v := Value.int v) hl.1 hB))
theorem n_dup {v : Value} (hd : decode mi.2.1 pc = .ok (.dup, 1)) (hv : v.category = 1) (k : EvN b0 bk bs G d mi (pc + 1) ls (v :: v :: st) c9 M F X) : EvN b0 bk bs G d mi pc ls (v :: st) c9 M F X := by
  intro p e s m args below meth c R Z k0 n0 H locs lsA C hP hS hl
  obtain ⟨⟨hx, hb, hml, hown, hts, hK, hRO, hnB, hAO, hme⟩, hR, hret⟩ := id C
  exact lv_dup hx hb hd (by rw [tv_cat]; exact hv) (k p e s m args below meth c R Z k0 n0 H locs lsA C hP hS hl)
theorem n_icmp_ge {x y : Int32} {off : Int} {tgt : Nat} (hd : decode mi.2.1 pc = .ok (.if_icmp .ge off, 3)) (ht : (pc : Int) + off = (tgt : Int)) (kt : ¬ x < y → EvN b0 bk bs G d mi tgt ls st c9 M F X) (kf : x < y → EvN b0 bk bs G d mi (pc + 3) ls st c9 M F X) : EvN b0 bk bs G d mi pc ls (.int y :: .int x :: st) c9 M F X := by
  intro p e s m args below meth c R Z k0 n0 H locs lsA C hP hS hl
  obtain ⟨⟨hx, hb, hml, hown, hts, hK, hRO, hnB, hAO, hme⟩, hR, hret⟩ := id C
  exact lv_icmp_ge hx hb hd ht (fun h => (kt (i_nlt h)) p e s m args below meth c R Z k0 n0 H locs lsA C hP hS hl) (fun h => (kf (i_nle h)) p e s m args below meth c R Z k0 n0 H locs lsA C hP hS hl)
theorem n_goto {off : Int} {tgt : Nat} (hd : decode mi.2.1 pc = .ok (.goto off, 3)) (ht : (pc : Int) + off = (tgt : Int)) (k : EvN b0 bk bs G d mi tgt ls st c9 M F X) : EvN b0 bk bs G d mi pc ls st c9 M F X := by
  intro p e s m args below meth c R Z k0 n0 H locs lsA C hP hS hl
  obtain ⟨⟨hx, hb, hml, hown, hts, hK, hRO, hnB, hAO, hme⟩, hR, hret⟩ := id C
  exact lv_goto hx hb hd ht (k p e s m args below meth c R Z k0 n0 H locs lsA C hP hS hl)
theorem n_newarr (hd : decode mi.2.1 pc = .ok (.newarray .int, 2)) {N : Int32} {N' i : Nat} (hs : shp i = (1, N', [])) (hal : alN c9 = i) (hc9 : c9 < NN) (hn : ¬ N < 0) (hN : N.toNatClampNeg = N') (hN2 : N' ≤ 5000) (hw : Jvm.Cond.arrayClass .int ∈ lw_g) (k : EvN b0 bk bs G d mi (pc + 2) ls (.ref i :: st) (c9 + 1) M F X) : EvN b0 (bk + 1) (bs + N') G d mi pc ls (.int N :: st) c9 M F X := by
  intro p e s m args below meth c R Z k0 n0 H locs lsA C hP hS hl
  obtain ⟨⟨hx, hb, hml, hown, hts, hK, hRO, hnB, hAO, hme⟩, hR, hret⟩ := id C
  refine va_newaK (atype := .int) hx hb (hts _ hw) rfl hd rfl hn hN (by show N' * 4 ≤ _; omega) (by omega) (by omega) hP.1 (fun H1 cA1 e1 z1 o1 hAr hNm => ?_)
  subst hal
  have hcA : cA1 = G.cA 0 := by
    obtain ⟨-, h2⟩ := hK.1.2 0 (G.cA 0, .int) rfl
    exact Option.some.inj (hNm.symm.trans h2)
  subst hcA
  have hfr := hP.2.2 c9 (Nat.le_refl _)
  have hN1 : HN b0 G (c9 + 1) M F H1 := by
    refine hP.push (by omega) o1 ?_
    rw [hnB c9 hc9]
    rw [celN_ia hs]
    show H1[b0 + c9]? = some (vp_cell _ _)
    rw [vp_cell_i, e1]
    congr 2
    funext j
    show Value.int 0 = _
    rw [hfr.1 j]
  have h9 := k p e s m args below meth c R Z (k0 + 1) (n0 + N') H1 locs lsA C.less hN1 ⟨⟨Nat.le_trans hS.1.1 (by rw [z1, hP.1]; omega), fun q h1 h2 => (o1 q (by rw [← hP.1]; exact Nat.lt_of_lt_of_le h1 hS.1.1)).trans (hS.1.2.1 q h1 h2), hS.1.2.2⟩, by have := hS.2; omega⟩ hl
  rw [List.map_cons, show tv G.ad (.ref (alN c9)) = .ref (b0 + c9) by show Value.ref (G.ad (alN c9)) = _; rw [hnB c9 hc9]] at h9
  exact h9
theorem n_newarrL (hd : decode mi.2.1 pc = .ok (.newarray .long, 2)) {N : Int32} {N' i : Nat} (hs : shp i = (2, N', [])) (hal : alN c9 = i) (hc9 : c9 < NN) (hn : ¬ N < 0) (hN : N.toNatClampNeg = N') (hN2 : N' ≤ 5000) (hw : Jvm.Cond.arrayClass .long ∈ lw_g) (k : EvN b0 bk bs G d mi (pc + 2) ls (.ref i :: st) (c9 + 1) M F X) : EvN b0 (bk + 1) (bs + N') G d mi pc ls (.int N :: st) c9 M F X := by
  intro p e s m args below meth c R Z k0 n0 H locs lsA C hP hS hl
  obtain ⟨⟨hx, hb, hml, hown, hts, hK, hRO, hnB, hAO, hme⟩, hR, hret⟩ := id C
  refine va_newaK (atype := .long) hx hb (hts _ hw) rfl hd rfl hn hN (by show N' * 8 ≤ _; omega) (by omega) (by omega) hP.1 (fun H1 cA1 e1 z1 o1 hAr hNm => ?_)
  subst hal
  have hcA : cA1 = G.cA 1 := by
    obtain ⟨-, h2⟩ := hK.1.2 1 (G.cA 1, .long) rfl
    exact Option.some.inj (hNm.symm.trans h2)
  subst hcA
  have hfr := hP.2.2 c9 (Nat.le_refl _)
  have hN1 : HN b0 G (c9 + 1) M F H1 := by
    refine hP.push (by omega) o1 ?_
    rw [hnB c9 hc9]
    rw [celN_la hs]
    show H1[b0 + c9]? = some (vp_cell _ _)
    rw [vp_cell_l, e1]
    congr 2
    funext j
    show Value.long 0 = _
    rw [hfr.2.1 j]
  have h9 := k p e s m args below meth c R Z (k0 + 1) (n0 + N') H1 locs lsA C.less hN1 ⟨⟨Nat.le_trans hS.1.1 (by rw [z1, hP.1]; omega), fun q h1 h2 => (o1 q (by rw [← hP.1]; exact Nat.lt_of_lt_of_le h1 hS.1.1)).trans (hS.1.2.1 q h1 h2), hS.1.2.2⟩, by have := hS.2; omega⟩ hl
  rw [List.map_cons, show tv G.ad (.ref (alN c9)) = .ref (b0 + c9) by show Value.ref (G.ad (alN c9)) = _; rw [hnB c9 hc9]] at h9
  exact h9
theorem n_newarrZ (hd : decode mi.2.1 pc = .ok (.newarray .boolean, 2)) {N : Int32} {N' i : Nat} (hs : shp i = (3, N', [])) (hal : alN c9 = i) (hc9 : c9 < NN) (hn : ¬ N < 0) (hN : N.toNatClampNeg = N') (hN2 : N' ≤ 5000) (hw : Jvm.Cond.arrayClass .boolean ∈ lw_g) (k : EvN b0 bk bs G d mi (pc + 2) ls (.ref i :: st) (c9 + 1) M F X) : EvN b0 (bk + 1) (bs + N') G d mi pc ls (.int N :: st) c9 M F X := by
  intro p e s m args below meth c R Z k0 n0 H locs lsA C hP hS hl
  obtain ⟨⟨hx, hb, hml, hown, hts, hK, hRO, hnB, hAO, hme⟩, hR, hret⟩ := id C
  refine va_newaK (atype := .boolean) hx hb (hts _ hw) rfl hd rfl hn hN (by show N' * 1 ≤ _; omega) (by omega) (by omega) hP.1 (fun H1 cA1 e1 z1 o1 hAr hNm => ?_)
  subst hal
  have hcA : cA1 = G.cA 2 := by
    obtain ⟨-, h2⟩ := hK.1.2 2 (G.cA 2, .boolean) rfl
    exact Option.some.inj (hNm.symm.trans h2)
  subst hcA
  have hfr := hP.2.2 c9 (Nat.le_refl _)
  have hN1 : HN b0 G (c9 + 1) M F H1 := by
    refine hP.push (by omega) o1 ?_
    rw [hnB c9 hc9]
    rw [celN_za hs]
    show H1[b0 + c9]? = some (vp_cell _ _)
    rw [vp_cell_i, e1]
    congr 2
    funext j
    show Value.int 0 = _
    rw [hfr.1 j]
  have h9 := k p e s m args below meth c R Z (k0 + 1) (n0 + N') H1 locs lsA C.less hN1 ⟨⟨Nat.le_trans hS.1.1 (by rw [z1, hP.1]; omega), fun q h1 h2 => (o1 q (by rw [← hP.1]; exact Nat.lt_of_lt_of_le h1 hS.1.1)).trans (hS.1.2.1 q h1 h2), hS.1.2.2⟩, by have := hS.2; omega⟩ hl
  rw [List.map_cons, show tv G.ad (.ref (alN c9)) = .ref (b0 + c9) by show Value.ref (G.ad (alN c9)) = _; rw [hnB c9 hc9]] at h9
  exact h9
/-- an array of references, all null -/
theorem n_anew {ty kd t9 : Nat} {C9 : String} {idx : Nat} (hd : decode mi.2.1 pc = .ok (.anewarray idx, 3)) {N : Int32} {N' i : Nat} {bs9 : List (Nat × Nat)} (hs : shp i = (kd, N', bs9)) (hkd : (kd = 4 ∧ t9 = 3) ∨ (kd = 5 ∧ t9 = 4)) (ht : ∀ G : Gt, (tysG G)[t9]? = some (G.cA t9, .object C9)) (hal : alN c9 = i) (hc9 : c9 < NN) (hn : ¬ N < 0) (hN : N.toNatClampNeg = N') (hN2 : N' ≤ 5000) (hw : Jvm.Cond.classLink mi.1.cls idx C9 ∈ lw_g) (hao : ∀ U, AOs U → va_AO C9 U) (k : EvN b0 bk bs G d mi (pc + 3) ls (.ref i :: st) (c9 + 1) M F X) : EvN b0 (bk + 1) (bs + N') G d mi pc ls (.int N :: st) c9 M F X := by
  intro p e s m args below meth c R Z k0 n0 H locs lsA C hP hS hl
  obtain ⟨⟨hx, hb, hml, hown, hts, hK, hRO, hnB, hAO, hme⟩, hR, hret⟩ := id C
  subst hN
  refine W.anew hx hb hown (hts _ hw) (va_AO.use (hao _ hAO)) rfl hd rfl hn (by omega) (by omega) (by omega) (fun cA1 kA comp f1 f2 f3 f4 => ?_)
  subst hal
  have hcA : cA1 = G.cA t9 := by
    obtain ⟨-, kA', comp', -, -, -, h2⟩ := hK.1.2 t9 (G.cA t9, .object C9) (ht G)
    exact Option.some.inj (f1.symm.trans h2)
  subst hcA
  generalize hH1 : H.push ({ cls := G.cA t9, slots := Array.replicate N.toNatClampNeg .null, vm := .none } : Cell) = H1
  have z1 : H1.size = H.size + 1 := by rw [← hH1, Array.size_push]
  have e1 : H1[H.size]? = some (arrV (G.cA t9) N.toNatClampNeg (fun _ => .null)) := by rw [← hH1, Array.getElem?_push_size, ← arrV_new]
  have o1 : ∀ q : Nat, q < H.size → H1[q]? = H[q]? := fun q hq => by rw [← hH1, Array.getElem?_push, if_neg (Nat.ne_of_lt hq)]
  have hfr := hP.2.2 c9 (Nat.le_refl _)
  have hq0 : vp_cell (G.cA t9) (N.toNatClampNeg, .inr (.inr (.inr (.inr (rfaN G.ad F (alN c9) bs9))))) = arrV (G.cA t9) N.toNatClampNeg (fun _ => .null) := by
    rw [vp_cell_q]
    congr 1
    funext j
    show va_rf (rfaN G.ad F (alN c9) bs9 j) = .null
    unfold rfaN
    rw [hfr.2.2 j]
    rfl
  have hN1 : HN b0 G (c9 + 1) M F H1 := by
    refine hP.push (by rw [z1, hP.1]) (fun q hq => o1 q (by rw [hP.1]; exact hq)) ?_
    show va_at _ _ _ _
    rcases hkd with ⟨rfl, rfl⟩ | ⟨rfl, rfl⟩
    · rw [celN_ma hs]
      show H1[G.ad (alN c9)]? = some (vp_cell _ _)
      rw [hnB c9 hc9, hq0, ← hP.1, e1]
    · rw [celN_sa hs]
      show H1[G.ad (alN c9)]? = some (vp_cell _ _)
      rw [hnB c9 hc9, hq0, ← hP.1, e1]
  have h9 := k p e s m args below meth c R Z (k0 + 1) (n0 + N.toNatClampNeg) H1 locs lsA C.less hN1 ⟨⟨Nat.le_trans hS.1.1 (by omega), fun q h1 h2 => (o1 q (Nat.lt_of_lt_of_le h1 hS.1.1)).trans (hS.1.2.1 q h1 h2), hS.1.2.2⟩, by have := hS.2; omega⟩ hl
  rw [List.map_cons, show tv G.ad (.ref (alN c9)) = .ref H.size by show Value.ref (G.ad (alN c9)) = _; rw [hnB c9 hc9, hP.1]] at h9
  exact h9
def kdD (k : Nat) : Value := match k with
  | 0 => .int 0
  | 1 => .long 0
  | _ => .null
/-- a new object -/
theorem n_new {idx ci N i : Nat} {C9 : String} {T : u_T} {ty : Nat → FieldType} {fs : List (Nat × Nat)} (hd : decode mi.2.1 pc = .ok (.new idx, 3)) (hkc : KC ci C9 T N ty) (hs : shp i = (0, ci, fs)) (hdef : (List.range N).map (fun j => defaultValue (ty j)) = fs.map (fun q => kdD q.1)) (hal : alN c9 = i) (hc9 : c9 < NN)
    (hw1 : Jvm.Cond.classLink mi.1.cls idx C9 ∈ lw_g) (hw2 : Jvm.Cond.instantiable C9 N ∈ lw_g) (hw3 : Jvm.Cond.initialized C9 ∈ lw_g) (k : EvN b0 bk bs G d mi (pc + 3) ls (.ref i :: st) (c9 + 1) M F X) : EvN b0 (bk + 1) (bs + N) G d mi pc ls st c9 M F X := by
  intro p e s m args below meth c R Z k0 n0 H locs lsA C hP hS hl
  obtain ⟨⟨hx, hb, hml, hown, hts, hK, hRO, hnB, hAO, hme⟩, hR, hret⟩ := id C
  obtain ⟨hc, hin, hty, hnm⟩ := hkc
  have hKn := hK.1.1 ci _ hc
  refine W.newcK hx hb hown (hts _ hw1) (hts _ hw2) (hts _ hw3) rfl hd (by omega) (by omega) hKn.2.1 hP.1 (fun H1 kC hkC e1 z1 o1 => ?_)
  subst hal
  have hfr := hP.2.2 c9 (Nat.le_refl _)
  have hfl : fs.length = N := by
    have h1 := congrArg List.length hdef
    simp at h1
    exact h1.symm
  have hN1 : HN b0 G (c9 + 1) M F H1 := by
    refine hP.push z1 o1 ?_
    rw [celN_obj hs]
    refine ⟨_, hc, (u_born ty hts (fun w h => hin w h) hKn hkC (by rw [hnB c9 hc9]; exact e1) hty).to (fun j hj => ?_)⟩
    obtain ⟨q, hq⟩ : ∃ q, fs[j]? = some q := ⟨fs[j]'(by omega), List.getElem?_eq_getElem (by omega)⟩
    have h1 := congrArg (fun l => l[j]?) hdef
    simp only [List.getElem?_map, List.getElem?_range hj, hq, Option.map_some, Option.some.injEq] at h1
    rw [h1]
    unfold vp_V
    rw [List.getD_eq_getElem?_getD, fldsN_get fs 0 j q hq, Nat.zero_add]
    show _ = fvN _ _ _ _ _ _
    obtain ⟨q1, q2⟩ := q
    unfold fvN kdD
    rw [hfr.1 j, hfr.2.1 j, hfr.2.2 j]
    match q1 with
    | 0 => rfl
    | 1 => rfl
    | 2 => rfl
    | q + 3 => rfl
  have h9 := k p e s m args below meth c R Z (k0 + 1) (n0 + N) H1 locs lsA C.less hN1 ⟨⟨Nat.le_trans hS.1.1 (by rw [z1, hP.1]; omega), fun q h1 h2 => (o1 q (by rw [← hP.1]; exact Nat.lt_of_lt_of_le h1 hS.1.1)).trans (hS.1.2.1 q h1 h2), hS.1.2.2⟩, by have := hS.2; omega⟩ hl
  rw [List.map_cons, show tv G.ad (.ref (alN c9)) = .ref (b0 + c9) by show Value.ref (G.ad (alN c9)) = _; rw [hnB c9 hc9]] at h9
  exact h9
/-- a final reference is stored -/
theorem n_putR {idx i ci k x9 j : Nat} {fs : List (Nat × Nat)} {t : FieldType} (hd : decode mi.2.1 pc = .ok (.putfield idx, 3)) (hf : FL mi.1.cls idx ci k t true) (hs : shp i = (0, ci, fs)) (hk : fs[k]? = some (2, j)) (hx9 : alN x9 = i) (hx8 : x9 < c9) (hc9 : c9 ≤ NN) (hini : mi.1.name = "<init>") (hdc : ∀ C T N, vwCl[ci]? = some (C, T, N) → (T k).1 = mi.1.cls) (hnest : ∀ C T N, vwCl[ci]? = some (C, T, N) → Jvm.Cond.fieldLink mi.1.cls idx (T k).1 (T k).2.1 (T k).2.2.1 ∈ lw_g) (hn : narrow t (Value.ref 0) = Value.ref 0) (hfit : fits t (Value.ref 0) = true) (k1 : EvN b0 bk bs G d mi (pc + 3) ls st c9 M (pf1 F i k) X) : EvN b0 bk bs G d mi pc ls (.ref j :: .ref i :: st) c9 M F X := by
  intro p e s m args below meth c R Z k0 n0 H locs lsA C hP hS hl
  obtain ⟨⟨hx, hb, hml, hown, hts, hK, hRO, hnB, hAO, hme⟩, hR, hret⟩ := id C
  obtain ⟨C1, T, N, ty, ⟨hc, hin, hty, hnm⟩, hkN, rfl, hfin, -⟩ := hf
  subst hx9
  have hlen : k < (fldsN G.ad M F (alN x9) 0 fs).length := by rw [fldsN_len]; exact (List.getElem?_eq_some_iff.mp hk).1
  have hch : ∀ j', j' ≠ alN x9 → M.1 j' = M.1 j' ∧ M.2.1 j' = M.2.1 j' ∧ M.2.2 j' = M.2.2 j' ∧ pf1 F (alN x9) k j' = F j' := fun j' hj' => ⟨rfl, rfl, rfl, by funext q; exact pf1_ne (fun h => hj' h.1)⟩
  have hset : (fldsN G.ad M F (alN x9) 0 fs).set k (Value.ref (G.ad j)) = fldsN G.ad M (pf1 F (alN x9) k) (alN x9) 0 fs := by
    refine fldsN_set fs 0 k _ hk ?_ (fun k' q' h' => ?_)
    · rw [Nat.zero_add]; simp [fvN, pf1_at]
    · unfold fvN
      rw [pf1_ne (F := F) (i := alN x9) (k := k) (j := alN x9) (q := k') (by omega)]
  have hcs : ∀ (H1 : Heap), va_P G.D vwCl ((cellsN c9 G.cA G.ad M F).set x9 (G.ad (alN x9), .inr (ci, (fldsN G.ad M F (alN x9) 0 fs).set k (Value.ref (G.ad j))))) H1 → va_P G.D vwCl (cellsN c9 G.cA G.ad M (pf1 F (alN x9) k)) H1 := by
    intro H1 h
    rw [hset, cellsN_set hx8 (celN_obj hs) hch] at h
    exact h
  have hn2 : narrow (ty k) (Value.ref (G.ad j)) = Value.ref (G.ad j) := by (revert hn; cases ty k <;> simp [narrow])
  have hf2 : fits (ty k) (Value.ref (G.ad j)) = true := by (revert hfit; cases ty k <;> simp [fits])
  exact va_putF (ci := ci) (C := C1) (T := T) (N := N) hx hb hts (fun w h => hin w h) ty hty hnm hown hK.1 hP.2.1 (cellsN_D hnB hc9) hS.1 x9 ((cellsN_at hx8).trans (by rw [celN_obj hs])) hc k hkN (hts _ (hnest _ _ _ hc)) (fun _ h => h) hfin (by rw [hme, hini]) (hdc _ _ _ hc) (hty k hkN) hn2 hf2 hlen hd (fun H1 locs1 hP1 _ hS1 => W_le (fun hup => k1 p e s m args below meth c R Z k0 n0 H1 locs1 lsA C ⟨HN.fix (hcs H1 hP1) (by omega) hc9 hnB hup hS.2, hcs H1 hP1, hP.2.2.set hx8 hch⟩ ⟨hS1, hS.2⟩ hl))
theorem n_putP {idx i ci k x9 v : Nat} {fs : List (Nat × Nat)} {t : FieldType} (hd : decode mi.2.1 pc = .ok (.putfield idx, 3)) (hf : FL mi.1.cls idx ci k t false) (hs : shp i = (0, ci, fs)) (hk : fs[k]? = some (3, 0)) (hx9 : alN x9 = i) (hx8 : x9 < c9) (hc9 : c9 ≤ NN) (hnest : ∀ C T N, vwCl[ci]? = some (C, T, N) → Jvm.Cond.fieldLink mi.1.cls idx (T k).1 (T k).2.1 (T k).2.2.1 ∈ lw_g) (hn : narrow t (Value.ref 0) = Value.ref 0) (hfit : fits t (Value.ref 0) = true) (k1 : EvN b0 bk bs G d mi (pc + 3) ls st c9 (setP M i k v) (pf1 F i k) X) : EvN b0 bk bs G d mi pc ls (.ref v :: .ref i :: st) c9 M F X := by
  intro p e s m args below meth c R Z k0 n0 H locs lsA C hP hS hl
  obtain ⟨⟨hx, hb, hml, hown, hts, hK, hRO, hnB, hAO, hme⟩, hR, hret⟩ := id C
  obtain ⟨C1, T, N, ty, ⟨hc, hin, hty, hnm⟩, hkN, rfl, hfin, -⟩ := hf
  subst hx9
  have hlen : k < (fldsN G.ad M F (alN x9) 0 fs).length := by rw [fldsN_len]; exact (List.getElem?_eq_some_iff.mp hk).1
  have hch : ∀ j', j' ≠ alN x9 → (setP M (alN x9) k v).1 j' = M.1 j' ∧ (setP M (alN x9) k v).2.1 j' = M.2.1 j' ∧ (setP M (alN x9) k v).2.2 j' = M.2.2 j' ∧ pf1 F (alN x9) k j' = F j' := fun j' hj' => ⟨(setP_ne j' hj').1, (setP_ne j' hj').2.1, (setP_ne j' hj').2.2, by funext q; exact pf1_ne (fun h => hj' h.1)⟩
  have hset : (fldsN G.ad M F (alN x9) 0 fs).set k (Value.ref (G.ad v)) = fldsN G.ad (setP M (alN x9) k v) (pf1 F (alN x9) k) (alN x9) 0 fs := by
    refine fldsN_set fs 0 k _ hk ?_ (fun k' q' h' => ?_)
    · rw [Nat.zero_add]; simp [fvN, pf1_at, setP]
    · unfold fvN
      rw [pf1_ne (F := F) (i := alN x9) (k := k) (j := alN x9) (q := k') (by omega)]
      have h3 : (setP M (alN x9) k v).2.2 (alN x9) k' = M.2.2 (alN x9) k' := by
        show (if alN x9 = alN x9 ∧ k' = k then v else M.2.2 (alN x9) k') = _
        rw [if_neg (by omega)]
      rw [h3]
      rfl
  have hcs : ∀ (H1 : Heap), va_P G.D vwCl ((cellsN c9 G.cA G.ad M F).set x9 (G.ad (alN x9), .inr (ci, (fldsN G.ad M F (alN x9) 0 fs).set k (Value.ref (G.ad v))))) H1 → va_P G.D vwCl (cellsN c9 G.cA G.ad (setP M (alN x9) k v) (pf1 F (alN x9) k)) H1 := by
    intro H1 h
    rw [hset, cellsN_set hx8 (celN_obj hs) hch] at h
    exact h
  have hn2 : narrow (ty k) (Value.ref (G.ad v)) = Value.ref (G.ad v) := by (revert hn; cases ty k <;> simp [narrow])
  have hf2 : fits (ty k) (Value.ref (G.ad v)) = true := by (revert hfit; cases ty k <;> simp [fits])
  exact va_put (ci := ci) (C := C1) (T := T) (N := N) hx hb hts (fun w h => hin w h) ty hty hnm hown hK.1 hP.2.1 (cellsN_D hnB hc9) hS.1 x9 ((cellsN_at hx8).trans (by rw [celN_obj hs])) hc k hkN (hts _ (hnest _ _ _ hc)) (fun _ h => h) hfin (hty k hkN) hn2 hf2 hlen hd (fun H1 locs1 hP1 _ hS1 => W_le (fun hup => k1 p e s m args below meth c R Z k0 n0 H1 locs1 lsA C ⟨HN.fix (hcs H1 hP1) (by omega) hc9 hnB hup hS.2, hcs H1 hP1, hP.2.2.set hx8 hch⟩ ⟨hS1, hS.2⟩ hl))
theorem n_putI {idx i ci k x9 : Nat} {fs : List (Nat × Nat)} {t : FieldType} {v : Int32} (hd : decode mi.2.1 pc = .ok (.putfield idx, 3)) (hf : FL mi.1.cls idx ci k t false) (hs : shp i = (0, ci, fs)) (hk : fs[k]? = some (0, 0)) (hx9 : alN x9 = i) (hx8 : x9 < c9) (hc9 : c9 ≤ NN) (hnest : ∀ C T N, vwCl[ci]? = some (C, T, N) → Jvm.Cond.fieldLink mi.1.cls idx (T k).1 (T k).2.1 (T k).2.2.1 ∈ lw_g) (hn : narrow t (Value.int v) = Value.int v) (hfit : fits t (Value.int v) = true) (k1 : EvN b0 bk bs G d mi (pc + 3) ls st c9 (setI M i k v) F X) : EvN b0 bk bs G d mi pc ls (.int v :: .ref i :: st) c9 M F X := by
  intro p e s m args below meth c R Z k0 n0 H locs lsA C hP hS hl
  obtain ⟨⟨hx, hb, hml, hown, hts, hK, hRO, hnB, hAO, hme⟩, hR, hret⟩ := id C
  obtain ⟨C1, T, N, ty, ⟨hc, hin, hty, hnm⟩, hkN, rfl, hfin, -⟩ := hf
  subst hx9
  have hlen : k < (fldsN G.ad M F (alN x9) 0 fs).length := by rw [fldsN_len]; exact (List.getElem?_eq_some_iff.mp hk).1
  have hch : ∀ j', j' ≠ alN x9 → (setI M (alN x9) k v).1 j' = M.1 j' ∧ (setI M (alN x9) k v).2.1 j' = M.2.1 j' ∧ (setI M (alN x9) k v).2.2 j' = M.2.2 j' ∧ F j' = F j' := fun j' hj' => ⟨(setI_ne j' hj').1, (setI_ne j' hj').2.1, (setI_ne j' hj').2.2, rfl⟩
  have hset : (fldsN G.ad M F (alN x9) 0 fs).set k (Value.int v) = fldsN G.ad (setI M (alN x9) k v) F (alN x9) 0 fs := by
    refine fldsN_set fs 0 k _ hk ?_ (fun k' q' h' => ?_)
    · rw [Nat.zero_add]; simp [fvN, setI]
    · unfold fvN
      have h3 : (setI M (alN x9) k v).1 (alN x9) k' = M.1 (alN x9) k' := by
        show (if alN x9 = alN x9 ∧ k' = k then v else M.1 (alN x9) k') = _
        rw [if_neg (by omega)]
      rw [h3]
      rfl
  have hcs : ∀ (H1 : Heap), va_P G.D vwCl ((cellsN c9 G.cA G.ad M F).set x9 (G.ad (alN x9), .inr (ci, (fldsN G.ad M F (alN x9) 0 fs).set k (Value.int v)))) H1 → va_P G.D vwCl (cellsN c9 G.cA G.ad (setI M (alN x9) k v) F) H1 := by
    intro H1 h
    rw [hset, cellsN_set hx8 (celN_obj hs) hch] at h
    exact h
  exact va_put (ci := ci) (C := C1) (T := T) (N := N) hx hb hts (fun w h => hin w h) ty hty hnm hown hK.1 hP.2.1 (cellsN_D hnB hc9) hS.1 x9 ((cellsN_at hx8).trans (by rw [celN_obj hs])) hc k hkN (hts _ (hnest _ _ _ hc)) (fun _ h => h) hfin (hty k hkN) hn hfit hlen hd (fun H1 locs1 hP1 _ hS1 => W_le (fun hup => k1 p e s m args below meth c R Z k0 n0 H1 locs1 lsA C ⟨HN.fix (hcs H1 hP1) (by omega) hc9 hnB hup hS.2, hcs H1 hP1, hP.2.2.set hx8 hch⟩ ⟨hS1, hS.2⟩ hl))
theorem n_getR {idx i ci k x9 j : Nat} {fs : List (Nat × Nat)} {t : FieldType} {fin : Bool} (hd : decode mi.2.1 pc = .ok (.getfield idx, 3)) (hf : FL mi.1.cls idx ci k t fin) (hs : shp i = (0, ci, fs)) (hk : fs[k]? = some (2, j)) (hx9 : alN x9 = i) (hx8 : x9 < c9) (hnest : ∀ C T N, vwCl[ci]? = some (C, T, N) → Jvm.Cond.fieldLink mi.1.cls idx (T k).1 (T k).2.1 (T k).2.2.1 ∈ lw_g) (hF : F i k = true) (k1 : EvN b0 bk bs G d mi (pc + 3) ls (.ref j :: st) c9 M F X) : EvN b0 bk bs G d mi pc ls (.ref i :: st) c9 M F X := by
  intro p e s m args below meth c R Z k0 n0 H locs lsA C hP hS hl
  obtain ⟨⟨hx, hb, hml, hown, hts, hK, hRO, hnB, hAO, hme⟩, hR, hret⟩ := id C
  obtain ⟨C1, T, N, ty, ⟨hc, hin, hty, hnm⟩, hkN, rfl, -, -⟩ := hf
  subst hx9
  exact va_get (ci := ci) (C := C1) (T := T) (N := N) hx hb hts (fun w h => hin w h) hown hK.1 hP.2.1 x9 ((cellsN_at hx8).trans (by rw [celN_obj hs])) hc k hkN (hts _ (hnest _ _ _ hc)) (fun _ h => h) ((fldsN_get fs 0 k _ hk).trans (by rw [Nat.zero_add]; show some (if F (alN x9) k = true then Value.ref (G.ad j) else .null) = _; rw [if_pos hF]; rfl)) hd (k1 p e s m args below meth c R Z k0 n0 H locs lsA C hP hS hl)
theorem n_alen {i kd n9 t9 x9 : Nat} {bs9 : List (Nat × Nat)} {v : Int32} (hd : decode mi.2.1 pc = .ok (.arraylength, 1)) (hs : shp i = (kd, n9, bs9)) (hkd : (kd = 4 ∧ t9 = 3) ∨ (kd = 5 ∧ t9 = 4)) (hx9 : alN x9 = i) (hx8 : x9 < c9) (hv : Int32.ofNat n9 = v) (k1 : EvN b0 bk bs G d mi (pc + 1) ls (.int v :: st) c9 M F X) : EvN b0 bk bs G d mi pc ls (.ref i :: st) c9 M F X := by
  intro p e s m args below meth c R Z k0 n0 H locs lsA C hP hS hl
  obtain ⟨⟨hx, hb, hml, hown, hts, hK, hRO, hnB, hAO, hme⟩, hR, hret⟩ := id C
  subst hx9
  rcases hkd with ⟨rfl, rfl⟩ | ⟨rfl, rfl⟩
  · exact va_alen hx hb hK.1 hP.2.1 x9 3 ((cellsN_at hx8).trans (by rw [celN_ma hs])) rfl hv hd (k1 p e s m args below meth c R Z k0 n0 H locs lsA C hP hS hl)
  · exact va_alen hx hb hK.1 hP.2.1 x9 4 ((cellsN_at hx8).trans (by rw [celN_sa hs])) rfl hv hd (k1 p e s m args below meth c R Z k0 n0 H locs lsA C hP hS hl)
theorem n_iald {i n9 x9 : Nat} {bs9 : List (Nat × Nat)} {j : Int32} (hd : decode mi.2.1 pc = .ok (.iaload, 1)) (hs : shp i = (1, n9, bs9)) (hx9 : alN x9 = i) (hx8 : x9 < c9) (hj : vp_in j n9) (k1 : EvN b0 bk bs G d mi (pc + 1) ls (.int (M.1 i j.toNatClampNeg) :: st) c9 M F X) : EvN b0 bk bs G d mi pc ls (.int j :: .ref i :: st) c9 M F X := by
  intro p e s m args below meth c R Z k0 n0 H locs lsA C hP hS hl
  obtain ⟨⟨hx, hb, hml, hown, hts, hK, hRO, hnB, hAO, hme⟩, hR, hret⟩ := id C
  subst hx9
  exact va_iald hx hb hK.1 hP.2.1 x9 0 ((cellsN_at hx8).trans (by rw [celN_ia hs])) rfl hj hd (k1 p e s m args below meth c R Z k0 n0 H locs lsA C hP hS hl)
theorem n_iast {i n9 x9 : Nat} {bs9 : List (Nat × Nat)} {j v : Int32} (hd : decode mi.2.1 pc = .ok (.iastore, 1)) (hs : shp i = (1, n9, bs9)) (hx9 : alN x9 = i) (hx8 : x9 < c9) (hc9 : c9 ≤ NN) (hj : vp_in j n9) (k1 : EvN b0 bk bs G d mi (pc + 1) ls st c9 (setI M i j.toNatClampNeg v) F X) : EvN b0 bk bs G d mi pc ls (.int v :: .int j :: .ref i :: st) c9 M F X := by
  intro p e s m args below meth c R Z k0 n0 H locs lsA C hP hS hl
  obtain ⟨⟨hx, hb, hml, hown, hts, hK, hRO, hnB, hAO, hme⟩, hR, hret⟩ := id C
  subst hx9
  have hch : ∀ j', j' ≠ alN x9 → (setI M (alN x9) j.toNatClampNeg v).1 j' = M.1 j' ∧ (setI M (alN x9) j.toNatClampNeg v).2.1 j' = M.2.1 j' ∧ (setI M (alN x9) j.toNatClampNeg v).2.2 j' = M.2.2 j' ∧ F j' = F j' := fun j' hj' => ⟨(setI_ne j' hj').1, (setI_ne j' hj').2.1, (setI_ne j' hj').2.2, rfl⟩
  have hcs : ∀ (H1 : Heap), va_P G.D vwCl ((cellsN c9 G.cA G.ad M F).set x9 (G.ad (alN x9), .inl (G.cA 0, n9, .inl (upd (M.1 (alN x9)) j.toNatClampNeg v)))) H1 → va_P G.D vwCl (cellsN c9 G.cA G.ad (setI M (alN x9) j.toNatClampNeg v) F) H1 := by
    intro H1 h
    rw [cellsN_set hx8 ?_ hch] at h
    · exact h
    · rw [celN_ia hs]
      congr 4
      funext q
      show (if alN x9 = alN x9 ∧ q = j.toNatClampNeg then v else M.1 (alN x9) q) = upd (M.1 (alN x9)) j.toNatClampNeg v q
      by_cases hq : q = j.toNatClampNeg <;> simp [upd, hq]
  exact va_iast hx hb hK.1 hP.2.1 (cellsN_D hnB hc9) hS.1 x9 0 ((cellsN_at hx8).trans (by rw [celN_ia hs])) rfl hj hd (fun H1 locs1 hP1 _ hS1 => W_le (fun hup => k1 p e s m args below meth c R Z k0 n0 H1 locs1 lsA C ⟨HN.fix (hcs H1 hP1) (by omega) hc9 hnB hup hS.2, hcs H1 hP1, hP.2.2.set hx8 hch⟩ ⟨hS1, hS.2⟩ hl))
theorem n_aast {i kd n9 t9 x9 y9 v ci N : Nat} {C9 : String} {T9 : u_T} {fs bs9 : List (Nat × Nat)} {j : Int32} (hd : decode mi.2.1 pc = .ok (.aastore, 1)) (hs : shp i = (kd, n9, bs9)) (hkd : (kd = 4 ∧ t9 = 3) ∨ (kd = 5 ∧ t9 = 4)) (ht : ∀ G : Gt, (tysG G)[t9]? = some (G.cA t9, .object C9)) (hx9 : alN x9 = i) (hx8 : x9 < c9) (hy9 : alN y9 = v) (hy8 : y9 < c9) (hvs : shp v = (0, ci, fs)) (hci : vwCl[ci]? = some (C9, T9, N)) (hc9 : c9 ≤ NN) (hj : vp_in j n9) (hv : ∀ ad, rfa ad bs9 j.toNatClampNeg = some (ad v)) (k1 : EvN b0 bk bs G d mi (pc + 1) ls st c9 M (pf1 F i j.toNatClampNeg) X) : EvN b0 bk bs G d mi pc ls (.ref v :: .int j :: .ref i :: st) c9 M F X := by
  intro p e s m args below meth c R Z k0 n0 H locs lsA C hP hS hl
  obtain ⟨⟨hx, hb, hml, hown, hts, hK, hRO, hnB, hAO, hme⟩, hR, hret⟩ := id C
  subst hx9
  subst hy9
  have hch : ∀ j', j' ≠ alN x9 → M.1 j' = M.1 j' ∧ M.2.1 j' = M.2.1 j' ∧ M.2.2 j' = M.2.2 j' ∧ pf1 F (alN x9) j.toNatClampNeg j' = F j' := fun j' hj' => ⟨rfl, rfl, rfl, by funext q; exact pf1_ne (fun h => hj' h.1)⟩
  have hup9 : va_up (rfaN G.ad F (alN x9) bs9) j.toNatClampNeg (some (G.ad (alN y9))) = rfaN G.ad (pf1 F (alN x9) j.toNatClampNeg) (alN x9) bs9 := by
    funext q
    unfold rfaN
    by_cases hq : q = j.toNatClampNeg
    · subst hq
      rw [va_up_self, pf1_at, if_pos rfl, hv]
    · rw [va_up_ne _ _ hq, pf1_ne (fun h => hq h.2)]
  have hcel : celN G.cA G.ad M F (alN x9) = .inl (G.cA t9, n9, .inr (.inr (.inr (.inr (rfaN G.ad F (alN x9) bs9))))) := by
    rcases hkd with ⟨rfl, rfl⟩ | ⟨rfl, rfl⟩
    · exact celN_ma hs
    · exact celN_sa hs
  have hcel2 : celN G.cA G.ad M (pf1 F (alN x9) j.toNatClampNeg) (alN x9) = .inl (G.cA t9, n9, .inr (.inr (.inr (.inr (rfaN G.ad (pf1 F (alN x9) j.toNatClampNeg) (alN x9) bs9))))) := by
    rcases hkd with ⟨rfl, rfl⟩ | ⟨rfl, rfl⟩
    · exact celN_ma hs
    · exact celN_sa hs
  have hcs : ∀ (H1 : Heap), va_P G.D vwCl ((cellsN c9 G.cA G.ad M F).set x9 (G.ad (alN x9), .inl (G.cA t9, n9, .inr (.inr (.inr (.inr (va_up (rfaN G.ad F (alN x9) bs9) j.toNatClampNeg (some (G.ad (alN y9)))))))))) H1 → va_P G.D vwCl (cellsN c9 G.cA G.ad M (pf1 F (alN x9) j.toNatClampNeg)) H1 := by
    intro H1 h
    rw [hup9, cellsN_set hx8 hcel2 hch] at h
    exact h
  exact va_astq (r := (C9, T9, N)) hx hb hK.1 hP.2.1 (cellsN_D hnB hc9) hS.1 x9 t9 y9 ci ((cellsN_at hx8).trans (by rw [hcel])) (ht G) ((cellsN_at hy8).trans (by rw [celN_obj hvs])) hci hj hd (fun H1 locs1 hP1 _ hS1 => W_le (fun hup => k1 p e s m args below meth c R Z k0 n0 H1 locs1 lsA C ⟨HN.fix (hcs H1 hP1) (by omega) hc9 hnB hup hS.2, hcs H1 hP1, hP.2.2.set hx8 hch⟩ ⟨hS1, hS.2⟩ hl))
theorem n_getW {idx i : Nat} (hd : decode mi.2.1 pc = .ok (.getstatic idx, 3)) (hi : i < 25) (hw : Jvm.Cond.fieldLink mi.1.cls idx "MurmurSheds$Word" (wNames.getD i "") "LMurmurSheds$Word;" ∈ lw_g) (k : EvN b0 bk bs G d mi (pc + 3) ls (.ref (2000 + i) :: st) c9 M F X) : EvN b0 bk bs G d mi pc ls st c9 M F X := by
  intro p e s m args below meth c R Z k0 n0 H locs lsA C hP hS hl
  obtain ⟨⟨hx, hb, hml, hown, hts, hK, hRO, hnB, hAO, hme⟩, hR, hret⟩ := id C
  exact va_gets hx hb ((hRO.2.1.1 i hi).1) hS.1 hown (hts _ hw) (fun _ h => h) hd (k p e s m args below meth c R Z k0 n0 H locs lsA C hP hS hl)
/-- Object's constructor -/
theorem n_obj {idx i : Nat} (hd : decode mi.2.1 pc = .ok (.invokespecial idx, 3)) (hw : Jvm.Cond.methodLink mi.1.cls idx Lib.objectInit ∈ lw_g) (hst : st.map (fun v => v.category) = []) (hd1 : 1 ≤ d) (k : EvN b0 bk bs G d mi (pc + 3) ls st c9 M F X) : EvN b0 bk bs G d mi pc ls (.ref i :: st) c9 M F X := by
  intro p e s m args below meth c R Z k0 n0 H locs lsA C hP hS hl
  obtain ⟨⟨hx, hb, hml, hown, hts, hK, hRO, hnB, hAO, hme⟩, ⟨r1, r2, r3, r4⟩, hret⟩ := id C
  have hst2 : st = [] := by simpa using hst
  subst hst2
  exact W.objInit hx hb hown (hts _ hw) (hts _ oi_inst) (hts _ oi_code) rfl (by rw [hml]; exact hl.2.1) rfl hd (by omega) (by show 2 * 0 + 0 + 12 ≤ _; omega) (k p e s m args below meth c R Z k0 n0 H locs lsA C hP hS hl)
end
/-- a constructor's contract: from c9 cells to c2 -/
def PWN (b0 : Nat) (G : Gt) (c9 : Nat) (M : Mm) (F : Pf) (U : State) : Prop := HN b0 G c9 M F U.heap ∧ KU G U ∧ RO G U U.heap ∧ nB G b0 ∧ AOs U
def QN (b0 : Nat) (G : Gt) (c2 : Nat) (M2 : Mm) (F2 : Pf) : Array Value → State → Outcome → State → Prop := fun _ st o t => o = .returned none ∧ HN b0 G c2 M2 F2 t.heap ∧ va_F (A0 G.ad) st t
def CallN (b0 mc ms : Nat) (G : Gt) (d : Nat) (mi : Mi) (i c9 : Nat) (M : Mm) (F : Pf) (c2 : Nat) (M2 : Mm) (F2 : Pf) : Prop :=
  Met G.1 mi.1 (wsm mi) ({ frames := d, cells := mc, slots := ms, locals := 80 * d } : Room) (va_Pc [.ref (G.ad i)] (PWN b0 G c9 M F)) (QN b0 G c2 M2 F2) mc ms (A0 G.ad)
theorem AOs.moved {u U : State} (hvm : u.vm.Alike U.vm) (h : AOs u) : AOs U := ⟨va_AO.moved hvm h.1, va_AO.moved hvm h.2⟩
theorem PWN_blind {b0 : Nat} {G : Gt} {c9 : Nat} {M : Mm} {F : Pf} {av : List Value} : FrameBlind (va_Pc av (PWN b0 G c9 M F)) := by
  intro a U g mk h
  obtain ⟨h0, h1, h2, h3, h4, h5⟩ := h
  exact ⟨h0, h1, ⟨va_K.moved (u := U) (U := U.calling g mk a) (Vm.Alike.refl U.vm) h2.1, nest_same (u := U) (U := U.calling g mk a) rfl h2.2⟩, RO.moved (u := U) (U := U.calling g mk a) (Vm.Alike.refl U.vm) h3, h4, AOs.moved (u := U) (U := U.calling g mk a) (Vm.Alike.refl U.vm) h5⟩
/-- where a constructor ends -/
def retN (mi : Mi) (c2 : Nat) (M2 : Mm) (F2 : Pf) : Nat → List Value → Nat → Mm → Pf → Prop := fun pc _ c M F => decode mi.2.1 pc = .ok (.return_, 1) ∧ c = c2 ∧ M = M2 ∧ F = F2
theorem CallN.intro {b0 mc ms : Nat} {G : Gt} {d : Nat} {mi : Mi} {i c9 : Nat} {M : Mm} {F : Pf} {c2 : Nat} {M2 : Mm} {F2 : Pf} (hy : plainName mi.1.cls = true) (hlen : 1 ≤ mi.2.2.1) (hr : mi.2.2.2 = none) (k : EvN b0 mc ms G d mi 0 (entL [.ref i] mi.2.2.1) [] c9 M F (retN mi c2 M2 F2)) : CallN b0 mc ms G d mi i c9 M F c2 M2 F2 := by
  refine Met.ofW (cc := mi.2.1) (maxL := mi.2.2.1) (ret := mi.2.2.2) hy rfl ?_
  intro p e s m args below meth c s₁ B hml hv
  obtain ⟨rfl, hP, hK, hRO, hnB, hAO⟩ := hv
  rw [lg_entry_eq]
  have hx := B.exec
  have hb := B.bytes
  have hlk := B.notSynchronized
  refine k p e s m _ below meth c _ _ 0 0 s.heap [] _ ⟨⟨hx, hb, hml, findClass_of_methodNamed B.named, fun w hw => atoms_spec (ws := wsm mi) B.pre w (List.mem_cons_of_mem _ hw), hK, hRO, hnB, hAO, (name_of_methodNamed B.named B.method).1⟩, ⟨Nat.le_refl _, Nat.le_refl _, by show 0 + mc ≤ mc; omega, by show 0 + ms ≤ ms; omega⟩, ?_⟩ hP ⟨va_S.rf, by rw [hP.1]; rfl⟩ (lr_ent G.ad [.ref i] hlen)
  intro pc H locs lsA ls c1 M1 F1 hX hP' hS' hl'
  obtain ⟨hdr, rfl, rfl, rfl⟩ := hX
  rw [Nat.zero_add, Nat.zero_add]
  exact W.vret hx hb (by rw [B.returns]; exact hr) (fun t ht _ => ⟨rfl, by rw [ht]; exact hP', hS'.F ht⟩) hS'.2.2 hdr hlk
theorem callUN {b0 : Nat} {G : Gt} {p : Program} {l : Launch} {e : Env} {R : Room} {s : State} {m : MethodId} {args : Array Value} {below : List Frame} {meth : Method} {c : Code} {H : Heap} {locs : List Loc} {k0 n0 pc mc ms : Nat} {Z : State → Prop} {lsA : Array Slot} {st0 rest : List Value} {a : Array Value} {c2 : Nat} {M2 : Mm} {F2 : Pf}
    (hr : va_Run p l e R s m args below meth c H locs k0 n0 mc ms (F0 m pc lsA st0) rest (QN b0 G c2 M2 F2 a) (A0 G.ad)) (hS : va_S (A0 G.ad) s.heap H locs)
    (kk : ∀ (H1 : Heap) (locs1 : List Loc), HN b0 G c2 M2 F2 H1 → va_S (A0 G.ad) s.heap H1 locs1 → W p l e R s m args below meth c H1 locs1 (k0 + mc) (n0 + ms) Z (F0 m (pc + 3) lsA rest)) : W p l e R s m args below meth c H locs k0 n0 Z (F0 m pc lsA st0) := by
  intro T hT X
  obtain ⟨v, st₀, t, T', L, h0, X', hL, e1, e2, ⟨hv, hp, hz, hk⟩, st⟩ := hr T hT X
  cases hv
  rw [h0] at hz hk
  obtain ⟨t2, a1, b1⟩ := kk T'.heap (locs ++ L) (by rw [e1]; exact hp)
    ⟨Nat.le_trans hS.1 (by rw [e1]; exact hz), fun q h1 h2 => by rw [e1, hk q (Nat.lt_of_lt_of_le h1 hS.1) h2]; exact hS.2.1 q h1 h2, fun q hq => by
      rcases List.mem_append.mp hq with h | h
      · exact hS.2.2 q h
      · exact hL q h⟩ T' rfl X'
  exact ⟨t2, st t2 a1, b1⟩
section
variable {b0 bk bs : Nat} {G : Gt} {d : Nat} {mi : Mi} {pc : Nat} {ls st : List Value} {c9 : Nat} {M : Mm} {F : Pf} {X : Nat → List Value → Nat → Mm → Pf → Prop}
theorem PWN_start {s : State} (hK : KU G s) (hRO : RO G s s.heap) (hnB : nB G b0) (hAO : AOs s) {H : Heap} {locs : List Loc} (hP : HN b0 G c9 M F H) (hS : va_S (A0 G.ad) s.heap H locs) : ∀ U : State, U.heap = H → s.WarmedH U.vm → PWN b0 G c9 M F U := by
  intro U hU hW
  refine ⟨by rw [hU]; exact hP, ⟨va_K.moved hW.alike hK.1, nest_warm hW hK.2⟩, ?_, hnB, hAO.moved hW.alike⟩
  rw [hU]
  exact (hRO.at hS).moved hW.alike
/-- a constructor is called -/
theorem n_init {idx i mc ms d' c2 : Nat} {mi' : Mi} {M2 : Mm} {F2 : Pf} (hd : decode mi.2.1 pc = .ok (.invokespecial idx, 3)) (hco : Jvm.Cond.code mi'.1 mi'.2.1 mi'.2.2.1 none ∈ lw_g) (hre : mi'.2.2.2 = none) (hin : Jvm.Cond.initialized mi'.1.cls ∈ lw_g) (hh : hdOK mi'.1 0) (hmx : mi'.2.2.1 ≤ 61) (hnm : mi'.1.name = "<init>") (him : Jvm.Cond.instanceMethod mi'.1 ∈ lw_g) (hl0 : ML mi.1.cls idx mi'.1) (hW : (st.map fun v => v.category).sum ≤ 8) (hdd : d' + 1 ≤ d) (hc2 : c9 + mc = c2) (hc : CallN b0 mc ms G d' mi' i c9 M F c2 M2 F2) (k : EvN b0 bk bs G d mi (pc + 3) ls st c2 M2 F2 X) : EvN b0 (bk + mc) (bs + ms) G d mi pc ls (.ref i :: st) c9 M F X := by
  intro p e s m args below meth c R Z k0 n0 H locs lsA C hP hS hl
  obtain ⟨⟨hx, hb, hml, hown, hts, hK, hRO, hnB, hAO, hme⟩, hR, hret⟩ := id C
  obtain ⟨y, by9, ml9, re9⟩ := mi'
  dsimp only at hre
  subst hre
  have hpre : PreS s H (va_Pc [.ref (G.ad i)] (PWN b0 G c9 M F)) (.ref (G.ad i) :: []) := ⟨PWN_blind, fun U hU hW => ⟨rfl, PWN_start hK hRO hnB hAO hP hS.1 U hU hW⟩⟩
  have hRm : d' + 1 ≤ R.frames ∧ 8 + (ml9 + 11) + 80 * d' ≤ R.locals := by
    obtain ⟨r1, r2, -⟩ := hR
    dsimp only at hmx
    constructor <;> omega
  have hkk : ∀ (H1 : Heap) (locs1 : List Loc), HN b0 G c2 M2 F2 H1 → va_S (A0 G.ad) s.heap H1 locs1 → W p G.1 e R s m args below meth c H1 locs1 (k0 + mc) (n0 + ms) Z (F0 m (pc + 3) lsA (st.map (tv G.ad))) := by
    intro H1 locs1 h2 h3
    exact k p e s m args below meth c R Z (k0 + mc) (n0 + ms) H1 locs1 lsA C.less h2 ⟨h3, by have := hS.2; omega⟩ hl
  rcases hl0 with hl1 | ⟨host, hl1⟩
  · exact callUN (va_runI (As := []) (cc := mi.2.1) (nL := mi.2.2.1) (own := mi.1.cls) (bytes := by9) (maxL := ml9) (n := 0) (Ts := lw_g) ⟨hx, hb, hml, hown, hts⟩ hc (cwI 0 hts (goodIn_lg (y, by9, ml9, none) hco) rfl rfl rfl (hts _ hin) (hts _ hl1) (hts _ him) hnm hh hRm) hpre rfl rfl hl.2.1 rfl (by show 2 * 0 + _ ≤ _; rw [cat_map]; omega) hd ⟨by omega, by omega⟩) hS.1 hkk
  · exact callUN (va_runIN (As := []) (cc := mi.2.1) (nL := mi.2.2.1) (own := mi.1.cls) (host := host) (bytes := by9) (maxL := ml9) (n := 0) (Ts := lw_g) ⟨hx, hb, hml, hown, hts⟩ hc ⟨va_cnB 0 hts (goodIn_lg (y, by9, ml9, none) hco) rfl rfl rfl (hK.2 _ hl1) (hts _ hin) hh hRm, hnm, hts _ him⟩ hpre rfl rfl hl.2.1 rfl (by show 2 * 0 + _ ≤ _; rw [cat_map]; omega) hd ⟨by omega, by omega⟩) hS.1 hkk
/-- a method of the object, in its constructor -/
theorem n_callV0 {idx i ci d' x9 : Nat} {fs : List (Nat × Nat)} {mi' : Mi} {M2 : Mm} {F2 : Pf} (hd : decode mi.2.1 pc = .ok (.invokevirtual idx, 3)) (hm : MOV mi' 0) (hl1 : Jvm.Cond.methodLink mi.1.cls idx mi'.1 ∈ lw_g) (hs : shp i = (0, ci, fs)) (hci : (vwCl[ci]?).map (fun q => q.1) = some mi'.1.cls) (hx9 : alN x9 = i) (hx8 : x9 < c9) (hW : (st.map fun v => v.category).sum ≤ 8) (hdd : d' + 1 ≤ d) (hc : CallN b0 0 0 G d' mi' i c9 M F c9 M2 F2) (k : EvN b0 bk bs G d mi (pc + 3) ls st c9 M2 F2 X) : EvN b0 bk bs G d mi pc ls (.ref i :: st) c9 M F X := by
  intro p e s m args below meth c R Z k0 n0 H locs lsA C hP hS hl
  obtain ⟨⟨hx, hb, hml, hown, hts, hK, hRO, hnB, hAO, hme⟩, hR, hret⟩ := id C
  obtain ⟨⟨hco, hin, hh, hmx⟩, him, hse⟩ := hm
  subst hx9
  have hat : (cellsN c9 G.cA G.ad M F)[x9]? = some (G.ad (alN x9), .inr (ci, fldsN G.ad M F (alN x9) 0 fs)) := (cellsN_at hx8).trans (by rw [celN_obj hs])
  obtain ⟨q, hq, hq2⟩ : ∃ q, vwCl[ci]? = some q ∧ q.1 = mi'.1.cls := by
    cases h : vwCl[ci]? with
    | none => rw [h] at hci; cases hci
    | some q => rw [h] at hci; exact ⟨q, rfl, by simpa using hci⟩
  have hrc := va_recv hK.1 hP.2.1 hq hat
  rw [hq2] at hrc
  have hpre : PreV s H mi'.1.cls (G.ad (alN x9)) (va_Pc [.ref (G.ad (alN x9))] (PWN b0 G c9 M F)) [] := ⟨PWN_blind, hrc, fun U hU hW => ⟨rfl, PWN_start hK hRO hnB hAO hP hS.1 U hU hW⟩⟩
  have hRm : d' + 1 ≤ R.frames ∧ 8 + (mi'.2.2.1 + 11) + 80 * d' ≤ R.locals := by
    obtain ⟨r1, r2, -⟩ := hR
    constructor <;> omega
  exact callUN (va_runV (As := []) (cc := mi.2.1) (nL := mi.2.2.1) (own := mi.1.cls) (C := mi'.1.cls) (bytes := mi'.2.1) (maxL := mi'.2.2.1) (ret := mi'.2.2.2) (n := 0) (Ts := lw_g) ⟨hx, hb, hml, hown, hts⟩ hc ⟨callB_of 0 hts (goodIn_lg mi' hco) rfl rfl rfl (hts _ hin) (hts _ hl1) hh hRm, hts _ him, hts _ hse⟩ hpre rfl rfl hl.2.1 rfl (by show 2 * 0 + _ ≤ _; rw [cat_map]; omega) hd ⟨by omega, by omega⟩) hS.1 (fun H1 locs1 h2 h3 => k p e s m args below meth c R Z k0 n0 H1 locs1 lsA C h2 ⟨h3, hS.2⟩ hl)
end
end NBS
