section RRW
/-- 26 numbers copied -/
def cpR (M : Mm) (a p t b n : Nat) : Mm := (fun i k => if i = t ∧ b ≤ k ∧ k < b + n then M.1 a (p + (k - b)) else M.1 i k, M.2)
theorem cpR_0 (M : Mm) (a p t b : Nat) : cpR M a p t b 0 = M := by
  unfold cpR
  refine Prod.ext (funext fun i => funext fun k => ?_) rfl
  dsimp only
  rw [if_neg (by omega)]
theorem cpR_s {M : Mm} {a p t b i : Nat} (h : ¬ a = t) : setI (cpR M a p t b i) t (b + i) ((cpR M a p t b i).1 a (p + i)) = cpR M a p t b (i + 1) := by
  have hv : (cpR M a p t b i).1 a (p + i) = M.1 a (p + i) := by
    show (if a = t ∧ _ then _ else _) = _
    rw [if_neg (fun q => h q.1)]
  rw [hv]
  refine Prod.ext (funext fun j => funext fun k => ?_) rfl
  rw [setI_1]
  show (if j = t ∧ k = b + i then _ else (if j = t ∧ b ≤ k ∧ k < b + i then _ else _)) = if j = t ∧ b ≤ k ∧ k < b + (i + 1) then _ else _
  by_cases e : j = t ∧ k = b + i
  · rw [if_pos e, if_pos ⟨e.1, by omega, by omega⟩, show k - b = i by omega]
  · rw [if_neg e]
    by_cases e2 : j = t ∧ b ≤ k ∧ k < b + i
    · rw [if_pos e2, if_pos ⟨e2.1, e2.2.1, by omega⟩]
    · rw [if_neg e2, if_neg (fun q => by by_cases e3 : k = b + i; exact e ⟨q.1, e3⟩; exact e2 ⟨q.1, q.2.1, by omega⟩)]
theorem cpR_ne {M : Mm} {a p t b n i : Nat} (h : ¬ i = t) : (cpR M a p t b n).1 i = M.1 i := by
  funext k; show (if _ then _ else _) = _; rw [if_neg (fun q => h q.1)]
theorem cpR_eq {M : Mm} {a p t b n k : Nat} (h : k < n) : (cpR M a p t b n).1 t (b + k) = M.1 a (p + k) := by
  show (if _ then _ else _) = _; rw [if_pos ⟨rfl, by omega, by omega⟩, show p + (b + k - b) = p + k by omega]
theorem cpR_out {M : Mm} {a p t b n i k : Nat} (h : ¬ (b ≤ k ∧ k < b + n)) : (cpR M a p t b n).1 i k = M.1 i k := by
  show (if _ then _ else _) = _; rw [if_neg (fun q => h q.2)]
theorem cpR_2 (M : Mm) (a p t b n : Nat) : (cpR M a p t b n).2 = M.2 := rfl
theorem RW.cp {M : Mm} {a p t b n : Nat} {S : Sv} (h : RW M a p n S) (h6 : n ≤ 6) : RW (cpR M a p t b 26) t b n S := h.congr h6 (fun k hk => cpR_eq hk)
set_option maxHeartbeats 4000000 in
set_option maxRecDepth 20000 in
theorem l_copies {G : Gt} {M : Mm} {a p t b na nt : Nat} (ha : shp a = (1, na, [])) (ht : shp t = (1, nt, [])) (hna : p + 26 ≤ na) (hnt : b + 26 ≤ nt) (hna2 : na < 2 ^ 31) (hnt2 : nt < 2 ^ 31) (hne : ¬ a = t) : ∀ (k : Nat) (i : Nat) , (i ≤ 26) → (26 < i + k) → Ev G 1 mX11_copies 3 [.ref a, .int (nI p), .ref t, .int (nI b), .int (nI i)] [] (cpR M a p t b i) (eqQ none (cpR M a p t b 26)) := by
  intro k
  induction k with
  | zero => intro i hi hk; exact absurd hk (by omega)
  | succ k ih =>
    intro i hi hk
    refine e_iload dX11_copies_3 rfl ?_
    refine e_bipush (v := 26) dX11_copies_5 (by decide) ?_
    refine e_icmp_ge (tgt := 28) dX11_copies_7 (by decide) (fun c7 => ?_) (fun c7 => ?_)
    · -- 7 jumps
      have hin : i = 26 := by have := ge_of (n := 26) (by omega) (by omega) c7; omega
      subst hin
      refine e_vret dX11_copies_28 rfl ?_
      exact ⟨rfl, rfl⟩
    · -- 7 goes on
      have hlt : i < 26 := lt_of (n := 26) (by omega) (by omega) c7
      refine e_aload_n dX11_copies_10 rfl ?_
      refine e_iload_n dX11_copies_11 rfl ?_
      refine e_iload dX11_copies_12 rfl ?_
      refine e_iaddN (a := b) (b := i) dX11_copies_14 ?_
      refine e_aload_n dX11_copies_15 rfl ?_
      refine e_iload_n dX11_copies_16 rfl ?_
      refine e_iload dX11_copies_17 rfl ?_
      refine e_iaddN (a := p) (b := i) dX11_copies_19 ?_
      refine e_ialdN (j := (p + i)) dX11_copies_20 ha (by assumption) (by omega) ?_
      refine e_iastN (j := (b + i)) dX11_copies_21 ht (by assumption) (by omega) ?_
      refine e_iinc (ls' := [_, _, _, _, _]) dX11_copies_22 rfl (nI_i1 _) (by decide) rfl ?_
      refine e_goto (tgt := 3) dX11_copies_25 (by decide) ?_
      rw [cpR_s hne]
      exact ih (i + 1) (by omega) (by omega)
set_option maxHeartbeats 4000000 in
set_option maxRecDepth 20000 in
theorem r_copies {G : Gt} {M : Mm} {a p t b na nt : Nat} (ha : shp a = (1, na, [])) (ht : shp t = (1, nt, [])) (hna : p + 26 ≤ na) (hnt : b + 26 ≤ nt) (hna2 : na < 2 ^ 31) (hnt2 : nt < 2 ^ 31) (hne : ¬ a = t) : Call G 1 mX11_copies [.ref a, .int (nI p), .ref t, .int (nI b)] M (eqQ none (cpR M a p t b 26)) := by
  refine Call.intro rfl (Nat.le_of_ble_eq_true rfl) ?_
  show Ev G _ mX11_copies 0 [.ref a, .int (nI p), .ref t, .int (nI b), RA] [] M _
  refine e_iconst (v := 0) dX11_copies_0 (by decide) ?_
  refine e_istore (ls' := [_, _, _, _, _]) dX11_copies_1 (by decide) rfl ?_
  have h := l_copies (G := G) (M := M) ha ht hna hnt hna2 hnt2 hne 27 0 (by omega) (by omega)
  rw [cpR_0] at h
  exact h
/-- the row at hand alone changed -/
def O3 (M M' : Mm) : Prop := M'.2 = M.2 ∧ ∀ q, ¬ q = 273 → M'.1 q = M.1 q
theorem O3.rfl' {M : Mm} : O3 M M := ⟨rfl, fun _ _ => rfl⟩
theorem O3.trans {A B C : Mm} (h : O3 A B) (k : O3 B C) : O3 A C := ⟨k.1.trans h.1, fun q e => (k.2 q e).trans (h.2 q e)⟩
theorem O3.i {M Mc : Mm} (h : O3 M Mc) (k : Nat) (v : Int32) : O3 M (setI Mc 273 k v) := ⟨h.1, fun q e => by rw [← h.2 q e]; funext z; rw [setI_1, if_neg (fun x => e x.1)]⟩
section
variable {M : Mm} {n j : Nat} {S : Sv} {v : Int32}
theorem RW.heat (h : RW M 273 0 n S) (hj : j < n) (h6 : n ≤ 6) : RW (setI M 273 (2 + j) v) 273 0 n (heatV S j v) := by
  refine RW.mk ?_ ?_ (fun q hq => ⟨?_, ?_, ?_, ?_⟩) (fun q hq h6' => ?_)
  · rw [setI_1, if_neg (by omega)]; exact h.ni
  · rw [setI_1, if_neg (by omega)]; exact h.li
  · rw [setI_1]; show _ = if q = j then _ else _
    by_cases e : q = j
    · rw [if_pos ⟨rfl, by omega⟩, if_pos e]
    · rw [if_neg (by omega), if_neg e]; exact h.ht hq
  · rw [setI_1, if_neg (by omega)]; exact h.cr hq
  · rw [setI_1, if_neg (by omega)]; exact h.hi hq
  · rw [setI_1, if_neg (by omega)]; exact h.he hq
  · rw [setI_1, if_neg (by omega)]; exact h.cz hq h6'
theorem RW.lit (h : RW M 273 0 n S) (h6 : n ≤ 6) : RW (setI M 273 1 v) 273 0 n (S.1, v, S.2.2) := by
  refine RW.mk ?_ ?_ (fun q hq => ⟨?_, ?_, ?_, ?_⟩) (fun q hq h6' => ?_)
  · rw [setI_1, if_neg (by omega)]; exact h.ni
  · rw [setI_1, if_pos ⟨rfl, rfl⟩]
  · rw [setI_1, if_neg (by omega)]; exact h.ht hq
  · rw [setI_1, if_neg (by omega)]; exact h.cr hq
  · rw [setI_1, if_neg (by omega)]; exact h.hi hq
  · rw [setI_1, if_neg (by omega)]; exact h.he hq
  · rw [setI_1, if_neg (by omega)]; exact h.cz hq h6'
theorem RW.lose0 (h : RW M 273 0 n S) (hj : j < n) (h6 : n ≤ 6) (h0 : ¬ S.crow j - v = 0) : RW (setI M 273 (8 + j) (S.crow j - v)) 273 0 n (loseV S j v) := by
  refine RW.mk ?_ ?_ (fun q hq => ⟨?_, ?_, ?_, ?_⟩) (fun q hq h6' => ?_)
  · rw [setI_1, if_neg (by omega)]; exact h.ni
  · rw [setI_1, if_neg (by omega)]; exact h.li
  · rw [setI_1, if_neg (by omega)]; exact h.ht hq
  · rw [setI_1]; show _ = if q = j then _ else _
    by_cases e : q = j
    · rw [if_pos ⟨rfl, by omega⟩, if_pos e]
    · rw [if_neg (by omega), if_neg e]; exact h.cr hq
  · rw [setI_1, if_neg (by omega)]; show _ = if _ then _ else _; rw [if_neg (fun x => h0 x.2)]; exact h.hi hq
  · rw [setI_1, if_neg (by omega)]; exact h.he hq
  · rw [setI_1, if_neg (by omega)]; exact h.cz hq h6'
theorem RW.lose1 (h : RW M 273 0 n S) (hj : j < n) (h6 : n ≤ 6) (h0 : S.crow j - v = 0) : RW (setI (setI M 273 (8 + j) (S.crow j - v)) 273 (14 + j) 0) 273 0 n (loseV S j v) := by
  refine RW.mk ?_ ?_ (fun q hq => ⟨?_, ?_, ?_, ?_⟩) (fun q hq h6' => ?_)
  · rw [setI_1, if_neg (by omega), setI_1, if_neg (by omega)]; exact h.ni
  · rw [setI_1, if_neg (by omega), setI_1, if_neg (by omega)]; exact h.li
  · rw [setI_1, if_neg (by omega), setI_1, if_neg (by omega)]; exact h.ht hq
  · rw [setI_1, if_neg (by omega), setI_1]; show _ = if q = j then _ else _
    by_cases e : q = j
    · rw [if_pos ⟨rfl, by omega⟩, if_pos e]
    · rw [if_neg (by omega), if_neg e]; exact h.cr hq
  · rw [setI_1]; show _ = if q = j ∧ S.crow j - v = 0 then _ else _
    by_cases e : q = j
    · rw [if_pos ⟨rfl, by omega⟩, if_pos ⟨e, h0⟩]
    · rw [if_neg (by omega), if_neg (fun x => e x.1), setI_1, if_neg (by omega)]; exact h.hi hq
  · rw [setI_1, if_neg (by omega), setI_1, if_neg (by omega)]; exact h.he hq
  · rw [setI_1, if_neg (by omega), setI_1, if_neg (by omega)]; exact h.cz hq h6'
end
set_option maxHeartbeats 4000000 in
set_option maxRecDepth 20000 in
theorem r_frostOf {G : Gt} {M : Mm} {Y : Yv} {t : Nat} (hY : RY M Y) (ht : t < 2 ^ 31) : Call G 1 mX11_frostOf [.ref 238, .int (nI t)] M (eqQ (some (.int (frV Y (nI t)))) M) := by
  have h12 := hY.2.2.1.2
  refine Call.intro rfl (Nat.le_of_ble_eq_true rfl) ?_
  show Ev G _ mX11_frostOf 0 [.ref 238, .int (nI t)] [] M _
  refine e_aload_n dX11_frostOf_0 rfl ?_
  refine e_getR dX11_frostOf_1 fl_X11_13 sh_m rfl ?_
  refine e_iconst (v := 2) dX11_frostOf_4 (by decide) ?_
  refine e_ialdN (j := 2) dX11_frostOf_5 (sa_m_yard) (by decide) (by omega) ?_
  rw [hY.2.2.1.1]
  refine e_if_ne (tgt := 13) dX11_frostOf_6 (by decide) (fun c6 => ?_) (fun c6 => ?_)
  · -- 6 jumps
    have hpos : 0 < Y.nf := Nat.pos_of_ne_zero (fun e => c6 (by rw [e]; rfl))
    refine e_aload_n dX11_frostOf_13 rfl ?_
    refine e_getR dX11_frostOf_14 fl_X11_41 sh_m rfl ?_
    refine e_iload_n dX11_frostOf_17 rfl ?_
    refine e_aload_n dX11_frostOf_18 rfl ?_
    refine e_getR dX11_frostOf_19 fl_X11_13 sh_m rfl ?_
    refine e_iconst (v := 2) dX11_frostOf_22 (by decide) ?_
    refine e_ialdN (j := 2) dX11_frostOf_23 (sa_m_yard) (by decide) (by omega) ?_
    rw [hY.2.2.1.1]
    refine e_irem dX11_frostOf_24 (nI_ne0 hpos (by omega)) ?_
    rw [pk_rem' ht hpos (by omega)]
    refine e_ialdN (j := (t % Y.nf)) dX11_frostOf_25 (sa_m_frost) (by decide) (by have := Nat.mod_lt t hpos; omega) ?_
    rw [hY.2.2.2.2.2.2 _ (Nat.mod_lt _ hpos)]
    refine e_iret dX11_frostOf_26 rfl ?_
    exact ⟨by unfold frV; rw [if_neg (by omega), nI_clamp ht], rfl⟩
  · -- 6 goes on
    have h0 : Y.nf = 0 := nI_injN (by omega) (by omega) c6
    refine e_iconst (v := 0) dX11_frostOf_9 (by decide) ?_
    refine e_goto (tgt := 26) dX11_frostOf_10 (by decide) ?_
    refine e_iret dX11_frostOf_26 rfl ?_
    exact ⟨by unfold frV; rw [if_pos h0], rfl⟩
set_option maxHeartbeats 4000000 in
set_option maxRecDepth 20000 in
theorem r_murmurOf {G : Gt} {M : Mm} {Y : Yv} {S : Sv} {j : Nat} (hY : RY M Y) (hS : RW M 273 0 Y.n S) (hj : j < Y.n) : Call G 2 mX11_murmurOf [.ref 238, .int (nI j)] M (eqQ (some (.int (murS S j))) M) := by
  have h6 := hY.1.2
  have hs5 := hY.2.1.2
  refine Call.intro rfl (Nat.le_of_ble_eq_true rfl) ?_
  show Ev G _ mX11_murmurOf 0 [.ref 238, .int (nI j)] [] M _
  refine e_sipush (v := 999) dX11_murmurOf_0 (by decide) ?_
  refine e_aload_n dX11_murmurOf_3 rfl ?_
  refine e_getR dX11_murmurOf_4 fl_X11_114 sh_m rfl ?_
  refine e_bipush (v := 14) dX11_murmurOf_7 (by decide) ?_
  refine e_iload_n dX11_murmurOf_9 rfl ?_
  refine e_iaddN (a := 14) (b := j) dX11_murmurOf_10 ?_
  refine e_ialdN (j := (14 + j)) dX11_murmurOf_11 (sa_m_s) (by decide) (by omega) ?_
  rw [hS.hi hj]
  refine e_aload_n dX11_murmurOf_12 rfl ?_
  refine e_getR dX11_murmurOf_13 fl_X11_114 sh_m rfl ?_
  refine e_bipush (v := 8) dX11_murmurOf_16 (by decide) ?_
  refine e_iload_n dX11_murmurOf_18 rfl ?_
  refine e_iaddN (a := 8) (b := j) dX11_murmurOf_19 ?_
  refine e_ialdN (j := (8 + j)) dX11_murmurOf_20 (sa_m_s) (by decide) (by omega) ?_
  rw [hS.cr hj]
  refine e_imul dX11_murmurOf_21 ?_
  refine e_bipush (v := 10) dX11_murmurOf_22 (by decide) ?_
  refine e_idiv dX11_murmurOf_24 (by decide) ?_
  refine e_min dX11_murmurOf_25 (mem_g 1531 (by decide +kernel) rfl) (mem_g 425 (by decide +kernel) rfl) (mem_g 15 (by decide +kernel) rfl) (mem_g 426 (by decide +kernel) rfl) (Nat.le_of_ble_eq_true rfl) (by omega) ?_
  refine e_iret dX11_murmurOf_28 rfl ?_
  exact ⟨rfl, rfl⟩
set_option maxHeartbeats 4000000 in
set_option maxRecDepth 20000 in
theorem l_rallM {G : Gt} {M : Mm} {Y : Yv} {S : Sv} (hY : RY M Y) (hS : RW M 273 0 Y.n S) : ∀ (k : Nat) (i : Nat) , (i ≤ Y.n) → (Y.n < i + k) → Ev G 3 mX11_allMurmurs 4 [.ref 238, .int (sumI (murS S) i), .int (nI i)] [] M (eqQ (some (.int (sumI (murS S) Y.n))) M) := by
  intro k
  induction k with
  | zero => intro i hi hk; exact absurd hk (by omega)
  | succ k ih =>
    intro i hi hk
    have h6 := hY.1.2
    have hs5 := hY.2.1.2
    refine e_iload_n dX11_allMurmurs_4 rfl ?_
    refine e_aload_n dX11_allMurmurs_5 rfl ?_
    refine e_getR dX11_allMurmurs_6 fl_X11_13 sh_m rfl ?_
    refine e_iconst (v := 0) dX11_allMurmurs_9 (by decide) ?_
    refine e_ialdN (j := 0) dX11_allMurmurs_10 (sa_m_yard) (by decide) (by omega) ?_
    rw [hY.1.1]
    refine e_icmp_ge (tgt := 28) dX11_allMurmurs_11 (by decide) (fun c11 => ?_) (fun c11 => ?_)
    · -- 11 jumps
      have hin : i = Y.n := by have := ge_of (n := Y.n) (by omega) (by omega) c11; omega
      subst hin
      refine e_iload_n dX11_allMurmurs_28 rfl ?_
      refine e_iret dX11_allMurmurs_29 rfl ?_
      exact ⟨rfl, rfl⟩
    · -- 11 goes on
      have hlt : i < Y.n := lt_of (n := Y.n) (by omega) (by omega) c11
      refine e_iload_n dX11_allMurmurs_14 rfl ?_
      refine e_aload_n dX11_allMurmurs_15 rfl ?_
      refine e_iload_n dX11_allMurmurs_16 rfl ?_
      refine cV1r dX11_allMurmurs_17 mo_X11_murmurOf ml_X11_394 sh_m rfl (Nat.le_of_ble_eq_true rfl) (by omega) (r_murmurOf (by assumption) (by assumption) (by assumption)) ?_
      refine e_iadd dX11_allMurmurs_20 ?_
      refine e_istore_n (ls' := [_, _, _]) dX11_allMurmurs_21 (by decide) rfl ?_
      refine e_iinc (ls' := [_, _, _]) dX11_allMurmurs_22 rfl (nI_i1 _) (by decide) rfl ?_
      refine e_goto (tgt := 4) dX11_allMurmurs_25 (by decide) ?_
      exact ih (i + 1) (by omega) (by omega)
set_option maxHeartbeats 4000000 in
set_option maxRecDepth 20000 in
theorem r_allMurmurs {G : Gt} {M : Mm} {Y : Yv} {S : Sv} (hY : RY M Y) (hS : RW M 273 0 Y.n S) : Call G 3 mX11_allMurmurs [.ref 238] M (eqQ (some (.int (sumI (murS S) Y.n))) M) := by
  have h6 := hY.1.2
  have hs5 := hY.2.1.2
  refine Call.intro rfl (Nat.le_of_ble_eq_true rfl) ?_
  show Ev G _ mX11_allMurmurs 0 [.ref 238, RA, RA] [] M _
  refine e_iconst (v := 0) dX11_allMurmurs_0 (by decide) ?_
  refine e_istore_n (ls' := [_, _, _]) dX11_allMurmurs_1 (by decide) rfl ?_
  refine e_iconst (v := 0) dX11_allMurmurs_2 (by decide) ?_
  refine e_istore_n (ls' := [_, _, _]) dX11_allMurmurs_3 (by decide) rfl ?_
  exact l_rallM hY hS (Y.n + 1) 0 (by omega) (by omega)
theorem sumZ {g : Nat → Int32} {n : Nat} : ∀ m, n ≤ m → (∀ j, n ≤ j → j < m → g j = 0) → sumI g m = sumI g n := by
  intro m
  induction m with
  | zero => intro h _; rw [show n = 0 by omega]
  | succ m ih =>
    intro h hz
    by_cases e : n = m + 1
    · rw [e]
    · rw [sumI, ih (by omega) (fun j a b => hz j a (by omega)), hz m (by omega) (by omega), Int32.add_zero]
set_option maxHeartbeats 4000000 in
set_option maxRecDepth 20000 in
theorem l_rallC {G : Gt} {M : Mm} : ∀ (k : Nat) (i : Nat) , (i ≤ 6) → (6 < i + k) → Ev G 1 mX11_allCrowns 4 [.ref 238, .int (sumI (fun j => M.1 273 (8 + j)) i), .int (nI i)] [] M (eqQ (some (.int (sumI (fun j => M.1 273 (8 + j)) 6))) M) := by
  intro k
  induction k with
  | zero => intro i hi hk; exact absurd hk (by omega)
  | succ k ih =>
    intro i hi hk
    refine e_iload_n dX11_allCrowns_4 rfl ?_
    refine e_bipush (v := 6) dX11_allCrowns_5 (by decide) ?_
    refine e_icmp_ge (tgt := 28) dX11_allCrowns_7 (by decide) (fun c7 => ?_) (fun c7 => ?_)
    · -- 7 jumps
      have hin : i = 6 := by have := ge_of (n := 6) (by omega) (by omega) c7; omega
      subst hin
      refine e_iload_n dX11_allCrowns_28 rfl ?_
      refine e_iret dX11_allCrowns_29 rfl ?_
      exact ⟨rfl, rfl⟩
    · -- 7 goes on
      have hlt : i < 6 := lt_of (n := 6) (by omega) (by omega) c7
      refine e_iload_n dX11_allCrowns_10 rfl ?_
      refine e_aload_n dX11_allCrowns_11 rfl ?_
      refine e_getR dX11_allCrowns_12 fl_X11_114 sh_m rfl ?_
      refine e_bipush (v := 8) dX11_allCrowns_15 (by decide) ?_
      refine e_iload_n dX11_allCrowns_17 rfl ?_
      refine e_iaddN (a := 8) (b := i) dX11_allCrowns_18 ?_
      refine e_ialdN (j := (8 + i)) dX11_allCrowns_19 (sa_m_s) (by decide) (by omega) ?_
      refine e_iadd dX11_allCrowns_20 ?_
      refine e_istore_n (ls' := [_, _, _]) dX11_allCrowns_21 (by decide) rfl ?_
      refine e_iinc (ls' := [_, _, _]) dX11_allCrowns_22 rfl (nI_i1 _) (by decide) rfl ?_
      refine e_goto (tgt := 4) dX11_allCrowns_25 (by decide) ?_
      exact ih (i + 1) (by omega) (by omega)
set_option maxHeartbeats 4000000 in
set_option maxRecDepth 20000 in
theorem r_allCrowns {G : Gt} {M : Mm} {n : Nat} {S : Sv} (hS : RW M 273 0 n S) (h6 : n ≤ 6) : Call G 1 mX11_allCrowns [.ref 238] M (eqQ (some (.int (sumI S.crow n))) M) := by
  refine Call.intro rfl (Nat.le_of_ble_eq_true rfl) ?_
  show Ev G _ mX11_allCrowns 0 [.ref 238, RA, RA] [] M _
  refine e_iconst (v := 0) dX11_allCrowns_0 (by decide) ?_
  refine e_istore_n (ls' := [_, _, _]) dX11_allCrowns_1 (by decide) rfl ?_
  refine e_iconst (v := 0) dX11_allCrowns_2 (by decide) ?_
  refine e_istore_n (ls' := [_, _, _]) dX11_allCrowns_3 (by decide) rfl ?_
  have h := l_rallC (G := G) (M := M) 7 0 (by omega) (by omega)
  rw [sumZ 6 h6 (fun j a b => hS.cz a b), sumI_congr (q := S.crow) (fun j hj => hS.cr hj)] at h
  exact h
set_option maxHeartbeats 4000000 in
set_option maxRecDepth 20000 in
theorem l_rmore {G : Gt} {M : Mm} {Y : Yv} {S : Sv} (hY : RY M Y) (hS : RW M 273 0 Y.n S) {j : Nat} (hj : j < Y.n) : ∀ (k : Nat) (i : Nat) , (i ≤ Y.n) → (Y.n < i + k) → Ev G 1 mX11_moreNear 4 [.ref 238, .int (nI j), .int (gnear i (Y.near j) S.crow j), .int (nI i)] [] M (eqQ (some (.int (gnear Y.n (Y.near j) S.crow j))) M) := by
  intro k
  induction k with
  | zero => intro i hi hk; exact absurd hk (by omega)
  | succ k ih =>
    intro i hi hk
    have h6 := hY.1.2
    have hs5 := hY.2.1.2
    refine e_iload_n dX11_moreNear_4 rfl ?_
    refine e_aload_n dX11_moreNear_5 rfl ?_
    refine e_getR dX11_moreNear_6 fl_X11_13 sh_m rfl ?_
    refine e_iconst (v := 0) dX11_moreNear_9 (by decide) ?_
    refine e_ialdN (j := 0) dX11_moreNear_10 (sa_m_yard) (by decide) (by omega) ?_
    rw [hY.1.1]
    refine e_icmp_ge (tgt := 63) dX11_moreNear_11 (by decide) (fun c11 => ?_) (fun c11 => ?_)
    · -- 11 jumps
      have hin : i = Y.n := by have := ge_of (n := Y.n) (by omega) (by omega) c11; omega
      subst hin
      refine e_iload_n dX11_moreNear_63 rfl ?_
      refine e_iret dX11_moreNear_64 rfl ?_
      exact ⟨rfl, rfl⟩
    · -- 11 goes on
      have hlt : i < Y.n := lt_of (n := Y.n) (by omega) (by omega) c11
      refine e_iload_n dX11_moreNear_14 rfl ?_
      refine e_aload_n dX11_moreNear_15 rfl ?_
      refine e_getR dX11_moreNear_16 fl_X11_32 sh_m rfl ?_
      refine e_iload_n dX11_moreNear_19 rfl ?_
      refine e_ialdN (j := j) dX11_moreNear_20 (sa_m_near) (by decide) (by omega) ?_
      rw [(hY.2.2.2.2.1 j hj).2.2.2.1]
      refine e_iload_n dX11_moreNear_21 rfl ?_
      refine e_ishr dX11_moreNear_22 ?_
      refine e_iconst (v := 1) dX11_moreNear_23 (by decide) ?_
      refine e_iand dX11_moreNear_24 ?_
      refine e_iconst (v := 1) dX11_moreNear_25 (by decide) ?_
      refine e_icmp_ne (tgt := 54) dX11_moreNear_26 (by decide) (fun c26 => ?_) (fun c26 => ?_)
      · -- 26 jumps
        refine e_iconst (v := 0) dX11_moreNear_54 (by decide) ?_
        refine e_iadd dX11_moreNear_55 ?_
        refine e_istore_n (ls' := [_, _, _, _]) dX11_moreNear_56 (by decide) rfl ?_
        refine e_iinc (ls' := [_, _, _, _]) dX11_moreNear_57 rfl (nI_i1 _) (by decide) rfl ?_
        refine e_goto (tgt := 4) dX11_moreNear_60 (by decide) ?_
        have hh := ih (i + 1) (by omega) (by omega)
        unfold gnear at hh
        rw [cntI_f (by rw [decide_eq_false c26]; rfl)] at hh
        rw [Int32.add_zero]
        exact hh
      · -- 26 goes on
        refine e_aload_n dX11_moreNear_29 rfl ?_
        refine e_getR dX11_moreNear_30 fl_X11_114 sh_m rfl ?_
        refine e_bipush (v := 8) dX11_moreNear_33 (by decide) ?_
        refine e_iload_n dX11_moreNear_35 rfl ?_
        refine e_iaddN (a := 8) (b := i) dX11_moreNear_36 ?_
        refine e_ialdN (j := (8 + i)) dX11_moreNear_37 (sa_m_s) (by decide) (by omega) ?_
        rw [hS.cr hlt]
        refine e_aload_n dX11_moreNear_38 rfl ?_
        refine e_getR dX11_moreNear_39 fl_X11_114 sh_m rfl ?_
        refine e_bipush (v := 8) dX11_moreNear_42 (by decide) ?_
        refine e_iload_n dX11_moreNear_44 rfl ?_
        refine e_iaddN (a := 8) (b := j) dX11_moreNear_45 ?_
        refine e_ialdN (j := (8 + j)) dX11_moreNear_46 (sa_m_s) (by decide) (by omega) ?_
        rw [hS.cr hj]
        refine e_icmp_le (tgt := 54) dX11_moreNear_47 (by decide) (fun c47 => ?_) (fun c47 => ?_)
        · -- 47 jumps
          refine e_iconst (v := 0) dX11_moreNear_54 (by decide) ?_
          refine e_iadd dX11_moreNear_55 ?_
          refine e_istore_n (ls' := [_, _, _, _]) dX11_moreNear_56 (by decide) rfl ?_
          refine e_iinc (ls' := [_, _, _, _]) dX11_moreNear_57 rfl (nI_i1 _) (by decide) rfl ?_
          refine e_goto (tgt := 4) dX11_moreNear_60 (by decide) ?_
          have hh := ih (i + 1) (by omega) (by omega)
          unfold gnear at hh
          rw [cntI_f (by rw [decide_eq_false c47]; exact Bool.and_false _)] at hh
          rw [Int32.add_zero]
          exact hh
        · -- 47 goes on
          refine e_iconst (v := 1) dX11_moreNear_50 (by decide) ?_
          refine e_goto (tgt := 55) dX11_moreNear_51 (by decide) ?_
          refine e_iadd dX11_moreNear_55 ?_
          refine e_istore_n (ls' := [_, _, _, _]) dX11_moreNear_56 (by decide) rfl ?_
          refine e_iinc (ls' := [_, _, _, _]) dX11_moreNear_57 rfl (nI_i1 _) (by decide) rfl ?_
          refine e_goto (tgt := 4) dX11_moreNear_60 (by decide) ?_
          have hh := ih (i + 1) (by omega) (by omega)
          unfold gnear at hh
          rw [cntI_t (by rw [decide_eq_true c26, decide_eq_true c47]; rfl)] at hh
          exact hh
set_option maxHeartbeats 4000000 in
set_option maxRecDepth 20000 in
theorem r_moreNear {G : Gt} {M : Mm} {Y : Yv} {S : Sv} {j : Nat} (hY : RY M Y) (hS : RW M 273 0 Y.n S) (hj : j < Y.n) : Call G 1 mX11_moreNear [.ref 238, .int (nI j)] M (eqQ (some (.int (gnear Y.n (Y.near j) S.crow j))) M) := by
  have h6 := hY.1.2
  have hs5 := hY.2.1.2
  refine Call.intro rfl (Nat.le_of_ble_eq_true rfl) ?_
  show Ev G _ mX11_moreNear 0 [.ref 238, .int (nI j), RA, RA] [] M _
  refine e_iconst (v := 0) dX11_moreNear_0 (by decide) ?_
  refine e_istore_n (ls' := [_, _, _, _]) dX11_moreNear_1 (by decide) rfl ?_
  refine e_iconst (v := 0) dX11_moreNear_2 (by decide) ?_
  refine e_istore_n (ls' := [_, _, _, _]) dX11_moreNear_3 (by decide) rfl ?_
  exact l_rmore hY hS hj (Y.n + 1) 0 (by omega) (by omega)
set_option maxHeartbeats 4000000 in
set_option maxRecDepth 20000 in
theorem r_canPull {G : Gt} {M : Mm} {n j : Nat} {S : Sv} {v : Int32} (hS : RW M 273 0 n S) (hj : j < n) (h6 : n ≤ 6) : Call G 1 mX11_canPull [.ref 238, .int (nI j), .int v] M (eqQ (some (.int (b2i (canB S j v = true)))) M) := by
  refine Call.intro rfl (Nat.le_of_ble_eq_true rfl) ?_
  show Ev G _ mX11_canPull 0 [.ref 238, .int (nI j), .int v] [] M _
  refine e_aload_n dX11_canPull_0 rfl ?_
  refine e_getR dX11_canPull_1 fl_X11_114 sh_m rfl ?_
  refine e_bipush (v := 14) dX11_canPull_4 (by decide) ?_
  refine e_iload_n dX11_canPull_6 rfl ?_
  refine e_iaddN (a := 14) (b := j) dX11_canPull_7 ?_
  refine e_ialdN (j := (14 + j)) dX11_canPull_8 (sa_m_s) (by decide) (by omega) ?_
  rw [hS.hi hj]
  refine e_bipush (v := 10) dX11_canPull_9 (by decide) ?_
  refine e_icmp_lt (tgt := 31) dX11_canPull_11 (by decide) (fun c11 => ?_) (fun c11 => ?_)
  · -- 11 jumps
    refine e_iconst (v := 0) dX11_canPull_31 (by decide) ?_
    refine e_zret dX11_canPull_32 rfl (by first | rfl | exact b2i_nar _) ?_
    exact ⟨by rw [b2i_f (p := canB S j v = true) (fun q => (of_decide_eq_true q).2 c11)], rfl⟩
  · -- 11 goes on
    refine e_aload_n dX11_canPull_14 rfl ?_
    refine e_getR dX11_canPull_15 fl_X11_114 sh_m rfl ?_
    refine e_bipush (v := 8) dX11_canPull_18 (by decide) ?_
    refine e_iload_n dX11_canPull_20 rfl ?_
    refine e_iaddN (a := 8) (b := j) dX11_canPull_21 ?_
    refine e_ialdN (j := (8 + j)) dX11_canPull_22 (sa_m_s) (by decide) (by omega) ?_
    rw [hS.cr hj]
    refine e_iload_n dX11_canPull_23 rfl ?_
    refine e_icmp_lt (tgt := 31) dX11_canPull_24 (by decide) (fun c24 => ?_) (fun c24 => ?_)
    · -- 24 jumps
      refine e_iconst (v := 0) dX11_canPull_31 (by decide) ?_
      refine e_zret dX11_canPull_32 rfl (by first | rfl | exact b2i_nar _) ?_
      exact ⟨by rw [b2i_f (p := canB S j v = true) (fun q => (of_decide_eq_true q).1 c24)], rfl⟩
    · -- 24 goes on
      refine e_iconst (v := 1) dX11_canPull_27 (by decide) ?_
      refine e_goto (tgt := 32) dX11_canPull_28 (by decide) ?_
      refine e_zret dX11_canPull_32 rfl (by first | rfl | exact b2i_nar _) ?_
      exact ⟨by rw [b2i_t (p := canB S j v = true) (decide_eq_true ⟨c24, c11⟩)], rfl⟩
set_option maxHeartbeats 4000000 in
set_option maxRecDepth 20000 in
theorem r_pulls {G : Gt} {M : Mm} {n j : Nat} {S : Sv} {v : Int32} (hS : RW M 273 0 n S) (hj : j < n) (h6 : n ≤ 6) : Call G 1 mX11_pulls [.ref 238, .int (nI j), .int v] M (fun r M' => r = none ∧ O3 M M' ∧ RW M' 273 0 n (loseV S j v)) := by
  refine Call.intro rfl (Nat.le_of_ble_eq_true rfl) ?_
  show Ev G _ mX11_pulls 0 [.ref 238, .int (nI j), .int v] [] M _
  refine e_aload_n dX11_pulls_0 rfl ?_
  refine e_getR dX11_pulls_1 fl_X11_114 sh_m rfl ?_
  refine e_bipush (v := 8) dX11_pulls_4 (by decide) ?_
  refine e_iload_n dX11_pulls_6 rfl ?_
  refine e_iaddN (a := 8) (b := j) dX11_pulls_7 ?_
  refine e_dup2 dX11_pulls_8 rfl rfl ?_
  refine e_ialdN (j := (8 + j)) dX11_pulls_9 (sa_m_s) (by decide) (by omega) ?_
  rw [hS.cr hj]
  refine e_iload_n dX11_pulls_10 rfl ?_
  refine e_isub dX11_pulls_11 ?_
  refine e_iastN (j := (8 + j)) dX11_pulls_12 (sa_m_s) (by decide) (by omega) ?_
  refine e_aload_n dX11_pulls_13 rfl ?_
  refine e_getR dX11_pulls_14 fl_X11_114 sh_m rfl ?_
  refine e_bipush (v := 8) dX11_pulls_17 (by decide) ?_
  refine e_iload_n dX11_pulls_19 rfl ?_
  refine e_iaddN (a := 8) (b := j) dX11_pulls_20 ?_
  refine e_ialdN (j := (8 + j)) dX11_pulls_21 (sa_m_s) (by decide) (by omega) ?_
  rw [setI_p]
  refine e_if_ne (tgt := 35) dX11_pulls_22 (by decide) (fun c22 => ?_) (fun c22 => ?_)
  · -- 22 jumps
    refine e_vret dX11_pulls_35 rfl ?_
    exact ⟨rfl, O3.rfl'.i _ _, hS.lose0 hj h6 c22⟩
  · -- 22 goes on
    refine e_aload_n dX11_pulls_25 rfl ?_
    refine e_getR dX11_pulls_26 fl_X11_114 sh_m rfl ?_
    refine e_bipush (v := 14) dX11_pulls_29 (by decide) ?_
    refine e_iload_n dX11_pulls_31 rfl ?_
    refine e_iaddN (a := 14) (b := j) dX11_pulls_32 ?_
    refine e_iconst (v := 0) dX11_pulls_33 (by decide) ?_
    refine e_iastN (j := (14 + j)) dX11_pulls_34 (sa_m_s) (by decide) (by omega) ?_
    refine e_vret dX11_pulls_35 rfl ?_
    exact ⟨rfl, (O3.rfl'.i _ _).i _ _, hS.lose1 hj h6 c22⟩
set_option maxHeartbeats 4000000 in
set_option maxRecDepth 20000 in
theorem r_canHave {G : Gt} {M : Mm} {Y : Yv} {s : Nat} {v : Int32} (hY : RY M Y) (hs : s < Y.ns) : Call G 2 mX11_canHave [.ref 238, .int (nI s), .int v] M (eqQ (some (.int (b2i (¬ v < Y.low s ∧ ¬ Y.high s < v)))) M) := by
  have h6 := hY.1.2
  have hs5 := hY.2.1.2
  refine Call.intro rfl (Nat.le_of_ble_eq_true rfl) ?_
  show Ev G _ mX11_canHave 0 [.ref 238, .int (nI s), .int v] [] M _
  refine e_iload_n dX11_canHave_0 rfl ?_
  refine e_aload_n dX11_canHave_1 rfl ?_
  refine e_getR dX11_canHave_2 fl_X11_35 sh_m rfl ?_
  refine e_iload_n dX11_canHave_5 rfl ?_
  refine e_ialdN (j := s) dX11_canHave_6 (sa_m_wantsFrom) (by decide) (by omega) ?_
  rw [(hY.2.2.2.2.2.1 s hs).1]
  refine e_aload_n dX11_canHave_7 rfl ?_
  refine e_getR dX11_canHave_8 fl_X11_38 sh_m rfl ?_
  refine e_iload_n dX11_canHave_11 rfl ?_
  refine e_ialdN (j := s) dX11_canHave_12 (sa_m_wantsTo) (by decide) (by omega) ?_
  rw [(hY.2.2.2.2.2.1 s hs).2.1]
  refine cS3r dX11_canHave_13 mo_X11_within ml_X11_274 (Nat.le_of_ble_eq_true rfl) (by omega) (r_within) ?_
  refine e_zret dX11_canHave_16 rfl (by first | rfl | exact b2i_nar _) ?_
  exact ⟨rfl, rfl⟩
/-- a row begun anew, its first i sheds laid -/
def frR (Y : Yv) (i k : Nat) : Int32 := if 2 ≤ k ∧ k < 2 + i then Y.heat (k - 2) else if 8 ≤ k ∧ k < 8 + i then Y.crow (k - 8) else if 20 ≤ k ∧ k < 20 + i then b1 (nI (k - 20)) else 0
theorem frR_rw {M : Mm} {Y : Yv} (h6 : Y.n ≤ 6) (h : ∀ k, k < 26 → M.1 273 k = frR Y Y.n k) : RW M 273 0 Y.n (begV Y) := by
  refine RW.mk ?_ ?_ (fun q hq => ⟨?_, ?_, ?_, ?_⟩) (fun q hq h6' => ?_)
  · rw [h _ (by omega)]; unfold frR; rw [if_neg (by omega), if_neg (by omega), if_neg (by omega)]; rfl
  · rw [h _ (by omega)]; unfold frR; rw [if_neg (by omega), if_neg (by omega), if_neg (by omega)]; rfl
  · rw [h _ (by omega)]; unfold frR; rw [if_pos (by omega), Nat.add_sub_cancel_left]; rfl
  · rw [h _ (by omega)]; unfold frR; rw [if_neg (by omega), if_pos (by omega), Nat.add_sub_cancel_left]; rfl
  · rw [h _ (by omega)]; unfold frR; rw [if_neg (by omega), if_neg (by omega), if_neg (by omega)]; rfl
  · rw [h _ (by omega)]; unfold frR; rw [if_neg (by omega), if_neg (by omega), if_pos (by omega), Nat.add_sub_cancel_left]; rfl
  · rw [h _ (by omega)]; unfold frR; rw [if_neg (by omega), if_neg (by omega), if_neg (by omega)]
theorem frR_s {M : Mm} {Y : Yv} {i : Nat} (hi : i < 6) (h : ∀ k, k < 26 → M.1 273 k = frR Y i k) : ∀ k, k < 26 → (setI (setI (setI M 273 (2 + i) (Y.heat i)) 273 (8 + i) (Y.crow i)) 273 (20 + i) (b1 (nI i))).1 273 k = frR Y (i + 1) k := by
  intro k hk
  rw [setI_1]
  by_cases e1 : k = 20 + i
  · rw [if_pos ⟨rfl, e1⟩]; unfold frR; rw [if_neg (by omega), if_neg (by omega), if_pos (by omega), show k - 20 = i by omega]
  · rw [if_neg (fun x => e1 x.2), setI_1]
    by_cases e2 : k = 8 + i
    · rw [if_pos ⟨rfl, e2⟩]; unfold frR; rw [if_neg (by omega), if_pos (by omega), show k - 8 = i by omega]
    · rw [if_neg (fun x => e2 x.2), setI_1]
      by_cases e3 : k = 2 + i
      · rw [if_pos ⟨rfl, e3⟩]; unfold frR; rw [if_pos (by omega), show k - 2 = i by omega]
      · rw [if_neg (fun x => e3 x.2), h k hk]
        unfold frR
        by_cases a : 2 ≤ k ∧ k < 2 + i
        · rw [if_pos a, if_pos (by omega)]
        · rw [if_neg a, if_neg (show ¬ (2 ≤ k ∧ k < 2 + (i + 1)) by omega)]
          by_cases b : 8 ≤ k ∧ k < 8 + i
          · rw [if_pos b, if_pos (by omega)]
          · rw [if_neg b, if_neg (show ¬ (8 ≤ k ∧ k < 8 + (i + 1)) by omega)]
            by_cases c : 20 ≤ k ∧ k < 20 + i
            · rw [if_pos c, if_pos (by omega)]
            · rw [if_neg c, if_neg (show ¬ (20 ≤ k ∧ k < 20 + (i + 1)) by omega)]
set_option maxHeartbeats 4000000 in
set_option maxRecDepth 20000 in
theorem l_rfresh2 {G : Gt} {M : Mm} {Y : Yv} (hY : RY M Y) : ∀ (k : Nat) (i : Nat) (Mc : Mm), (i ≤ Y.n) → (Y.n < i + k) → (O3 M Mc) → (∀ k, k < 26 → Mc.1 273 k = frR Y i k) → Ev G 1 mX11_fresh0 23 [.ref 238, .int (nI i)] [] Mc (fun r M' => r = none ∧ O3 M M' ∧ RW M' 273 0 Y.n (begV Y)) := by
  intro k
  induction k with
  | zero => intro i Mc hi hk hO hv; exact absurd hk (by omega)
  | succ k ih =>
    intro i Mc hi hk hO hv
    have h6 := hY.1.2
    have hs5 := hY.2.1.2
    refine e_iload_n dX11_fresh0_23 rfl ?_
    refine e_aload_n dX11_fresh0_24 rfl ?_
    refine e_getR dX11_fresh0_25 fl_X11_13 sh_m rfl ?_
    refine e_iconst (v := 0) dX11_fresh0_28 (by decide) ?_
    refine e_ialdN (j := 0) dX11_fresh0_29 (sa_m_yard) (by decide) (by omega) ?_
    rw [hO.2 240 (by decide), hY.1.1]
    refine e_icmp_ge (tgt := 80) dX11_fresh0_30 (by decide) (fun c30 => ?_) (fun c30 => ?_)
    · -- 30 jumps
      have hin : i = Y.n := by have := ge_of (n := Y.n) (by omega) (by omega) c30; omega
      subst hin
      refine e_vret dX11_fresh0_80 rfl ?_
      exact ⟨rfl, hO, frR_rw h6 hv⟩
    · -- 30 goes on
      have hlt : i < Y.n := lt_of (n := Y.n) (by omega) (by omega) c30
      refine e_aload_n dX11_fresh0_33 rfl ?_
      refine e_getR dX11_fresh0_34 fl_X11_114 sh_m rfl ?_
      refine e_iconst (v := 2) dX11_fresh0_37 (by decide) ?_
      refine e_iload_n dX11_fresh0_38 rfl ?_
      refine e_iaddN (a := 2) (b := i) dX11_fresh0_39 ?_
      refine e_aload_n dX11_fresh0_40 rfl ?_
      refine e_getR dX11_fresh0_41 fl_X11_26 sh_m rfl ?_
      refine e_iload_n dX11_fresh0_44 rfl ?_
      refine e_ialdN (j := i) dX11_fresh0_45 (sa_m_heatTold) (by decide) (by omega) ?_
      rw [hO.2 244 (by decide), (hY.2.2.2.2.1 i hlt).2.1]
      refine e_iastN (j := (2 + i)) dX11_fresh0_46 (sa_m_s) (by decide) (by omega) ?_
      refine e_aload_n dX11_fresh0_47 rfl ?_
      refine e_getR dX11_fresh0_48 fl_X11_114 sh_m rfl ?_
      refine e_bipush (v := 8) dX11_fresh0_51 (by decide) ?_
      refine e_iload_n dX11_fresh0_53 rfl ?_
      refine e_iaddN (a := 8) (b := i) dX11_fresh0_54 ?_
      refine e_aload_n dX11_fresh0_55 rfl ?_
      refine e_getR dX11_fresh0_56 fl_X11_29 sh_m rfl ?_
      refine e_iload_n dX11_fresh0_59 rfl ?_
      refine e_ialdN (j := i) dX11_fresh0_60 (sa_m_crownsTold) (by decide) (by omega) ?_
      rw [show (setI Mc 273 (2 + i) (Y.heat i)).1 245 = Mc.1 245 from (O3.rfl'.i _ _).2 245 (by decide), hO.2 245 (by decide), (hY.2.2.2.2.1 i hlt).2.2.1]
      refine e_iastN (j := (8 + i)) dX11_fresh0_61 (sa_m_s) (by decide) (by omega) ?_
      refine e_aload_n dX11_fresh0_62 rfl ?_
      refine e_getR dX11_fresh0_63 fl_X11_114 sh_m rfl ?_
      refine e_bipush (v := 20) dX11_fresh0_66 (by decide) ?_
      refine e_iload_n dX11_fresh0_68 rfl ?_
      refine e_iaddN (a := 20) (b := i) dX11_fresh0_69 ?_
      refine e_iconst (v := 1) dX11_fresh0_70 (by decide) ?_
      refine e_iload_n dX11_fresh0_71 rfl ?_
      refine e_ishl dX11_fresh0_72 ?_
      refine e_iastN (j := (20 + i)) dX11_fresh0_73 (sa_m_s) (by decide) (by omega) ?_
      refine e_iinc (ls' := [_, _]) dX11_fresh0_74 rfl (nI_i1 _) (by decide) rfl ?_
      refine e_goto (tgt := 23) dX11_fresh0_77 (by decide) ?_
      exact ih (i + 1) _ (by omega) (by omega) (((hO.i _ _).i _ _).i _ _) (frR_s (by omega) hv)
set_option maxHeartbeats 4000000 in
set_option maxRecDepth 20000 in
theorem l_rfresh1 {G : Gt} {M : Mm} {Y : Yv} (hY : RY M Y) : ∀ (k : Nat) (i : Nat) (Mc : Mm), (i ≤ 26) → (26 < i + k) → (O3 M Mc) → (∀ k, k < i → Mc.1 273 k = 0) → Ev G 1 mX11_fresh0 2 [.ref 238, .int (nI i)] [] Mc (fun r M' => r = none ∧ O3 M M' ∧ RW M' 273 0 Y.n (begV Y)) := by
  intro k
  induction k with
  | zero => intro i Mc hi hk hO hv; exact absurd hk (by omega)
  | succ k ih =>
    intro i Mc hi hk hO hv
    have h6 := hY.1.2
    have hs5 := hY.2.1.2
    refine e_iload_n dX11_fresh0_2 rfl ?_
    refine e_bipush (v := 26) dX11_fresh0_3 (by decide) ?_
    refine e_icmp_ge (tgt := 21) dX11_fresh0_5 (by decide) (fun c5 => ?_) (fun c5 => ?_)
    · -- 5 jumps
      have hin : i = 26 := by have := ge_of (n := 26) (by omega) (by omega) c5; omega
      subst hin
      refine e_iconst (v := 0) dX11_fresh0_21 (by decide) ?_
      refine e_istore_n (ls' := [_, _]) dX11_fresh0_22 (by decide) rfl ?_
      exact l_rfresh2 hY (Y.n + 1) 0 Mc (by omega) (by omega) hO (fun q hq => by rw [hv q hq]; unfold frR; rw [if_neg (by omega), if_neg (by omega), if_neg (by omega)])
    · -- 5 goes on
      have hlt : i < 26 := lt_of (n := 26) (by omega) (by omega) c5
      refine e_aload_n dX11_fresh0_8 rfl ?_
      refine e_getR dX11_fresh0_9 fl_X11_114 sh_m rfl ?_
      refine e_iload_n dX11_fresh0_12 rfl ?_
      refine e_iconst (v := 0) dX11_fresh0_13 (by decide) ?_
      refine e_iastN (j := i) dX11_fresh0_14 (sa_m_s) (by decide) (by omega) ?_
      refine e_iinc (ls' := [_, _]) dX11_fresh0_15 rfl (nI_i1 _) (by decide) rfl ?_
      refine e_goto (tgt := 2) dX11_fresh0_18 (by decide) ?_
      exact ih (i + 1) _ (by omega) (by omega) (hO.i _ _) (fun q hq => by rw [setI_1]; by_cases e : q = i; rw [if_pos ⟨rfl, e⟩]; rw [if_neg (fun x => e x.2)]; exact hv q (by omega))
set_option maxHeartbeats 4000000 in
set_option maxRecDepth 20000 in
theorem r_fresh0 {G : Gt} {M : Mm} {Y : Yv} (hY : RY M Y) : Call G 1 mX11_fresh0 [.ref 238] M (fun r M' => r = none ∧ O3 M M' ∧ RW M' 273 0 Y.n (begV Y)) := by
  refine Call.intro rfl (Nat.le_of_ble_eq_true rfl) ?_
  show Ev G _ mX11_fresh0 0 [.ref 238, RA] [] M _
  refine e_iconst (v := 0) dX11_fresh0_0 (by decide) ?_
  refine e_istore_n (ls' := [_, _]) dX11_fresh0_1 (by decide) rfl ?_
  exact l_rfresh1 hY 27 0 M (by omega) (by omega) O3.rfl' (fun q hq => absurd hq (by omega))
end RRW
