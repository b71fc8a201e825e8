section MATH
theorem c_atN {G : Gt} {M : Mm} {a n j : Nat} (hs : shp a = (1, n, [])) (hn : n < 2 ^ 31) (hj : j < n) : Call G 1 mX10_at [.ref a, .int (nI j)] M (eqQ (some (.int (M.1 a j))) M) := by
  have h := c_at (G := G) (M := M) (i := nI j) hs hn
  rw [atI_nI hn hj] at h
  exact h
theorem c_atLN {G : Gt} {M : Mm} {a n j : Nat} (hs : shp a = (2, n, [])) (hn : n < 2 ^ 31) (hj : j < n) : Call G 1 mX10_at_ [.ref a, .int (nI j)] M (eqQ (some (.long (M.2.1 a j))) M) := by
  have h := c_atL (G := G) (M := M) (i := nI j) hs hn
  rw [atL_nI hn hj] at h
  exact h
theorem c_putN {G : Gt} {M : Mm} {a n j : Nat} {v : Int32} (hs : shp a = (1, n, [])) (hn : n < 2 ^ 31) (hj : j < n) : Call G 1 mX10_put [.ref a, .int (nI j), .int v] M (eqQ none (setI M a j v)) := by
  have h := c_put (G := G) (M := M) (i := nI j) (v := v) hs hn
  rw [putI_nI hn hj] at h
  exact h
theorem c_putLN {G : Gt} {M : Mm} {a n j : Nat} {v : Int64} (hs : shp a = (2, n, [])) (hn : n < 2 ^ 31) (hj : j < n) : Call G 1 mX10_put_ [.ref a, .int (nI j), .long v] M (eqQ none (setL M a j v)) := by
  have h := c_putL (G := G) (M := M) (i := nI j) (v := v) hs hn
  rw [putL_nI hn hj] at h
  exact h
/-- bits -/
abbrev bitI (s i : Int32) : Prop := (s >>> (i &&& 31)) &&& 1 = 1
abbrev b1 (i : Int32) : Int32 := (1 : Int32) <<< (i &&& 31)
/-- counts, sums, sets -/
def cntI (p : Nat → Bool) : Nat → Int32
  | 0 => 0
  | k + 1 => if p k then cntI p k + 1 else cntI p k
def sumI (g : Nat → Int32) : Nat → Int32
  | 0 => 0
  | k + 1 => sumI g k + g k
def setB (p : Nat → Bool) : Nat → Int32
  | 0 => 0
  | k + 1 => if p k then setB p k ||| b1 (nI k) else setB p k
/-- r with the g's of those that hold p -/
def orF (p : Nat → Bool) (g : Nat → Int32) (r : Int32) : Nat → Int32
  | 0 => r
  | k + 1 => if p k then orF p g r k ||| g k else orF p g r k
theorem cntI_congr {p q : Nat → Bool} {n : Nat} (h : ∀ j, j < n → p j = q j) : cntI p n = cntI q n := by
  induction n with
  | zero => rfl
  | succ n ih => simp only [cntI]; rw [ih (fun j hj => h j (by omega)), h n (by omega)]
theorem sumI_congr {p q : Nat → Int32} {n : Nat} (h : ∀ j, j < n → p j = q j) : sumI p n = sumI q n := by
  induction n with
  | zero => rfl
  | succ n ih => simp only [sumI]; rw [ih (fun j hj => h j (by omega)), h n (by omega)]
theorem setB_congr {p q : Nat → Bool} {n : Nat} (h : ∀ j, j < n → p j = q j) : setB p n = setB q n := by
  induction n with
  | zero => rfl
  | succ n ih => simp only [setB]; rw [ih (fun j hj => h j (by omega)), h n (by omega)]
theorem orF_congr {p q : Nat → Bool} {g g' : Nat → Int32} {r : Int32} {n : Nat} (h : ∀ j, j < n → p j = q j) (h2 : ∀ j, j < n → g j = g' j) : orF p g r n = orF q g' r n := by
  induction n with
  | zero => rfl
  | succ n ih => simp only [orF]; rw [ih (fun j hj => h j (by omega)) (fun j hj => h2 j (by omega)), h n (by omega), h2 n (by omega)]
theorem cntI_t {p : Nat → Bool} {k : Nat} (h : p k = true) : cntI p (k + 1) = cntI p k + 1 := by simp only [cntI]; rw [if_pos h]
theorem cntI_f {p : Nat → Bool} {k : Nat} (h : p k = false) : cntI p (k + 1) = cntI p k := by simp only [cntI]; rw [if_neg (by rw [h]; decide)]
theorem setB_t {p : Nat → Bool} {k : Nat} (h : p k = true) : setB p (k + 1) = setB p k ||| b1 (nI k) := by simp only [setB]; rw [if_pos h]
theorem setB_f {p : Nat → Bool} {k : Nat} (h : p k = false) : setB p (k + 1) = setB p k := by simp only [setB]; rw [if_neg (by rw [h]; decide)]
theorem orF_t {p : Nat → Bool} {g : Nat → Int32} {r : Int32} {k : Nat} (h : p k = true) : orF p g r (k + 1) = orF p g r k ||| g k := by simp only [orF]; rw [if_pos h]
theorem orF_f {p : Nat → Bool} {g : Nat → Int32} {r : Int32} {k : Nat} (h : p k = false) : orF p g r (k + 1) = orF p g r k := by simp only [orF]; rw [if_neg (by rw [h]; decide)]
/-- how it stands: nights, lit, heats, crowns, heights, heard -/
abbrev Sv : Type := Int32 × Int32 × (Nat → Int32) × (Nat → Int32) × (Nat → Int32) × (Nat → Int32)
abbrev Sv.nights (S : Sv) : Int32 := S.1
abbrev Sv.lit (S : Sv) : Int32 := S.2.1
abbrev Sv.heat (S : Sv) : Nat → Int32 := S.2.2.1
abbrev Sv.crow (S : Sv) : Nat → Int32 := S.2.2.2.1
abbrev Sv.high (S : Sv) : Nat → Int32 := S.2.2.2.2.1
abbrev Sv.hear (S : Sv) : Nat → Int32 := S.2.2.2.2.2
/-- a yard: sheds, stages, frosts, roof; rows 0 kind 1 heat 2 crowns 3 near 4 low 5 high 6 frost; names 0 sheds 1 stages; the law -/
abbrev Yv : Type := Nat × Nat × Nat × Int32 × (Nat → Nat → Int32) × (Nat → Nat → Int64) × (Int32 → Int32 → Int32 → Int32 → Int32)
abbrev Yv.n (Y : Yv) : Nat := Y.1
abbrev Yv.ns (Y : Yv) : Nat := Y.2.1
abbrev Yv.nf (Y : Yv) : Nat := Y.2.2.1
abbrev Yv.roof (Y : Yv) : Int32 := Y.2.2.2.1
abbrev Yv.kind (Y : Yv) : Nat → Int32 := Y.2.2.2.2.1 0
abbrev Yv.heat (Y : Yv) : Nat → Int32 := Y.2.2.2.2.1 1
abbrev Yv.crow (Y : Yv) : Nat → Int32 := Y.2.2.2.2.1 2
abbrev Yv.near (Y : Yv) : Nat → Int32 := Y.2.2.2.2.1 3
abbrev Yv.low (Y : Yv) : Nat → Int32 := Y.2.2.2.2.1 4
abbrev Yv.high (Y : Yv) : Nat → Int32 := Y.2.2.2.2.1 5
abbrev Yv.frost (Y : Yv) : Nat → Int32 := Y.2.2.2.2.1 6
abbrev Yv.name (Y : Yv) : Nat → Int64 := Y.2.2.2.2.2.1 0
abbrev Yv.sname (Y : Yv) : Nat → Int64 := Y.2.2.2.2.2.1 1
abbrev Yv.gE (Y : Yv) : Int32 → Int32 → Int32 → Int32 → Int32 := Y.2.2.2.2.2.2
def mx (x y : Int32) : Int32 := if x < y then y else x
def mn (x y : Int32) : Int32 := if y < x then y else x
def murV (h c : Int32) : Int32 := mn 999 (h * c / 10)
def gnear (n : Nat) (near : Int32) (c : Nat → Int32) (j : Nat) : Int32 := cntI (fun i => decide (bitI near (nI i)) && decide (c j < c i)) n
def growW (Y : Yv) (S : Sv) (j : Nat) (v : Int32) : Int32 :=
  if Y.kind j = 1 ∧ S.high j < 10 then v + 1
  else if Y.kind j = 2 ∧ ¬ Y.near j &&& S.lit = 0 then v / 2
  else if Y.kind j = 3 then v + gnear Y.n (Y.near j) S.crow j
  else v
theorem gW1 {Y : Yv} {S : Sv} {j : Nat} {v : Int32} (h : Y.kind j = 1) (h2 : S.high j < 10) : growW Y S j v = v + 1 := if_pos ⟨h, h2⟩
theorem gW2 {Y : Yv} {S : Sv} {j : Nat} {v : Int32} (h : Y.kind j = 2) (h2 : ¬ Y.near j &&& S.lit = 0) : growW Y S j v = v / 2 := by
  unfold growW; rw [if_neg (fun q => absurd (q.1.symm.trans h) (by decide)), if_pos ⟨h, h2⟩]
theorem gW3 {Y : Yv} {S : Sv} {j : Nat} {v : Int32} (h : Y.kind j = 3) : growW Y S j v = v + gnear Y.n (Y.near j) S.crow j := by
  unfold growW; rw [if_neg (fun q => absurd (q.1.symm.trans h) (by decide)), if_neg (fun q => absurd (q.1.symm.trans h) (by decide)), if_pos h]
theorem gW0 {Y : Yv} {S : Sv} {j : Nat} {v : Int32} (h1 : ¬ (Y.kind j = 1 ∧ S.high j < 10)) (h2 : ¬ (Y.kind j = 2 ∧ ¬ Y.near j &&& S.lit = 0)) (h3 : ¬ Y.kind j = 3) : growW Y S j v = v := by
  unfold growW; rw [if_neg h1, if_neg h2, if_neg h3]
def growV (Y : Yv) (S : Sv) (fr : Int32) (j : Nat) : Int32 :=
  if S.crow j = 0 then 0 else if bitI S.lit (nI j) then 0 else
  mn (growW Y S j (mx 0 (mn 9 (Y.gE (mx 0 (S.heat j - fr)) (S.high j) (S.crow j) S.nights)))) (Y.roof - S.high j)
theorem growV_eq {Y : Yv} {S : Sv} {fr : Int32} {j : Nat} (h1 : ¬ S.crow j = 0) (h2 : ¬ bitI S.lit (nI j)) : growV Y S fr j = mn (growW Y S j (mx 0 (mn 9 (Y.gE (mx 0 (S.heat j - fr)) (S.high j) (S.crow j) S.nights)))) (Y.roof - S.high j) := by
  unfold growV; rw [if_neg h1, if_neg h2]
def popV (Y : Yv) (S : Sv) (fr : Int32) : Int32 := setB (fun j => decide (S.high j < 10) && !decide (S.high j + growV Y S fr j < 10)) Y.n
def passV (Y : Yv) (S : Sv) (fr : Int32) : Sv :=
  (S.nights + 1, 0, S.heat, S.crow, fun j => S.high j + growV Y S fr j, fun j => orF (fun i => decide (0 < growV Y S fr i) && decide (bitI (Y.near i) (nI j))) S.hear (S.hear j) Y.n)

theorem e_sw {G : Gt} {d : Nat} {mi : Mi} {pc : Nat} {ls st : List Value} {M : Mm} {Q : Option Value → Mm → Prop} {dflt lo hi : Int} {offs : Array Int} {len : Nat} {x : Int32} (hd : decode mi.2.1 pc = .ok (.tableswitch dflt lo hi offs, len))
    (kin : ∀ (j : Nat) (off : Int), offs[j]? = some off → x = Int32.ofInt (lo + j) → ∀ tgt : Nat, (pc : Int) + off = (tgt : Int) → Ev G d mi tgt ls st M Q)
    (kout : (x.toInt < lo ∨ hi < x.toInt) → ∀ tgt : Nat, (pc : Int) + dflt = (tgt : Int) → Ev G d mi tgt ls st M Q) (hsz : ((offs.size : Int) = hi - lo + 1 ∧ 0 ≤ (pc : Int) + dflt ∧ offs.all (fun o => decide (0 ≤ (pc : Int) + o))) = True) : Ev G d mi pc ls (.int x :: st) M Q := by
  have hsz2 := of_eq_true hsz
  obtain ⟨h1, h2, h3⟩ := hsz2
  by_cases h : x.toInt < lo ∨ hi < x.toInt
  · exact e_tableOut hd h (by omega : (pc : Int) + dflt = (((pc : Int) + dflt).toNat : Int)) (kout h _ (by omega))
  · have hlt : (x.toInt - lo).toNat < offs.size := by omega
    have ho : offs[(x.toInt - lo).toNat]? = some offs[(x.toInt - lo).toNat] := Array.getElem?_eq_getElem hlt
    have h4 : 0 ≤ (pc : Int) + offs[(x.toInt - lo).toNat] := by
      have := Array.all_eq_true.mp h3 _ hlt
      simpa using this
    refine e_tableIn hd (by omega) (by omega) ho (by omega : (pc : Int) + offs[(x.toInt - lo).toNat] = (((pc : Int) + offs[(x.toInt - lo).toNat]).toNat : Int)) (kin _ _ ho ?_ _ (by omega))
    rw [show lo + (((x.toInt - lo).toNat : Nat) : Int) = x.toInt by omega, Int32.ofInt_toInt]
end MATH
