/-! the cells: the class's from 0, the reference's from 238, the law's own row at 285 -/
def shT : List (Nat × Nat × List (Nat × Nat)) := [
  (0, 7, [(2, 6), (3, 0), (3, 0), (3, 0), (3, 0), (2, 44), (2, 51), (2, 58), (2, 1), (2, 2), (0, 0), (0, 0), (2, 3), (2, 4), (2, 5), (0, 0), (1, 0)]),
  (4, 4, [(62, 16)]),
  (5, 16, [(126, 7)]),
  (1, 120, []),
  (1, 5, []),
  (1, 5, []),
  (0, 4, [(2, 7), (0, 0), (0, 0), (0, 0), (0, 0), (0, 0), (0, 0), (1, 0), (3, 0), (0, 0)]),
  (1, 1000, []),
  (0, 6, [(2, 9), (2, 10), (2, 11), (2, 12), (2, 13), (0, 0), (2, 14), (2, 15), (2, 16), (0, 0), (2, 17), (0, 0), (0, 0), (2, 18)]),
  (2, 6, []),
  (1, 6, []),
  (1, 6, []),
  (1, 6, []),
  (1, 6, []),
  (2, 5, []),
  (1, 5, []),
  (1, 5, []),
  (1, 12, []),
  (0, 0, [(2, 19), (0, 0), (2, 20), (2, 21)]),
  (1, 1000, []),
  (1, 4, []),
  (1, 25, []),
  (0, 6, [(2, 23), (2, 24), (2, 25), (2, 26), (2, 27), (0, 0), (2, 28), (2, 29), (2, 30), (0, 0), (2, 31), (0, 0), (0, 0), (2, 32)]),
  (2, 6, []),
  (1, 6, []),
  (1, 6, []),
  (1, 6, []),
  (1, 6, []),
  (2, 5, []),
  (1, 5, []),
  (1, 5, []),
  (1, 12, []),
  (0, 0, [(2, 33), (0, 0), (2, 34), (2, 35)]),
  (1, 1000, []),
  (1, 4, []),
  (1, 25, []),
  (0, 5, [(2, 37), (2, 38), (2, 39), (0, 0)]),
  (1, 40, []),
  (1, 40, []),
  (1, 40, []),
  (0, 5, [(2, 41), (2, 42), (2, 43), (0, 0)]),
  (1, 40, []),
  (1, 40, []),
  (1, 40, []),
  (0, 3, [(0, 0), (0, 0), (0, 0), (2, 45), (2, 46), (2, 47), (2, 48), (2, 49), (2, 50)]),
  (1, 6, []),
  (1, 6, []),
  (1, 6, []),
  (1, 6, []),
  (1, 6, []),
  (1, 6, []),
  (0, 3, [(0, 0), (0, 0), (0, 0), (2, 52), (2, 53), (2, 54), (2, 55), (2, 56), (2, 57)]),
  (1, 6, []),
  (1, 6, []),
  (1, 6, []),
  (1, 6, []),
  (1, 6, []),
  (1, 6, []),
  (0, 2, [(2, 59), (2, 60), (2, 61), (0, 0)]),
  (1, 8, []),
  (1, 8, []),
  (1, 8, []),
  (0, 1, [(0, 0), (2, 63), (2, 70), (2, 74)]),
  (0, 3, [(0, 0), (0, 0), (0, 0), (2, 64), (2, 65), (2, 66), (2, 67), (2, 68), (2, 69)]),
  (1, 6, []),
  (1, 6, []),
  (1, 6, []),
  (1, 6, []),
  (1, 6, []),
  (1, 6, []),
  (0, 5, [(2, 71), (2, 72), (2, 73), (0, 0)]),
  (1, 40, []),
  (1, 40, []),
  (1, 40, []),
  (0, 2, [(2, 75), (2, 76), (2, 77), (0, 0)]),
  (1, 8, []),
  (1, 8, []),
  (1, 8, []),
  (0, 1, [(0, 0), (2, 79), (2, 86), (2, 90)]),
  (0, 3, [(0, 0), (0, 0), (0, 0), (2, 80), (2, 81), (2, 82), (2, 83), (2, 84), (2, 85)]),
  (1, 6, []),
  (1, 6, []),
  (1, 6, []),
  (1, 6, []),
  (1, 6, []),
  (1, 6, []),
  (0, 5, [(2, 87), (2, 88), (2, 89), (0, 0)]),
  (1, 40, []),
  (1, 40, []),
  (1, 40, []),
  (0, 2, [(2, 91), (2, 92), (2, 93), (0, 0)]),
  (1, 8, []),
  (1, 8, []),
  (1, 8, []),
  (0, 1, [(0, 0), (2, 95), (2, 102), (2, 106)]),
  (0, 3, [(0, 0), (0, 0), (0, 0), (2, 96), (2, 97), (2, 98), (2, 99), (2, 100), (2, 101)]),
  (1, 6, []),
  (1, 6, []),
  (1, 6, []),
  (1, 6, []),
  (1, 6, []),
  (1, 6, []),
  (0, 5, [(2, 103), (2, 104), (2, 105), (0, 0)]),
  (1, 40, []),
  (1, 40, []),
  (1, 40, []),
  (0, 2, [(2, 107), (2, 108), (2, 109), (0, 0)]),
  (1, 8, []),
  (1, 8, []),
  (1, 8, []),
  (0, 1, [(0, 0), (2, 111), (2, 118), (2, 122)]),
  (0, 3, [(0, 0), (0, 0), (0, 0), (2, 112), (2, 113), (2, 114), (2, 115), (2, 116), (2, 117)]),
  (1, 6, []),
  (1, 6, []),
  (1, 6, []),
  (1, 6, []),
  (1, 6, []),
  (1, 6, []),
  (0, 5, [(2, 119), (2, 120), (2, 121), (0, 0)]),
  (1, 40, []),
  (1, 40, []),
  (1, 40, []),
  (0, 2, [(2, 123), (2, 124), (2, 125), (0, 0)]),
  (1, 8, []),
  (1, 8, []),
  (1, 8, []),
  (0, 3, [(0, 0), (0, 0), (0, 0), (2, 127), (2, 128), (2, 129), (2, 130), (2, 131), (2, 132)]),
  (1, 6, []),
  (1, 6, []),
  (1, 6, []),
  (1, 6, []),
  (1, 6, []),
  (1, 6, []),
  (0, 3, [(0, 0), (0, 0), (0, 0), (2, 134), (2, 135), (2, 136), (2, 137), (2, 138), (2, 139)]),
  (1, 6, []),
  (1, 6, []),
  (1, 6, []),
  (1, 6, []),
  (1, 6, []),
  (1, 6, []),
  (0, 3, [(0, 0), (0, 0), (0, 0), (2, 141), (2, 142), (2, 143), (2, 144), (2, 145), (2, 146)]),
  (1, 6, []),
  (1, 6, []),
  (1, 6, []),
  (1, 6, []),
  (1, 6, []),
  (1, 6, []),
  (0, 3, [(0, 0), (0, 0), (0, 0), (2, 148), (2, 149), (2, 150), (2, 151), (2, 152), (2, 153)]),
  (1, 6, []),
  (1, 6, []),
  (1, 6, []),
  (1, 6, []),
  (1, 6, []),
  (1, 6, []),
  (0, 3, [(0, 0), (0, 0), (0, 0), (2, 155), (2, 156), (2, 157), (2, 158), (2, 159), (2, 160)]),
  (1, 6, []),
  (1, 6, []),
  (1, 6, []),
  (1, 6, []),
  (1, 6, []),
  (1, 6, []),
  (0, 3, [(0, 0), (0, 0), (0, 0), (2, 162), (2, 163), (2, 164), (2, 165), (2, 166), (2, 167)]),
  (1, 6, []),
  (1, 6, []),
  (1, 6, []),
  (1, 6, []),
  (1, 6, []),
  (1, 6, []),
  (0, 3, [(0, 0), (0, 0), (0, 0), (2, 169), (2, 170), (2, 171), (2, 172), (2, 173), (2, 174)]),
  (1, 6, []),
  (1, 6, []),
  (1, 6, []),
  (1, 6, []),
  (1, 6, []),
  (1, 6, []),
  (0, 3, [(0, 0), (0, 0), (0, 0), (2, 176), (2, 177), (2, 178), (2, 179), (2, 180), (2, 181)]),
  (1, 6, []),
  (1, 6, []),
  (1, 6, []),
  (1, 6, []),
  (1, 6, []),
  (1, 6, []),
  (0, 3, [(0, 0), (0, 0), (0, 0), (2, 183), (2, 184), (2, 185), (2, 186), (2, 187), (2, 188)]),
  (1, 6, []),
  (1, 6, []),
  (1, 6, []),
  (1, 6, []),
  (1, 6, []),
  (1, 6, []),
  (0, 3, [(0, 0), (0, 0), (0, 0), (2, 190), (2, 191), (2, 192), (2, 193), (2, 194), (2, 195)]),
  (1, 6, []),
  (1, 6, []),
  (1, 6, []),
  (1, 6, []),
  (1, 6, []),
  (1, 6, []),
  (0, 3, [(0, 0), (0, 0), (0, 0), (2, 197), (2, 198), (2, 199), (2, 200), (2, 201), (2, 202)]),
  (1, 6, []),
  (1, 6, []),
  (1, 6, []),
  (1, 6, []),
  (1, 6, []),
  (1, 6, []),
  (0, 3, [(0, 0), (0, 0), (0, 0), (2, 204), (2, 205), (2, 206), (2, 207), (2, 208), (2, 209)]),
  (1, 6, []),
  (1, 6, []),
  (1, 6, []),
  (1, 6, []),
  (1, 6, []),
  (1, 6, []),
  (0, 3, [(0, 0), (0, 0), (0, 0), (2, 211), (2, 212), (2, 213), (2, 214), (2, 215), (2, 216)]),
  (1, 6, []),
  (1, 6, []),
  (1, 6, []),
  (1, 6, []),
  (1, 6, []),
  (1, 6, []),
  (0, 3, [(0, 0), (0, 0), (0, 0), (2, 218), (2, 219), (2, 220), (2, 221), (2, 222), (2, 223)]),
  (1, 6, []),
  (1, 6, []),
  (1, 6, []),
  (1, 6, []),
  (1, 6, []),
  (1, 6, []),
  (0, 3, [(0, 0), (0, 0), (0, 0), (2, 225), (2, 226), (2, 227), (2, 228), (2, 229), (2, 230)]),
  (1, 6, []),
  (1, 6, []),
  (1, 6, []),
  (1, 6, []),
  (1, 6, []),
  (1, 6, []),
  (0, 3, [(0, 0), (0, 0), (0, 0), (2, 232), (2, 233), (2, 234), (2, 235), (2, 236), (2, 237)]),
  (1, 6, []),
  (1, 6, []),
  (1, 6, []),
  (1, 6, []),
  (1, 6, []),
  (1, 6, []),
  (0, 8, [(0, 0), (0, 0), (2, 239), (0, 0), (0, 0), (0, 0), (0, 0), (1, 0), (0, 0), (0, 0), (2, 240), (2, 241), (2, 242), (2, 243), (2, 244), (2, 245), (2, 246), (2, 247), (2, 248), (2, 249), (2, 250), (2, 251), (2, 252), (0, 0), (0, 0), (2, 253), (2, 254), (2, 255), (2, 256), (2, 257), (2, 258), (2, 259), (2, 260), (2, 261), (2, 262), (2, 263), (2, 264), (0, 0), (1, 0), (2, 265), (2, 266), (2, 267), (2, 268), (2, 269), (2, 270), (2, 271), (2, 272), (2, 273), (2, 274), (2, 275), (2, 276), (2, 277), (2, 278), (2, 279), (0, 0), (2, 280), (2, 281), (0, 0), (2, 282), (2, 283), (0, 0), (2, 284), (1, 0)]),
  (1, 1000, []),
  (1, 8, []),
  (2, 12, []),
  (2, 10, []),
  (1, 12, []),
  (1, 12, []),
  (1, 12, []),
  (1, 12, []),
  (1, 10, []),
  (1, 10, []),
  (1, 24, []),
  (1, 2, []),
  (1, 2, []),
  (1, 2000, []),
  (1, 7, []),
  (3, 7, []),
  (1, 7, []),
  (1, 7, []),
  (1, 7, []),
  (1, 7, []),
  (1, 7, []),
  (1, 7, []),
  (1, 7, []),
  (1, 7, []),
  (1, 7, []),
  (1, 20, []),
  (1, 6, []),
  (1, 240, []),
  (1, 240, []),
  (1, 240, []),
  (1, 5, []),
  (1, 40, []),
  (1, 40, []),
  (3, 40, []),
  (1, 26, []),
  (1, 26, []),
  (1, 26, []),
  (1, 26, []),
  (1, 104, []),
  (1, 416, []),
  (3, 4, []),
  (1, 6, []),
  (1, 6, []),
  (1, 5, []),
  (1, 5, []),
  (1, 120, []),
  (2, 1, [])]
abbrev NN : Nat := 286
def shp (i : Nat) : Nat × Nat × List (Nat × Nat) := shT.getD i (9, 0, [])
def stA : List Nat := [44, 51, 63, 79, 95, 111, 126, 133, 140, 147, 154, 161, 168, 175, 182, 189, 196, 203, 210, 217, 224, 231]
def ydA : List Nat := [8, 22]
def wkA : List Nat := [36, 40, 70, 86, 102, 118]
def snA : List Nat := [58, 74, 90, 106, 122]
def lwA : List Nat := [18, 32]
def mkA : List Nat := [62, 78, 94, 110]
section PM2
theorem shp_in {i : Nat} (h : (shp i).1 ≠ 9) : i < NN := by
  unfold shp at h
  rcases Nat.lt_or_ge i NN with q | q
  · exact q
  · exfalso
    apply h
    rw [List.getD_eq_getElem?_getD, List.getElem?_eq_none (by rw [show shT.length = NN from by decide +kernel]; exact q)]
    rfl
/-- a field's value: int, long, a final reference, a reference that changes -/
def fv (ad : Nat → Nat) (M : Mm) (i k : Nat) (q : Nat × Nat) : Value := match q.1 with
  | 0 => .int (M.1 i k)
  | 1 => .long (M.2.1 i k)
  | 2 => .ref (ad q.2)
  | _ => .ref (ad (M.2.2 i k))
def flds (ad : Nat → Nat) (M : Mm) (i : Nat) : Nat → List (Nat × Nat) → List Value
  | _, [] => []
  | k, q :: qs => fv ad M i k q :: flds ad M i (k + 1) qs
def rfa (ad : Nat → Nat) (bs : List (Nat × Nat)) : Nat → Option Nat := fun j => match bs with
  | [] => none
  | q :: _ => some (ad (q.1 + q.2 * j))
def cel (cA : Nat → ClassId) (ad : Nat → Nat) (M : Mm) (i : Nat) : va_E := match shp i with
  | (0, c, fs) => .inr (c, flds ad M i 0 fs)
  | (1, n, _) => .inl (cA 0, n, .inl (M.1 i))
  | (2, n, _) => .inl (cA 1, n, .inr (.inl (M.2.1 i)))
  | (3, n, _) => .inl (cA 2, n, .inl (M.1 i))
  | (4, n, bs) => .inl (cA 3, n, .inr (.inr (.inr (.inr (rfa ad bs)))))
  | (_, n, bs) => .inl (cA 4, n, .inr (.inr (.inr (.inr (rfa ad bs)))))
def cells (cA : Nat → ClassId) (ad : Nat → Nat) (M : Mm) : va_W := (List.range NN).map (fun i => (ad i, cel cA ad M i))
theorem cells_at {cA : Nat → ClassId} {ad : Nat → Nat} {M : Mm} {i : Nat} (h : i < NN) : (cells cA ad M)[i]? = some (ad i, cel cA ad M i) := by
  unfold cells
  rw [List.getElem?_map, List.getElem?_range h]
  rfl
theorem flds_get {ad : Nat → Nat} {M : Mm} {i : Nat} : ∀ (fs : List (Nat × Nat)) (j k : Nat) (q : Nat × Nat), fs[k]? = some q → (flds ad M i j fs)[k]? = some (fv ad M i (j + k) q) := by
  intro fs
  induction fs with
  | nil => intro j k q h; simp at h
  | cons u us ih =>
    intro j k q h
    cases k with
    | zero => simp at h; subst h; simp [flds]
    | succ k =>
      rw [flds, List.getElem?_cons_succ]
      rw [List.getElem?_cons_succ] at h
      rw [ih (j + 1) k q h, show j + 1 + k = j + (k + 1) by omega]
theorem flds_len {ad : Nat → Nat} {M : Mm} {i : Nat} : ∀ (fs : List (Nat × Nat)) (j : Nat), (flds ad M i j fs).length = fs.length := by
  intro fs
  induction fs with
  | nil => intro j; rfl
  | cons u us ih => intro j; simp [flds, ih]
theorem flds_set {ad : Nat → Nat} {M M' : Mm} {i : Nat} {v : Value} : ∀ (fs : List (Nat × Nat)) (j k : Nat) (q : Nat × Nat), fs[k]? = some q → fv ad M' i (j + k) q = v → (∀ (k' : Nat) (q' : Nat × Nat), k' ≠ j + k → fv ad M' i k' q' = fv ad M i k' q') → (flds ad M i j fs).set k v = flds ad M' i j fs := by
  intro fs
  induction fs with
  | nil => intro j k q h; simp at h
  | cons u us ih =>
    intro j k q h hv hk
    cases k with
    | zero =>
      simp at h; subst h
      rw [flds, flds, List.set_cons_zero]
      rw [show fv ad M' i j u = v from by simpa using hv]
      congr 1
      have : ∀ (us : List (Nat × Nat)) (j' : Nat), j < j' → flds ad M i j' us = flds ad M' i j' us := by
        intro us
        induction us with
        | nil => intro j' _; rfl
        | cons w ws ih2 => intro j' hj; rw [flds, flds, ih2 (j' + 1) (by omega), hk j' w (by omega)]
      exact this us (j + 1) (by omega)
    | succ k =>
      rw [List.getElem?_cons_succ] at h
      rw [flds, flds, List.set_cons_succ, ih (j + 1) k q h (by rw [show j + 1 + k = j + (k + 1) by omega]; exact hv) (fun k' q' h' => hk k' q' (by omega)), hk j u (by omega)]
theorem fv_setI {ad : Nat → Nat} {M : Mm} {i k : Nat} {v : Int32} {j k' : Nat} {q : Nat × Nat} (h : ¬ (j = i ∧ k' = k)) : fv ad (setI M i k v) j k' q = fv ad M j k' q := by
  unfold fv setI
  split <;> simp [h]
theorem fv_setL {ad : Nat → Nat} {M : Mm} {i k : Nat} {v : Int64} {j k' : Nat} {q : Nat × Nat} (h : ¬ (j = i ∧ k' = k)) : fv ad (setL M i k v) j k' q = fv ad M j k' q := by
  unfold fv setL
  split <;> simp [h]
theorem fv_setP {ad : Nat → Nat} {M : Mm} {i k v : Nat} {j k' : Nat} {q : Nat × Nat} (h : ¬ (j = i ∧ k' = k)) : fv ad (setP M i k v) j k' q = fv ad M j k' q := by
  unfold fv setP
  split <;> simp [h]
theorem flds_congr {ad : Nat → Nat} {M M' : Mm} {i : Nat} (h : ∀ (k' : Nat) (q' : Nat × Nat), fv ad M' i k' q' = fv ad M i k' q') : ∀ (fs : List (Nat × Nat)) (j : Nat), flds ad M' i j fs = flds ad M i j fs := by
  intro fs
  induction fs with
  | nil => intro j; rfl
  | cons u us ih => intro j; rw [flds, flds, ih, h]
theorem cel_congr {cA : Nat → ClassId} {ad : Nat → Nat} {M M' : Mm} {j : Nat} (h1 : M'.1 j = M.1 j) (h2 : M'.2.1 j = M.2.1 j) (h3 : M'.2.2 j = M.2.2 j) : cel cA ad M' j = cel cA ad M j := by
  have hf : ∀ (k' : Nat) (q' : Nat × Nat), fv ad M' j k' q' = fv ad M j k' q' := by
    intro k' q'
    unfold fv
    rw [h1, h2, h3]
  unfold cel
  rw [h1, h2]
  split <;> first | rfl | (rw [flds_congr hf])
theorem cells_set {cA : Nat → ClassId} {ad : Nat → Nat} {M M' : Mm} {i : Nat} {e : va_E} (hi : i < NN) (he : cel cA ad M' i = e) (h : ∀ j, j ≠ i → M'.1 j = M.1 j ∧ M'.2.1 j = M.2.1 j ∧ M'.2.2 j = M.2.2 j) : (cells cA ad M).set i (ad i, e) = cells cA ad M' := by
  apply List.ext_getElem?
  intro j
  by_cases hj : j = i
  · subst hj
    rw [cells_at hi, he, List.getElem?_set_self (by simp [cells, hi])]
  · rw [List.getElem?_set_ne (fun e => hj e.symm)]
    unfold cells
    rw [List.getElem?_map, List.getElem?_map]
    cases hr : (List.range NN)[j]? with
    | none => rfl
    | some q =>
      have hq : q = j := by
        have := List.getElem?_eq_some_iff.mp hr
        obtain ⟨hlt, he2⟩ := this
        simpa using he2.symm
      subst hq
      simp only [Option.map_some]
      rw [cel_congr (h q hj).1 (h q hj).2.1 (h q hj).2.2]
theorem setI_ne {M : Mm} {i k : Nat} {v : Int32} : ∀ j, j ≠ i → (setI M i k v).1 j = M.1 j ∧ (setI M i k v).2.1 j = M.2.1 j ∧ (setI M i k v).2.2 j = M.2.2 j := by
  intro j hj
  refine ⟨?_, rfl, rfl⟩
  funext q
  simp [setI, hj]
theorem setL_ne {M : Mm} {i k : Nat} {v : Int64} : ∀ j, j ≠ i → (setL M i k v).1 j = M.1 j ∧ (setL M i k v).2.1 j = M.2.1 j ∧ (setL M i k v).2.2 j = M.2.2 j := by
  intro j hj
  refine ⟨rfl, ?_, rfl⟩
  funext q
  simp [setL, hj]
theorem setP_ne {M : Mm} {i k v : Nat} : ∀ j, j ≠ i → (setP M i k v).1 j = M.1 j ∧ (setP M i k v).2.1 j = M.2.1 j ∧ (setP M i k v).2.2 j = M.2.2 j := by
  intro j hj
  refine ⟨rfl, rfl, ?_⟩
  funext q
  simp [setP, hj]
theorem cel_obj {cA : Nat → ClassId} {ad : Nat → Nat} {M : Mm} {i c : Nat} {fs : List (Nat × Nat)} (h : shp i = (0, c, fs)) : cel cA ad M i = .inr (c, flds ad M i 0 fs) := by simp [cel, h]
theorem cel_ia {cA : Nat → ClassId} {ad : Nat → Nat} {M : Mm} {i n : Nat} {bs : List (Nat × Nat)} (h : shp i = (1, n, bs)) : cel cA ad M i = .inl (cA 0, n, .inl (M.1 i)) := by simp [cel, h]
theorem cel_la {cA : Nat → ClassId} {ad : Nat → Nat} {M : Mm} {i n : Nat} {bs : List (Nat × Nat)} (h : shp i = (2, n, bs)) : cel cA ad M i = .inl (cA 1, n, .inr (.inl (M.2.1 i))) := by simp [cel, h]
theorem cel_za {cA : Nat → ClassId} {ad : Nat → Nat} {M : Mm} {i n : Nat} {bs : List (Nat × Nat)} (h : shp i = (3, n, bs)) : cel cA ad M i = .inl (cA 2, n, .inl (M.1 i)) := by simp [cel, h]
theorem cel_ma {cA : Nat → ClassId} {ad : Nat → Nat} {M : Mm} {i n : Nat} {bs : List (Nat × Nat)} (h : shp i = (4, n, bs)) : cel cA ad M i = .inl (cA 3, n, .inr (.inr (.inr (.inr (rfa ad bs))))) := by simp [cel, h]
theorem cel_sa {cA : Nat → ClassId} {ad : Nat → Nat} {M : Mm} {i n : Nat} {bs : List (Nat × Nat)} (h : shp i = (5, n, bs)) : cel cA ad M i = .inl (cA 4, n, .inr (.inr (.inr (.inr (rfa ad bs))))) := by simp [cel, h]
/-- the cells' addresses -/
def A0 (ad : Nat → Nat) : Nat → Prop := fun q => ∃ i, i < NN ∧ q = ad i
/-- ids of cells and of the words' constants, whose addresses differ -/
def okId (i : Nat) : Prop := i < NN ∨ (2000 ≤ i ∧ i < 2025)
def GI (G : Gt) : Prop := ∀ i j, okId i → okId j → G.ad i = G.ad j → i = j
theorem cells_D {cA : Nat → ClassId} {ad : Nat → Nat} {M : Mm} (h : ∀ i j, i < NN → j < NN → ad i = ad j → i = j) : va_D (A0 ad) (cells cA ad M) := by
  have key : ∀ (k : Nat) (q : Nat × va_E), (cells cA ad M)[k]? = some q → k < NN ∧ q.1 = ad k := by
    intro k q hk
    have hl : k < NN := by
      have := (List.getElem?_eq_some_iff.mp hk).1
      simpa [cells] using this
    rw [cells_at hl] at hk
    cases hk
    exact ⟨hl, rfl⟩
  refine ⟨fun i j p q hi hj e => ?_, fun k q hk => ⟨k, (key k q hk).1, (key k q hk).2⟩⟩
  obtain ⟨h1, h2⟩ := key i p hi
  obtain ⟨h3, h4⟩ := key j q hj
  exact h i j h1 h3 (by rw [← h2, ← h4, e])
abbrev tysG (G : Gt) : List (ClassId × FieldType) := [(G.cA 0, .int), (G.cA 1, .long), (G.cA 2, .boolean), (G.cA 3, .object "MurmurSheds$Mark"), (G.cA 4, .object "MurmurSheds$Standing")]
/-- what the tables say -/
def KU (G : Gt) (U : State) : Prop := va_K G.D vwCl (tysG G) U ∧ ∀ w ∈ nwl, va_Nw w U
def wNames : List String := ["NAME", "SHED", "HEAT", "CROWNS", "NEAR", "STAGE", "WANTS", "TO", "FROST", "ROOF", "GROWS", "NIGHT", "LIGHT", "PULL", "PLAIN", "EARLY", "SHY", "WILD", "NOT", "AND", "OR", "WARM", "TALL", "MANY", "DATE"]
def wLet : List Int64 := [0, 379948, 161156, 52925068, 279252, 10491962, 12253591, 555, 3554408, 365640, 4085956, 7622660, 6559778, 330573, 8740238, 2690359, 14092, 459598, 10631, 1111, 423, 453937, 394725, 257011, 80006]
def wRes : List Int32 := [0, 1, 1, 1, 1, 1, 1, 1, 1, 1, 1, 1, 1, 1, 1, 1, 1, 1, 1, 1, 1, 0, 0, 0, 0]
/-- what is only read: the script (2200), the words' constants (2000 ..), their row (2100), a text (2300, its bytes 2301) -/
def RO (G : Gt) (U : State) (H : Heap) : Prop :=
  (va_X (G.ad 2200) G.L G.xs U H ∧ ¬ A0 G.ad (G.ad 2200)) ∧
  va_En "MurmurSheds$Word" "LMurmurSheds$Word;" wNames [] (fun k => G.ad (2000 + k)) (A0 G.ad) U H ∧
  va_Ef 25 "MurmurSheds$Word" "letters" "J" (fun k => .long (wLet.getD k 0)) (fun k => G.ad (2000 + k)) (A0 G.ad) U H ∧
  va_Ef 25 "MurmurSheds$Word" "reserved" "Z" (fun k => .int (wRes.getD k 0)) (fun k => G.ad (2000 + k)) (A0 G.ad) U H ∧
  va_Z "MurmurSheds" "WORDS" "[LMurmurSheds$Word;" (.ref (G.ad 2100)) (A0 G.ad) U H ∧
  va_T (.object "MurmurSheds$Word") (G.ad 2100) 25 (fun j => .ref (G.ad (2000 + j))) (A0 G.ad) U H ∧
  vk_S 1 [8] [[40, 41, 60, 61, 43, 45, 42, 59]] (fun _ => G.ad 2300) (fun _ => G.ad 2301) (A0 G.ad) U H ∧
  va_Z "java/lang/String" "COMPACT_STRINGS" "Z" (.int 1) (A0 G.ad) U H
/-- the text's entry in the pool -/
def RT (G : Gt) (U : State) : Prop := vk_R "MurmurSheds$Tokens" 64 "()<=+-*;" (G.ad 2300) U
theorem RO.moved {G : Gt} {u U : State} {H : Heap} (hvm : u.vm.Alike U.vm) (h : RO G u H) : RO G U H :=
  ⟨⟨va_X.moved hvm h.1.1, h.1.2⟩, va_En.moved hvm h.2.1, va_Ef.moved hvm h.2.2.1, va_Ef.moved hvm h.2.2.2.1, va_Z.moved hvm h.2.2.2.2.1, va_T.moved hvm h.2.2.2.2.2.1, vk_S.moved hvm h.2.2.2.2.2.2.1, va_Z.moved hvm h.2.2.2.2.2.2.2⟩
theorem RO.kept {G : Gt} {U : State} {H H1 : Heap} (h : RO G U H) (hq : ∀ a : Nat, a < H.size → ¬ A0 G.ad a → H1[a]? = H[a]?) : RO G U H1 := by
  refine ⟨⟨?_, h.1.2⟩, h.2.1.kept hq, h.2.2.1.kept hq, h.2.2.2.1.kept hq, h.2.2.2.2.1.kept hq, h.2.2.2.2.2.1.kept hq, h.2.2.2.2.2.2.1.kept hq, h.2.2.2.2.2.2.2.kept hq⟩
  obtain ⟨scr, h1, h2⟩ := h.1.1
  exact ⟨scr, by rw [hq _ (Array.getElem?_eq_some_iff.mp h1).1 h.1.2]; exact h1, h2⟩
theorem nest_warm {s U : State} (hW : s.WarmedH U.vm) (h : ∀ w ∈ nwl, va_Nw w s) : ∀ w ∈ nwl, va_Nw w U := by
  intro w hw
  have h1 := h w hw
  have h2 : isNest w = true := (List.mem_filter.mp hw).2
  unfold isNest at h2
  split at h2
  · exact va_Nw.warmF hW h1
  · exact va_Nw.warmM hW h1
  · cases h2
theorem nest_same {u U : State} (hv : u.vm = U.vm) (h : ∀ w ∈ nwl, va_Nw w u) : ∀ w ∈ nwl, va_Nw w U := by
  intro w hw
  have h1 := h w hw
  have h2 : isNest w = true := (List.mem_filter.mp hw).2
  unfold isNest at h2
  split at h2
  · exact va_Nw.same rfl hv h1
  · exact va_Nw.same rfl hv h1
  · cases h2
def rmd (d : Nat) : Room := { frames := d, cells := 0, slots := 0, locals := 80 * d }
/-- the start of a contract -/
def PW (G : Gt) (M : Mm) (U : State) : Prop := va_P G.D vwCl (cells G.cA G.ad M) U.heap ∧ KU G U ∧ RO G U U.heap ∧ RT G U ∧ GI G
/-- the end of a contract -/
def Qr (G : Gt) (Q : Option Value → Mm → Prop) : Array Value → State → Outcome → State → Prop := fun _ st o t =>
  ∃ r M', Q r M' ∧ o = .returned (r.map (tv G.ad)) ∧ va_P G.D vwCl (cells G.cA G.ad M') t.heap ∧ va_F (A0 G.ad) st t
def Call (G : Gt) (d : Nat) (mi : Mi) (as : List Value) (M : Mm) (Q : Option Value → Mm → Prop) : Prop :=
  Met G.1 mi.1 (wsm mi) (rmd d) (va_Pc (as.map (tv G.ad)) (PW G M)) (Qr G Q) 0 0 (A0 G.ad)
/-- a method's return: the instruction, the answer -/
def retAt (mi : Mi) (pc : Nat) : Option Value → Prop
  | none => mi.2.2.2 = none ∧ decode mi.2.1 pc = .ok (.return_, 1)
  | some (.int v) => decode mi.2.1 pc = .ok (.ireturn, 1) ∧ ∃ ty, mi.2.2.2 = some ty ∧ narrow ty (.int v) = .int v
  | some (.long _) => decode mi.2.1 pc = .ok (.lreturn, 1) ∧ mi.2.2.2 = some .long
  | some (.ref _) => decode mi.2.1 pc = .ok (.areturn, 1) ∧ ∃ n, mi.2.2.2 = some (.object n)
  | some .null => decode mi.2.1 pc = .ok (.areturn, 1) ∧ ∃ n, mi.2.2.2 = some (.object n)
  | some _ => False
/-- where a method runs: the machine, its tables, its room, what is behind its return -/
def Cx (G : Gt) (d : Nat) (mi : Mi) (Q : Option Value → Mm → Prop) (p : Program) (e : Env) (s : State) (m : MethodId) (args : Array Value) (below : List Frame) (meth : Method) (c : Code) (R : Room) (Z : State → Prop) (k0 n0 : Nat) : Prop :=
  (p.tables.exec = Jvm.exec ∧ c.code = mi.2.1 ∧ c.maxLocals = mi.2.2.1 ∧ s.vm.findClass mi.1.cls = some m.cls ∧ (∀ w ∈ wsm mi, w.before args s = true) ∧ KU G s ∧ RO G s s.heap ∧ RT G s ∧ GI G) ∧
  (d ≤ R.frames ∧ 80 * d ≤ R.locals ∧ k0 ≤ R.cells ∧ n0 ≤ R.slots) ∧
  ∀ (pc : Nat) (H : Heap) (locs : List Loc) (lsA : Array Slot) (r : Option Value) (M : Mm), retAt mi pc r → Q r M → va_P G.D vwCl (cells G.cA G.ad M) H → va_S (A0 G.ad) s.heap H locs →
    W p G.1 e R s m args below meth c H locs k0 n0 Z (F0 m pc lsA (r.toList.map (tv G.ad)))
def Ev (G : Gt) (d : Nat) (mi : Mi) (pc : Nat) (ls st : List Value) (M : Mm) (Q : Option Value → Mm → Prop) : Prop :=
  ∀ (p : Program) (e : Env) (s : State) (m : MethodId) (args : Array Value) (below : List Frame) (meth : Method) (c : Code) (R : Room) (Z : State → Prop) (k0 n0 : Nat) (H : Heap) (locs : List Loc) (lsA : Array Slot),
    Cx G d mi Q p e s m args below meth c R Z k0 n0 → va_P G.D vwCl (cells G.cA G.ad M) H → va_S (A0 G.ad) s.heap H locs → lr G.ad lsA mi.2.2.1 ls →
    W p G.1 e R s m args below meth c H locs k0 n0 Z (F0 m pc lsA (st.map (tv G.ad)))
theorem RO.at {G : Gt} {s : State} {H : Heap} {locs : List Loc} (h : RO G s s.heap) (hS : va_S (A0 G.ad) s.heap H locs) : RO G s H := h.kept hS.2.1
theorem PW_blind {G : Gt} {M : Mm} {av : List Value} : FrameBlind (va_Pc av (PW G M)) := by
  intro a U g mk h
  obtain ⟨h0, h1, h2, h3, h4, h5⟩ := h
  exact ⟨h0, h1, ⟨va_K.moved (u := U) (U := U.calling g mk a) (Vm.Alike.refl U.vm) h2.1, nest_same (u := U) (U := U.calling g mk a) rfl h2.2⟩, RO.moved (u := U) (U := U.calling g mk a) (Vm.Alike.refl U.vm) h3, vk_R.same (u := U) (U := U.calling g mk a) rfl h4, h5⟩
theorem Call.intro {G : Gt} {d : Nat} {mi : Mi} {as : List Value} {M : Mm} {Q : Option Value → Mm → Prop} (hy : plainName mi.1.cls = true) (hlen : (entA as).length ≤ mi.2.2.1) (k : Ev G d mi 0 (entL as mi.2.2.1) [] M Q) : Call G d mi as M Q := by
  refine Met.ofW (cc := mi.2.1) (maxL := mi.2.2.1) (ret := mi.2.2.2) hy rfl ?_
  intro p e s m args below meth c s₁ B hml hv
  obtain ⟨rfl, hP, hK, hRO, hRT, hG⟩ := hv
  rw [lg_entry_eq]
  have hx := B.exec
  have hb := B.bytes
  have hlk := B.notSynchronized
  refine k p e s m _ below meth c _ _ 0 0 s.heap [] _ ⟨⟨hx, hb, hml, findClass_of_methodNamed B.named, atoms_spec (ws := wsm mi) B.pre, hK, hRO, hRT, hG⟩, ⟨Nat.le_refl _, Nat.le_refl _, Nat.zero_le _, Nat.zero_le _⟩, ?_⟩ hP va_S.rf (lr_ent G.ad as hlen)
  intro pc H locs lsA r M' hr hQ hP' hS'
  have hq : ∀ t : State, t.heap = H → Qr G Q (as.map (tv G.ad)).toArray s (.returned (r.map (tv G.ad))) t := fun t ht => ⟨r, M', hQ, rfl, by rw [ht]; exact hP', hS'.F ht⟩
  cases r with
  | none => exact W.vret hx hb (by rw [B.returns]; exact hr.1) (fun t ht _ => hq t ht) hS'.2.2 hr.2 hlk
  | some v =>
    cases v with
    | int v =>
      obtain ⟨h1, ty, h2, h3⟩ := hr
      exact W.zret hx hb (by rw [B.returns]; exact h2) h3 (fun t ht _ => hq t ht) hS'.2.2 h1 hlk
    | long v => exact W.lret hx hb (by rw [B.returns]; exact hr.2) (fun t ht _ => hq t ht) hS'.2.2 hr.1 hlk
    | ref v =>
      obtain ⟨h1, n, h2⟩ := hr
      exact W.aret hx hb (by rw [B.returns]; exact h2) (Or.inl ⟨n, rfl⟩) (Or.inr ⟨_, rfl⟩) (fun t ht _ => hq t ht) hS'.2.2 h1 hlk
    | null =>
      obtain ⟨h1, n, h2⟩ := hr
      exact W.aret hx hb (by rw [B.returns]; exact h2) (Or.inl ⟨n, rfl⟩) (Or.inl rfl) (fun t ht _ => hq t ht) hS'.2.2 h1 hlk
    | float v => exact hr.elim
    | double v => exact hr.elim
    | retAddr v => exact hr.elim
end PM2
