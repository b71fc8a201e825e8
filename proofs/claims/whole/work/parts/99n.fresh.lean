section FRS
def M00 : Mm := (fun _ _ => 0, fun _ _ => 0, fun _ _ => 0)
def F00 : Pf := fun _ _ => false
/-- the memory and the flags when all is made -/
def Mf : Mm := setI (M_X10 M00) 240 3 30
def Ff : Pf := F_X11 (F_X10 F00)
def fullB (F : Pf) (i : Nat) : Bool := match shp i with
  | (0, _, fs) => (List.range fs.length).all (fun k => decide ((fs.getD k (0, 0)).1 < 2) || F i k)
  | (4, n, _) => (List.range n).all (fun k => F i k)
  | (5, n, _) => (List.range n).all (fun k => F i k)
  | _ => true
theorem Ff_full : (List.range NN).all (fun i => fullB Ff i) = true := by decide +kernel
theorem arrV_cg {c : ClassId} {n : Nat} {f g : Nat → Value} (h : ∀ j, j < n → f j = g j) : arrV c n f = arrV c n g := by
  unfold arrV
  congr 1
  apply Array.ext
  · simp
  · intro i h1 h2
    simp only [Array.getElem_ofFn]
    exact h i (by simpa using h1)
theorem shp_l6 : (List.range NN).all (fun i => decide ((shp i).1 < 6)) = true := by decide +kernel
theorem shp_no6 (i z b : Nat) (c : List (Nat × Nat)) (hi : i < NN) : ¬ shp i = (z + 6, b, c) := by
  intro h
  have h1 := of_decide_eq_true (List.all_eq_true.mp shp_l6 i (List.mem_range.mpr hi))
  rw [h] at h1
  have h2 : z + 6 < 6 := h1
  omega
theorem va_full {G : Gt} {M : Mm} {F : Pf} {i : Nat} {H : Heap} (hi : i < NN) (hf : fullB F i = true) (h : va_at G.D vwCl (G.ad i, celN G.cA G.ad M F i) H) : va_at G.D vwCl (G.ad i, cel G.cA G.ad M i) H := by
  have key : ∀ (a b : Nat) (c : List (Nat × Nat)), shp i = (a, b, c) → va_at G.D vwCl (G.ad i, cel G.cA G.ad M i) H := by
    intro a b c hs
    have hf' := hf
    unfold fullB at hf'
    rw [hs] at hf'
    match a, hs, hf' with
    | 0, hs, hf' =>
      have e : fldsN G.ad M F i 0 c = flds G.ad M i 0 c := by
        apply List.ext_getElem?
        intro k
        cases hr : c[k]? with
        | none =>
          have h1 : c.length ≤ k := List.getElem?_eq_none_iff.mp hr
          rw [List.getElem?_eq_none (by rw [fldsN_len]; exact h1), List.getElem?_eq_none (by rw [flds_len]; exact h1)]
        | some q =>
          rw [fldsN_get c 0 k q hr, flds_get c 0 k q hr, Nat.zero_add]
          have hk : k < c.length := (List.getElem?_eq_some_iff.mp hr).1
          have h2 := List.all_eq_true.mp hf' k (List.mem_range.mpr hk)
          rw [List.getD_eq_getElem?_getD, hr] at h2
          dsimp only [Option.getD_some] at h2
          congr 1
          obtain ⟨q1, q2⟩ := q
          unfold fvN fv
          match q1 with
          | 0 => rfl
          | 1 => rfl
          | 2 =>
            have h3 : F i k = true := by simpa using h2
            show (if F i k = true then Value.ref (G.ad q2) else .null) = _
            rw [if_pos h3]
            rfl
          | z + 3 =>
            have h3 : F i k = true := by
              rw [decide_eq_false (by show ¬ z + 3 < 2; omega), Bool.false_or] at h2
              exact h2
            show (if F i k = true then Value.ref (G.ad (M.2.2 i k)) else .null) = _
            rw [if_pos h3]
            rfl
      rw [celN_obj hs, e] at h
      rw [cel_obj hs]
      exact h
    | 1, hs, _ => rw [celN_ia hs] at h; rw [cel_ia hs]; exact h
    | 2, hs, _ => rw [celN_la hs] at h; rw [cel_la hs]; exact h
    | 3, hs, _ => rw [celN_za hs] at h; rw [cel_za hs]; exact h
    | 4, hs, hf' =>
      rw [celN_ma hs] at h
      rw [cel_ma hs]
      have h1 : H[G.ad i]? = some (vp_cell (G.cA 3) (b, .inr (.inr (.inr (.inr (rfaN G.ad F i c)))))) := h
      show H[G.ad i]? = some (vp_cell (G.cA 3) (b, .inr (.inr (.inr (.inr (rfa G.ad c))))))
      rw [h1, vp_cell_q, vp_cell_q]
      congr 1
      refine arrV_cg (fun j hj => ?_)
      unfold rfaN
      rw [if_pos (List.all_eq_true.mp hf' j (List.mem_range.mpr hj))]
    | 5, hs, hf' =>
      rw [celN_sa hs] at h
      rw [cel_sa hs]
      have h1 : H[G.ad i]? = some (vp_cell (G.cA 4) (b, .inr (.inr (.inr (.inr (rfaN G.ad F i c)))))) := h
      show H[G.ad i]? = some (vp_cell (G.cA 4) (b, .inr (.inr (.inr (.inr (rfa G.ad c))))))
      rw [h1, vp_cell_q, vp_cell_q]
      congr 1
      refine arrV_cg (fun j hj => ?_)
      unfold rfaN
      rw [if_pos (List.all_eq_true.mp hf' j (List.mem_range.mpr hj))]
    | z + 6, hs, _ =>
      exact absurd hs (shp_no6 i z b c hi)
  exact key _ _ _ rfl
/-- all is made: the picture that the calls start from -/
theorem HN.full {b0 : Nat} {G : Gt} {M : Mm} {F : Pf} {H : Heap} (h : HN b0 G NN M F H) (hf : ∀ i, i < NN → fullB F i = true) : va_P G.D vwCl (cells G.cA G.ad M) H := by
  intro k q hq
  have hk : k < NN := by
    have := (List.getElem?_eq_some_iff.mp hq).1
    simpa [cells] using this
  rw [cells_at hk] at hq
  cases hq
  have h1 := h.2.1 (ordN k) _ (cellsN_at (ord_lt hk))
  rw [al_ord] at h1
  exact va_full hk (hf k hk) h1
theorem Ff_all : ∀ i, i < NN → fullB Ff i = true := fun i hi => List.all_eq_true.mp Ff_full i (List.mem_range.mpr hi)
/-- how it stands when nothing was called -/
def E00 : Gs := ((0, fun _ => 0), (0, 0, 0, 30, fun _ _ => 0, fun _ _ => 0, fun a _ _ _ => a), emR, (0, 0, fun _ => 0, fun _ => 0, fun _ => 0, fun _ => 0), emR, fun _ => none, (0, fun _ => (0, 0, fun _ => 0, fun _ => 0, fun _ => 0, fun _ => 0)))
theorem no0 {P : Nat → Prop} : ∀ k, k < 0 → P k := fun k hk => absurd hk (Nat.not_lt_zero k)
theorem XI00 : XI Mf E00 := by
  refine ⟨8, 22, 36, 40, 0, ⟨rfl, rfl, by decide, by decide, by decide⟩, ⟨rfl, rfl, by decide, by decide, by decide⟩, ⟨⟨rfl, by decide⟩, ⟨rfl, by decide⟩, ⟨rfl, by decide⟩, rfl, no0, no0, no0, fun h => absurd h (by decide)⟩, ⟨rfl, by decide, no0⟩, ⟨rfl, rfl, rfl, no0⟩, ⟨rfl, by decide, no0⟩, ?_, ⟨rfl, by decide, rfl, by decide, no0⟩, ⟨rfl, by decide, no0⟩⟩
  intro k hk
  show Mf.1 (62 + 16 * k) 0 = 0
  rcases k with _ | _ | _ | _ | k
  · rfl
  · rfl
  · rfl
  · rfl
  · omega
theorem RJ00 : RJ Mf E00 := by
  refine ⟨?_, ⟨0, 0, rfl, rfl, by decide, by decide, Or.inl ⟨by decide, fun _ _ _ _ => rfl⟩⟩, ⟨rfl, rfl, no0, ?_⟩, ⟨rfl, by decide, no0⟩, ⟨rfl, by decide, no0⟩, fun k _ => rfl, ⟨rfl, by decide, no0⟩, ⟨rfl, by decide, no0⟩⟩
  · exact ⟨⟨rfl, by decide⟩, ⟨rfl, by decide⟩, ⟨rfl, by decide⟩, rfl, no0, no0, no0⟩
  · intro j _ _
    rfl
theorem IV00 : IV E00 0 := by
  refine ⟨TI.zero, ⟨fun i j hi => absurd hi (Nat.not_lt_zero i), no0, by decide, ⟨30, rfl, by decide, no0, 0, rfl, Nat.le_refl _⟩⟩, no0, no0, ⟨⟨30, rfl, by decide, no0, 0, rfl, Nat.le_refl _⟩, no0⟩, no0, fun k q hq => ?_⟩
  cases hq
end FRS
