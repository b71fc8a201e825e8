section GST
/-- what the Statement gives of the start -/
def lw_C : List Cond := flatC (Jvm.Cond.and given_1 narrow_1)
theorem ws_exa : ∀ i, i < 25 → Jvm.Cond.exactly (.static "MurmurSheds$Word" (wNames.getD i "") "LMurmurSheds$Word;") "MurmurSheds$Word" ∈ lw_C := by decide +kernel
theorem ws_ord : ∀ i, i < 25 → Jvm.Cond.eq (.field (.static "MurmurSheds$Word" (wNames.getD i "") "LMurmurSheds$Word;") "java/lang/Enum" "ordinal" "I") (.int (Int32.ofNat i)) ∈ lw_C := by decide +kernel
theorem ws_let : ∀ i, i < 25 → Jvm.Cond.eq (.field (.static "MurmurSheds$Word" (wNames.getD i "") "LMurmurSheds$Word;") "MurmurSheds$Word" "letters" "J") (.long (wLet.getD i 0)) ∈ lw_C := by decide +kernel
theorem ws_res : ∀ i, i < 25 → Jvm.Cond.eq (.field (.static "MurmurSheds$Word" (wNames.getD i "") "LMurmurSheds$Word;") "MurmurSheds$Word" "reserved" "Z") (.int (wRes.getD i 0)) ∈ lw_C := by decide +kernel
theorem ws_elt : ∀ i, i < 25 → Jvm.Cond.eq (.elem (.static "MurmurSheds" "WORDS" "[LMurmurSheds$Word;") (.int (Int32.ofNat i))) (.static "MurmurSheds$Word" (wNames.getD i "") "LMurmurSheds$Word;") ∈ lw_C := by decide +kernel
theorem ws_lay : ∀ i, i < 25 → Jvm.Cond.laysStatic "MurmurSheds$Word" (wNames.getD i "") "LMurmurSheds$Word;" ∈ tables_1 := by decide +kernel
def txB : List (List Int32) := [[40, 41, 60, 61, 43, 45, 42, 59]]
theorem ws_byt : ∀ j, j < 8 → Jvm.Cond.eq (.elem (.field (.string "MurmurSheds$Tokens" 64) "java/lang/String" "value" "[B") (.int (Int32.ofNat j))) (.int ((txB.getD 0 []).getD j 0)) ∈ lw_C := by decide +kernel
theorem tb_in {w : Cond} (i : Nat) (h : tables_1[i]? = some w) : w ∈ lw_tbl := List.mem_append_right _ (List.mem_of_getElem? h)
section
variable {args : Array Value} {s : State} {A : Nat → Prop}
/-- the words' constants -/
theorem wd_start (hts : ∀ w ∈ lw_tbl, w.before args s = true) (hfl : ∀ w ∈ lw_C, w.before args s = true) (hA : ∀ a : Nat, a < s.heap.size → ¬ A a) :
    ∃ ad : Nat → Nat, va_En "MurmurSheds$Word" "LMurmurSheds$Word;" wNames [] ad A s s.heap ∧ (∀ i, i < 25 → (Term.static "MurmurSheds$Word" (wNames.getD i "") "LMurmurSheds$Word;").eval args s none [] s = some (.ref (ad i))) ∧ ∀ i, i < 25 → ad i < s.heap.size := by
  have h0 : ∀ i : Nat, ∃ t : Nat, i < 25 → (Term.static "MurmurSheds$Word" (wNames.getD i "") "LMurmurSheds$Word;").eval args s none [] s = some (.ref t) ∧ va_O "MurmurSheds$Word" t A s s.heap ∧ t < s.heap.size := by
    intro i
    by_cases hi : i < 25
    · obtain ⟨a, c, cell, k, q1, q2, q3, q4, q5, q6, -⟩ := Cond.exactly_spec (hfl _ (ws_exa i hi))
      have hl := (Array.getElem?_eq_some_iff.mp q3).1
      exact ⟨a, fun _ => ⟨q1, ⟨cell, q3, q5, by rw [q6]; exact q2, hA a hl⟩, hl⟩⟩
    · exact ⟨0, fun h => absurd h hi⟩
  obtain ⟨ad, had⟩ := Classical.axiomOfChoice h0
  refine ⟨ad, ⟨fun i hi => ?_, fun i j hi hj e => ?_⟩, fun i hi => (had i hi).1, fun i hi => (had i hi).2.2⟩
  · have hi' : i < 25 := hi
    exact ⟨va_Zref (hts _ (List.mem_append_right _ (ws_lay i hi'))) (hts _ (tb_in 4 (by decide +kernel))) (had i hi').1 hA, (had i hi').2.1, fun q hq => nomatch hq⟩
  · have hi' : i < 25 := hi
    have hj' : j < 25 := hj
    have h1 := va_eqt (hfl _ (ws_ord i hi'))
    have h2 := va_eqt (hfl _ (ws_ord j hj'))
    rw [va_fe (had i hi').1] at h1
    rw [va_fe (had j hj').1, ← e, h1] at h2
    have h3 : nI i = nI j := by
      injection h2 with h2
      injection h2
    exact nI_injN (by omega) (by omega) h3
theorem wd_row (hts : ∀ w ∈ lw_tbl, w.before args s = true) (hfl : ∀ w ∈ lw_C, w.before args s = true) (hA : ∀ a : Nat, a < s.heap.size → ¬ A a) {ad : Nat → Nat} (hev : ∀ i, i < 25 → (Term.static "MurmurSheds$Word" (wNames.getD i "") "LMurmurSheds$Word;").eval args s none [] s = some (.ref (ad i))) :
    ∃ t : Nat, va_Z "MurmurSheds" "WORDS" "[LMurmurSheds$Word;" (.ref t) A s s.heap ∧ va_T (.object "MurmurSheds$Word") t 25 (fun j => .ref (ad j)) A s s.heap := by
  obtain ⟨t, h1, h2⟩ := va_Tof (A := A) (tm := .static "MurmurSheds" "WORDS" "[LMurmurSheds$Word;") (ty := .object "MurmurSheds$Word") (N := 25) (f := fun j => .ref (ad j)) (by decide) (hfl _ (by decide +kernel)) (va_eqt (hfl (Jvm.Cond.eq (.length (.static "MurmurSheds" "WORDS" "[LMurmurSheds$Word;")) (.int 25)) (by decide +kernel))) (fun j hj => by
    obtain ⟨y, q1, q2⟩ := Cond.eq_one (hfl _ (ws_elt j hj))
    rw [hev j hj] at q2
    cases q2
    exact q1) hA
  exact ⟨t, va_Zref (hts _ (tb_in 387 (by decide +kernel))) (hts _ (tb_in 1 (by decide +kernel))) h1 hA, h2⟩
/-- the text of the signs -/
theorem tx_start (hfl : ∀ w ∈ lw_C, w.before args s = true) (hA : ∀ a : Nat, a < s.heap.size → ¬ A a) : ∃ a v : Nat, vk_S 1 [8] txB (fun _ => a) (fun _ => v) A s s.heap ∧ (Term.string "MurmurSheds$Tokens" 64).eval args s none [] s = some (.ref a) := by
  have e0 : ∀ {i : Nat}, i < 1 → i = 0 := fun h => by omega
  obtain ⟨adK, adV, h1, h2⟩ := vk_Sof (A := A) (args := args) (s := s) (N := 1) (tm := fun _ => .string "MurmurSheds$Tokens" 64) (len := [8]) (byt := txB) (fun i hi => by rw [e0 hi]; decide) (fun i _ => hfl _ (by decide +kernel)) (fun i _ => hfl _ (by decide +kernel)) (fun i _ => hfl _ (by decide +kernel)) (fun i hi => by rw [e0 hi]; exact hfl (Jvm.Cond.eq (.length (.field (.string "MurmurSheds$Tokens" 64) "java/lang/String" "value" "[B")) (.int 8)) (by decide +kernel)) (fun i hi j hj => by rw [e0 hi] at hj ⊢; exact hfl _ (ws_byt j hj)) (fun i j hi hj hne => absurd ((e0 hi).trans (e0 hj).symm) hne) hA
  refine ⟨adK 0, adV 0, ⟨fun i hi => ?_, fun i j hi hj _ => (e0 hi).trans (e0 hj).symm⟩, h2 0 (by decide)⟩
  have := h1.1 i hi
  rw [e0 hi] at this ⊢
  exact this
end
end GST
