section RST
/-- lines, in the reference's r-th place -/
def RLi (M : Mm) (r : Nat) (W : Rv) : Prop := M.1 265 r = nI W.1 ∧ W.1 ≤ 40 ∧ ∀ k, k < W.1 → M.1 266 (40 * r + k) = W.2.1 k ∧ (¬ W.2.1 k = 0 → M.1 267 (40 * r + k) = W.2.2.1 k) ∧ (W.2.1 k = 1 ∨ W.2.1 k = 3 → M.1 268 (40 * r + k) = W.2.2.2 k)
/-- what was seen, in its r-th place -/
def RS (M : Mm) (r : Nat) (V : Rv) : Prop := M.1 269 r = nI V.1 ∧ V.1 ≤ 8 ∧ ∀ k, k < V.1 → M.1 270 (8 * r + k) = V.2.1 k ∧ M.1 271 (8 * r + k) = V.2.2.1 k ∧ M.1 272 (8 * r + k) = V.2.2.2 k
def RM (M : Mm) (k n : Nat) : Option (Sv × Rv × Rv) → Prop
  | none => M.1 279 k = 0
  | some q => M.1 279 k = 1 ∧ RW M 277 (26 * k) n q.1 ∧ RLi M (1 + k) q.2.1 ∧ RS M (1 + k) q.2.2
/-- the reference holds it -/
def RJ (M : Mm) (E : Gs) : Prop :=
  RY M E.Y ∧ RLw M E.Y.gE ∧ RW M 273 0 E.Y.n E.S ∧ RLi M 0 E.W ∧ RS M 0 E.V ∧ (∀ k, k < 4 → RM M k E.Y.n (E.K k)) ∧
  (M.1 238 54 = nI E.un ∧ E.un ≤ 16 ∧ ∀ k, k < E.un → RW M 278 (26 * k) E.Y.n (E.us k)) ∧
  (M.1 238 1 = nI E.tl ∧ E.tl ≤ 1000 ∧ ∀ k, k < E.tl → M.1 239 k = E.tc k)
/-- what only tries touch -/
def rsd (i : Nat) : Prop := i = 238 ∨ (253 ≤ i ∧ i ≤ 264) ∨ (273 ≤ i ∧ i ≤ 276) ∨ (280 ≤ i ∧ i ≤ 284)
def RD (M M' : Mm) : Prop := M'.2.2 = M.2.2 ∧ (∀ i, ¬ i = 238 → M'.2.1 i = M.2.1 i) ∧ (∀ i, ¬ rsd i → M'.1 i = M.1 i) ∧ ∀ k, k = 1 ∨ k = 54 → M'.1 238 k = M.1 238 k
def RC (M M' : Mm) : Prop := RD M M' ∧ ∀ k, k < 26 → M'.1 273 k = M.1 273 k
theorem RD.rfl' {M : Mm} : RD M M := ⟨rfl, fun _ _ => rfl, fun _ _ => rfl, fun _ _ => rfl⟩
theorem RC.rfl' {M : Mm} : RC M M := ⟨RD.rfl', fun _ _ => rfl⟩
theorem RD.trans {A B C : Mm} (h : RD A B) (k : RD B C) : RD A C := ⟨k.1.trans h.1, fun i a => (k.2.1 i a).trans (h.2.1 i a), fun i a => (k.2.2.1 i a).trans (h.2.2.1 i a), fun i a => (k.2.2.2 i a).trans (h.2.2.2 i a)⟩
theorem RC.trans {A B C : Mm} (h : RC A B) (k : RC B C) : RC A C := ⟨h.1.trans k.1, fun i a => (k.2 i a).trans (h.2 i a)⟩
theorem PF.rd {A B : Mm} (h : PF A B) : RD A B := ⟨by rw [h.1], fun i _ => by rw [h.1], fun i q => h.2 i (fun a => q (by unfold rsd; omega)) (fun a => q (by unfold rsd; omega)) (fun a => q (by unfold rsd; omega)) (fun a => q (by unfold rsd; omega)), fun k _ => by rw [h.2 238 (by omega) (by omega) (by omega) (by omega)]⟩
theorem O3.rd {A B : Mm} (h : O3 A B) : RD A B := h.pf.rd
/-- a scratch number, not in the object -/
theorem RD.i {M Mc : Mm} (h : RD M Mc) {c k : Nat} {v : Int32} (hc : rsd c ∧ ¬ c = 238) : RD M (setI Mc c k v) := ⟨h.1, h.2.1, fun i q => by rw [← h.2.2.1 i q]; funext z; rw [setI_1, if_neg (fun x => q (by rw [x.1]; exact hc.1))], fun z q => by rw [setI_1, if_neg (fun x => hc.2 x.1.symm)]; exact h.2.2.2 z q⟩
theorem RD.f {M Mc : Mm} (h : RD M Mc) {k : Nat} {v : Int32} (hk : ¬ (k = 1 ∨ k = 54)) : RD M (setI Mc 238 k v) := ⟨h.1, h.2.1, fun i q => by rw [← h.2.2.1 i q]; funext z; rw [setI_1, if_neg (fun x => q (by rw [x.1]; unfold rsd; omega))], fun z q => by rw [setI_1, if_neg (fun x => hk (by rw [← x.2]; exact q))]; exact h.2.2.2 z q⟩
theorem RD.l {M Mc : Mm} (h : RD M Mc) {k : Nat} {v : Int64} : RD M (setL Mc 238 k v) := ⟨h.1, fun i q => by rw [← h.2.1 i q]; funext z; rw [setL_21, if_neg (fun x => q x.1)], h.2.2.1, h.2.2.2⟩
theorem RD.cp {M Mc : Mm} (h : RD M Mc) {a p t b n : Nat} (ht : rsd t ∧ ¬ t = 238) : RD M (cpR Mc a p t b n) := ⟨h.1, h.2.1, fun i q => by rw [cpR_ne (fun e => q (by rw [e]; exact ht.1))]; exact h.2.2.1 i q, fun z q => by rw [cpR_ne (fun e => ht.2 e.symm)]; exact h.2.2.2 z q⟩
theorem RC.i {M Mc : Mm} (h : RC M Mc) {c k : Nat} {v : Int32} (hc : rsd c ∧ ¬ c = 238 ∧ ¬ c = 273) : RC M (setI Mc c k v) := ⟨h.1.i ⟨hc.1, hc.2.1⟩, fun z q => by rw [setI_1, if_neg (fun x => hc.2.2 x.1.symm)]; exact h.2 z q⟩
theorem RC.f {M Mc : Mm} (h : RC M Mc) {k : Nat} {v : Int32} (hk : ¬ (k = 1 ∨ k = 54)) : RC M (setI Mc 238 k v) := ⟨h.1.f hk, fun z q => by rw [setI_1, if_neg (fun x => absurd x.1 (by decide))]; exact h.2 z q⟩
theorem RC.l {M Mc : Mm} (h : RC M Mc) {k : Nat} {v : Int64} : RC M (setL Mc 238 k v) := ⟨h.1.l, h.2⟩
theorem RD.ry {M M' : Mm} {Y : Yv} (h : RD M M') (hY : RY M Y) : RY M' Y := hY.congr (fun i a b => h.2.2.1 i (by unfold rsd; omega)) (fun i _ => h.2.1 i (by omega))
theorem RD.rl {M M' : Mm} {E : Int32 → Int32 → Int32 → Int32 → Int32} (h : RD M M') (hL : RLw M E) : RLw M' E := hL.congr (fun i a b => h.2.2.1 i (by unfold rsd; omega))
theorem RLi.congr {M M' : Mm} {r : Nat} {W : Rv} (h : RLi M r W) (h1 : ∀ i, 265 ≤ i → i ≤ 268 → M'.1 i = M.1 i) : RLi M' r W := by
  unfold RLi
  rw [h1 265 (by omega) (by omega), h1 266 (by omega) (by omega), h1 267 (by omega) (by omega), h1 268 (by omega) (by omega)]
  exact h
theorem RS.congr {M M' : Mm} {r : Nat} {W : Rv} (h : RS M r W) (h1 : ∀ i, 269 ≤ i → i ≤ 272 → M'.1 i = M.1 i) : RS M' r W := by
  unfold RS
  rw [h1 269 (by omega) (by omega), h1 270 (by omega) (by omega), h1 271 (by omega) (by omega), h1 272 (by omega) (by omega)]
  exact h
theorem RM.congr {M M' : Mm} {k n : Nat} {q : Option (Sv × Rv × Rv)} (h : RM M k n q) (h6 : n ≤ 6) (h1 : ∀ i, (265 ≤ i ∧ i ≤ 272) ∨ i = 277 ∨ i = 279 → M'.1 i = M.1 i) : RM M' k n q := by
  cases q with
  | none => unfold RM at h ⊢; rw [h1 279 (by omega)]; exact h
  | some q => exact ⟨by rw [h1 279 (by omega)]; exact h.1, h.2.1.congr h6 (fun k _ => by rw [h1 277 (by omega)]), h.2.2.1.congr (fun i a b => h1 i (by omega)), h.2.2.2.congr (fun i a b => h1 i (by omega))⟩
theorem RC.keep {M M' : Mm} {E : Gs} (h : RC M M') (hJ : RJ M E) : RJ M' E := by
  obtain ⟨hY, hL, hS, hW, hV, hK, ⟨hd, hd2, hU⟩, ⟨ht, ht2, htc⟩⟩ := hJ
  have h6 := hY.1.2
  exact ⟨h.1.ry hY, h.1.rl hL, hS.congr h6 (fun k hk => by rw [Nat.zero_add]; exact h.2 k hk), hW.congr (fun i a b => h.1.2.2.1 i (by unfold rsd; omega)), hV.congr (fun i a b => h.1.2.2.1 i (by unfold rsd; omega)), fun k hk => (hK k hk).congr h6 (fun i a => h.1.2.2.1 i (by unfold rsd; omega)), ⟨(h.1.2.2.2 54 (by omega)).trans hd, hd2, fun k hk => (hU k hk).congr h6 (fun q _ => by rw [h.1.2.2.1 278 (by unfold rsd; omega)])⟩, ⟨(h.1.2.2.2 1 (by omega)).trans ht, ht2, fun k hk => by rw [h.1.2.2.1 239 (by unfold rsd; omega)]; exact htc k hk⟩⟩
/-- nothing is thrown yet -/
theorem th0 {G : Gt} {d : Nat} {mi : Mi} {pc : Nat} {ls st : List Value} {M : Mm} {Q : Option Value → Mm → Prop} (k : ∀ M1, RC M M1 → Ev G d mi pc ls st M1 Q) : Ev G d mi pc ls st (setI M 238 0 0) Q := k _ (RC.rfl'.f (by omega))
/-- a try: the row at hand is kept in row x -/
def TB (x : Nat) (M Mc : Mm) (n : Nat) (S : Sv) : Prop := RD M Mc ∧ (∀ k, k < 26 → Mc.1 x k = M.1 273 k) ∧ RW Mc 273 0 n S
def tx (x : Nat) : Prop := 274 ≤ x ∧ x ≤ 276
theorem TB.start {x n : Nat} {M : Mm} {S : Sv} (hx : tx x) (h6 : n ≤ 6) (h : RW M 273 0 n S) : TB x M (cpR M 273 0 x 0 26) n S := by
  unfold tx at hx
  refine ⟨RD.rfl'.cp ⟨by unfold rsd; omega, by omega⟩, fun k hk => ?_, h.congr h6 (fun k _ => by rw [cpR_ne (by omega)])⟩
  have := cpR_eq (M := M) (a := 273) (p := 0) (t := x) (b := 0) hk
  rwa [Nat.zero_add] at this
theorem TB.back {x n : Nat} {M Mc : Mm} {S : Sv} (h : TB x M Mc n S) : RC M (cpR Mc x 0 273 0 26) :=
  ⟨h.1.cp ⟨by unfold rsd; omega, by omega⟩, fun k hk => by
    have := cpR_eq (M := Mc) (a := x) (p := 0) (t := 273) (b := 0) hk
    rw [Nat.zero_add] at this
    rw [this]; exact h.2.1 k hk⟩
/-- the row at hand comes back while the try goes on -/
theorem TB.again {x n : Nat} {M Mc : Mm} {S S0 : Sv} (hx : tx x) (h6 : n ≤ 6) (h : TB x M Mc n S) (h0 : RW M 273 0 n S0) : TB x M (cpR Mc x 0 273 0 26) n S0 := by
  unfold tx at hx
  refine ⟨h.back.1, fun k hk => by rw [cpR_ne (by omega)]; exact h.2.1 k hk, h0.congr h6 (fun k hk => by rw [Nat.zero_add]; exact h.back.2 k hk)⟩
theorem TB.pf {x n : Nat} {M Mc M1 : Mm} {S S1 : Sv} (hx : tx x) (h : TB x M Mc n S) (hP : PF Mc M1) (hR : RW M1 273 0 n S1) : TB x M M1 n S1 := by
  unfold tx at hx
  exact ⟨h.1.trans hP.rd, fun k hk => by rw [hP.2 x (by omega) (by omega) (by omega) (by omega)]; exact h.2.1 k hk, hR⟩
theorem TB.f {x n : Nat} {M Mc : Mm} {S : Sv} (h6 : n ≤ 6) (hx : tx x) (h : TB x M Mc n S) {k : Nat} {v : Int32} (hk : ¬ (k = 1 ∨ k = 54)) : TB x M (setI Mc 238 k v) n S := by
  unfold tx at hx
  exact ⟨h.1.f hk, fun k hk => by rw [setI_1, if_neg (by omega)]; exact h.2.1 k hk, h.2.2.congr h6 (fun k _ => by rw [setI_1, if_neg (by omega)])⟩
/-- nights tried as told -/
def TR (x : Nat) (M Mc : Mm) (Y : Yv) (S : Sv) (i : Nat) : Prop := TB x M Mc Y.n (itN Y S i) ∧ (0 < i → ∀ j, j < Y.n → Mc.1 280 j = growV Y (itN Y S (i - 1)) (frV Y (itN Y S (i - 1)).nights) j)
theorem TR.start {x : Nat} {M : Mm} {Y : Yv} {S : Sv} (hx : tx x) (h6 : Y.n ≤ 6) (h : RW M 273 0 Y.n S) : TR x M (cpR M 273 0 x 0 26) Y S 0 := ⟨TB.start hx h6 h, fun q => absurd q (by omega)⟩
theorem TR.next {x i : Nat} {M Mc M1 : Mm} {Y : Yv} {S : Sv} (hx : tx x) (h : TR x M Mc Y S i) (hP : PF Mc M1) (hR : RW M1 273 0 Y.n (nightV Y (itN Y S i))) (hg : ∀ j, j < Y.n → M1.1 280 j = growV Y (itN Y S i) (frV Y (itN Y S i).nights) j) : TR x M M1 Y S (i + 1) := ⟨h.1.pf hx hP hR, fun _ => hg⟩
theorem SI.nt {Y : Yv} {S : Sv} {T : Nat} (h : SI Y S T) (h6 : Y.n ≤ 6) (i : Nat) : ∃ t, (itN Y S i).nights = nI t ∧ t ≤ T + i := by
  obtain ⟨r, -, -, -, q⟩ := h.it h6 i
  exact q
theorem bt6 : ∀ s, s < 64 → ∀ j, j < 6 → (nI s &&& b1 (nI j) = 0 ↔ ¬ bitI (nI s) (nI j)) := by decide +kernel
theorem an63 : ∀ s, s < 64 → nI s &&& 63 = nI s := by decide +kernel
theorem popn_nat {Y : Yv} {S : Sv} (h6 : Y.n ≤ 6) : ∃ s, s < 64 ∧ popN Y S = nI s := by
  obtain ⟨s, hs, e⟩ := setB_nat (fun j => decide (S.high j < 10) && !decide (S.high j + growV Y S (frV Y S.nights) j < 10)) Y.n h6
  exact ⟨s, by have := (pow6 h6).2.2; omega, e⟩
end RST
