section RPA
/-- the reference's night: what else changes -/
def PF (M M' : Mm) : Prop := M'.2 = M.2 ∧ ∀ i, ¬ (255 ≤ i ∧ i ≤ 264) → ¬ i = 273 → ¬ i = 280 → ¬ i = 281 → M'.1 i = M.1 i
theorem PF.rfl' {M : Mm} : PF M M := ⟨rfl, fun _ _ _ _ _ => rfl⟩
theorem PF.trans {A B C : Mm} (h : PF A B) (k : PF B C) : PF A C := ⟨k.1.trans h.1, fun i a b c d => (k.2 i a b c d).trans (h.2 i a b c d)⟩
theorem O3.pf {A B : Mm} (h : O3 A B) : PF A B := ⟨h.1, fun i _ b _ _ => h.2 i b⟩
theorem PF.ry {M M' : Mm} {Y : Yv} (h : PF M M') (hY : RY M Y) : RY M' Y := hY.congr (fun i a b => h.2 i (by omega) (by omega) (by omega) (by omega)) (fun i _ => by rw [h.1])
theorem PF.rl {M M' : Mm} {E : Int32 → Int32 → Int32 → Int32 → Int32} (h : PF M M') (hL : RLw M E) : RLw M' E := hL.congr (fun i a b => h.2 i (by omega) (by omega) (by omega) (by omega))
theorem O3.ry {M M' : Mm} {Y : Yv} (h : O3 M M') (hY : RY M Y) : RY M' Y := h.pf.ry hY
/-- before the nights' heights: what grew so far -/
def P1 (M Mc : Mm) (Y : Yv) (S : Sv) (fr : Int32) (i : Nat) : Prop := Mc.2 = M.2 ∧ (∀ q, ¬ (255 ≤ q ∧ q ≤ 264) → ¬ q = 280 → ¬ q = 281 → Mc.1 q = M.1 q) ∧ ∀ q, q < i → Mc.1 280 q = growV Y S fr q ∧ Mc.1 281 q = S.hear q
theorem P1.pf {M Mc : Mm} {Y : Yv} {S : Sv} {fr : Int32} {i : Nat} (h : P1 M Mc Y S fr i) : PF M Mc := ⟨h.1, fun q a _ c d => h.2.1 q a c d⟩
theorem P1.rw' {M Mc : Mm} {Y : Yv} {S : Sv} {fr : Int32} {i n : Nat} {S' : Sv} (h : P1 M Mc Y S fr i) (h6 : n ≤ 6) (hS : RW M 273 0 n S') : RW Mc 273 0 n S' := hS.congr h6 (fun k _ => by rw [h.2.1 273 (by omega) (by omega) (by omega)])
theorem P1.next {M Mc M1 : Mm} {Y : Yv} {S : Sv} {fr : Int32} {i : Nat} (h : P1 M Mc Y S fr i) (hD : WD Mc M1) : P1 M (setI (setI M1 280 i (growV Y S fr i)) 281 i (S.hear i)) Y S fr (i + 1) := by
  refine ⟨hD.1.trans h.1, fun q a b c => ?_, fun q hq => ⟨?_, ?_⟩⟩
  · rw [← h.2.1 q a b c, ← hD.2 q a]; funext z; rw [setI_1, if_neg (fun x => c x.1), setI_1, if_neg (fun x => b x.1)]
  · rw [setI_1, if_neg (by omega), setI_1]
    by_cases e : q = i
    · rw [if_pos ⟨rfl, e⟩, e]
    · rw [if_neg (fun x => e x.2), hD.2 280 (by omega)]; exact (h.2.2 q (by omega)).1
  · rw [setI_1]
    by_cases e : q = i
    · rw [if_pos ⟨rfl, e⟩, e]
    · rw [if_neg (fun x => e x.2), setI_1, if_neg (by omega), hD.2 281 (by omega)]; exact (h.2.2 q (by omega)).2
def NS (Y : Yv) : Prop := ∀ i j, i < Y.n → j < Y.n → (bitI (Y.near i) (nI j) ↔ bitI (Y.near j) (nI i))
/-- whom q hears, as the class has it -/
def HP (Y : Yv) (S : Sv) (fr : Int32) (q i : Nat) : Bool := decide (0 < growV Y S fr i) && decide (bitI (Y.near i) (nI q))
/-- within a night: the sheds below h are through, h has heard those below o -/
def midV (Y : Yv) (S : Sv) (fr : Int32) (h o : Nat) : Sv := (S.1, S.2.1, S.heat, S.crow, fun q => if q < h then S.high q + growV Y S fr q else S.high q,
  fun q => if q < h then orF (HP Y S fr q) S.hear (S.hear q) Y.n else if q = h then orF (HP Y S fr q) S.hear (S.hear q) o else S.hear q)
theorem RW.ext {M : Mm} {a b n : Nat} {S S' : Sv} (h : RW M a b n S) (h1 : S.1 = S'.1) (h2 : S.2.1 = S'.2.1) (h3 : ∀ j, j < n → S.heat j = S'.heat j ∧ S.crow j = S'.crow j ∧ S.high j = S'.high j ∧ S.hear j = S'.hear j) : RW M a b n S' :=
  ⟨h.1.trans h1, h.2.1.trans h2, fun j hj => by
    obtain ⟨a1, a2, a3, a4⟩ := h.2.2.1 j hj
    obtain ⟨b1, b2, b3, b4⟩ := h3 j hj
    exact ⟨a1.trans b1, a2.trans b2, a3.trans b3, a4.trans b4⟩, h.2.2.2⟩
section
variable {M : Mm} {n j : Nat} {S : Sv} {v : Int32}
theorem RW.setHear (h : RW M 273 0 n S) (hj : j < n) (h6 : n ≤ 6) : RW (setI M 273 (20 + j) v) 273 0 n (S.1, S.2.1, S.heat, S.crow, S.high, fun q => if q = j then v else S.hear q) := by
  refine RW.mk ?_ ?_ (fun q hq => ⟨?_, ?_, ?_, ?_⟩) (fun q hq h6' => ?_)
  · rw [setI_1, if_neg (by omega)]; exact h.ni
  · rw [setI_1, if_neg (by omega)]; exact h.li
  · rw [setI_1, if_neg (by omega)]; exact h.ht hq
  · rw [setI_1, if_neg (by omega)]; exact h.cr hq
  · rw [setI_1, if_neg (by omega)]; exact h.hi hq
  · rw [setI_1]; show _ = if q = j then _ else _
    by_cases e : q = j
    · rw [if_pos ⟨rfl, by omega⟩, if_pos e]
    · rw [if_neg (by omega), if_neg e]; exact h.he hq
  · rw [setI_1, if_neg (by omega)]; exact h.cz hq h6'
theorem RW.setHigh (h : RW M 273 0 n S) (hj : j < n) (h6 : n ≤ 6) : RW (setI M 273 (14 + j) v) 273 0 n (S.1, S.2.1, S.heat, S.crow, (fun q => if q = j then v else S.high q), S.hear) := by
  refine RW.mk ?_ ?_ (fun q hq => ⟨?_, ?_, ?_, ?_⟩) (fun q hq h6' => ?_)
  · rw [setI_1, if_neg (by omega)]; exact h.ni
  · rw [setI_1, if_neg (by omega)]; exact h.li
  · rw [setI_1, if_neg (by omega)]; exact h.ht hq
  · rw [setI_1, if_neg (by omega)]; exact h.cr hq
  · rw [setI_1]; show _ = if q = j then _ else _
    by_cases e : q = j
    · rw [if_pos ⟨rfl, by omega⟩, if_pos e]
    · rw [if_neg (by omega), if_neg e]; exact h.hi hq
  · rw [setI_1, if_neg (by omega)]; exact h.he hq
  · rw [setI_1, if_neg (by omega)]; exact h.cz hq h6'
theorem RW.setNi (h : RW M 273 0 n S) (h6 : n ≤ 6) : RW (setI M 273 0 v) 273 0 n (v, S.2) := by
  refine RW.mk ?_ ?_ (fun q hq => ⟨?_, ?_, ?_, ?_⟩) (fun q hq h6' => ?_)
  · rw [setI_1, if_pos ⟨rfl, rfl⟩]
  · rw [setI_1, if_neg (by omega)]; exact h.li
  · rw [setI_1, if_neg (by omega)]; exact h.ht hq
  · rw [setI_1, if_neg (by omega)]; exact h.cr hq
  · rw [setI_1, if_neg (by omega)]; exact h.hi hq
  · rw [setI_1, if_neg (by omega)]; exact h.he hq
  · rw [setI_1, if_neg (by omega)]; exact h.cz hq h6'
end
theorem midV_t {M : Mm} {Y : Yv} {S : Sv} {fr : Int32} {h o : Nat} (hR : RW M 273 0 Y.n (midV Y S fr h o)) (hh : h < Y.n) (h6 : Y.n ≤ 6) (hp : HP Y S fr h o = true) : RW (setI M 273 (20 + h) (orF (HP Y S fr h) S.hear (S.hear h) o ||| S.hear o)) 273 0 Y.n (midV Y S fr h (o + 1)) := by
  refine (hR.setHear hh h6).ext rfl rfl (fun q hq => ⟨rfl, rfl, rfl, ?_⟩)
  show (if q = h then _ else if q < h then _ else if q = h then _ else _) = if q < h then _ else if q = h then _ else _
  by_cases e : q = h
  · subst e; rw [if_pos rfl, if_neg (by omega), if_pos rfl, orF_t hp]
  · rw [if_neg e, if_neg e, if_neg e]
theorem midV_f {M : Mm} {Y : Yv} {S : Sv} {fr : Int32} {h o : Nat} (hR : RW M 273 0 Y.n (midV Y S fr h o)) (hp : HP Y S fr h o = false) : RW M 273 0 Y.n (midV Y S fr h (o + 1)) := by
  refine hR.ext rfl rfl (fun q hq => ⟨rfl, rfl, rfl, ?_⟩)
  show (if q < h then _ else if q = h then _ else _) = if q < h then _ else if q = h then _ else _
  by_cases e : q = h
  · subst e; rw [if_neg (by omega), if_pos rfl, if_neg (by omega), if_pos rfl, orF_f hp]
  · rw [if_neg e, if_neg e]
theorem midV_n {M : Mm} {Y : Yv} {S : Sv} {fr : Int32} {h : Nat} (hR : RW M 273 0 Y.n (midV Y S fr h Y.n)) (hh : h < Y.n) (h6 : Y.n ≤ 6) : RW (setI M 273 (14 + h) (S.high h + growV Y S fr h)) 273 0 Y.n (midV Y S fr (h + 1) 0) := by
  refine (hR.setHigh hh h6).ext rfl rfl (fun q hq => ⟨rfl, rfl, ?_, ?_⟩)
  · show (if q = h then _ else if q < h then _ else _) = if q < h + 1 then _ else _
    by_cases e : q = h
    · subst e; rw [if_pos rfl, if_pos (by omega)]
    · rw [if_neg e]
      by_cases l : q < h
      · rw [if_pos l, if_pos (by omega)]
      · rw [if_neg l, if_neg (by omega)]
  · show (if q < h then _ else if q = h then _ else _) = if q < h + 1 then _ else if q = h + 1 then _ else _
    by_cases e : q = h
    · subst e; rw [if_neg (by omega), if_pos rfl, if_pos (by omega)]
    · rw [if_neg e]
      by_cases l : q < h
      · rw [if_pos l, if_pos (by omega)]
      · rw [if_neg l, if_neg (by omega)]
        by_cases e2 : q = h + 1
        · rw [if_pos e2]; rfl
        · rw [if_neg e2]
theorem midV_0 {M : Mm} {Y : Yv} {S : Sv} {fr : Int32} (hR : RW M 273 0 Y.n S) : RW M 273 0 Y.n (midV Y S fr 0 0) := by
  refine hR.ext rfl rfl (fun q hq => ⟨rfl, rfl, ?_, ?_⟩)
  · show S.high q = if q < 0 then S.high q + growV Y S fr q else S.high q; rw [if_neg (by omega)]
  · show S.hear q = if q < 0 then orF (HP Y S fr q) S.hear (S.hear q) Y.n else if q = 0 then orF (HP Y S fr q) S.hear (S.hear q) 0 else S.hear q
    rw [if_neg (by omega)]
    by_cases e : q = 0
    · rw [if_pos e]; rfl
    · rw [if_neg e]
theorem midV_e {M : Mm} {Y : Yv} {S : Sv} {fr : Int32} (hR : RW M 273 0 Y.n (midV Y S fr Y.n 0)) (h6 : Y.n ≤ 6) : RW (setI (setI M 273 1 0) 273 0 (S.nights + 1)) 273 0 Y.n (passV Y S fr) := by
  refine ((hR.lit (v := 0) h6).setNi (v := S.nights + 1) h6).ext rfl rfl (fun q hq => ⟨rfl, rfl, ?_, ?_⟩)
  · show (if q < Y.n then _ else _) = _; rw [if_pos hq]; rfl
  · show (if q < Y.n then _ else _) = _; rw [if_pos hq]; rfl
def popP (Y : Yv) (S : Sv) (fr : Int32) (j : Nat) : Bool := decide (S.high j < 10) && !decide (S.high j + growV Y S fr j < 10)
set_option maxHeartbeats 4000000 in
set_option maxRecDepth 20000 in
theorem l_pass3 {G : Gt} {M M1 : Mm} {Y : Yv} {S : Sv} {fr : Int32} (hY : RY M Y) (hN : NS Y) (hP : P1 M M1 Y S fr Y.n) {Q : Option Value → Mm → Prop} {h : Nat} {pp : Int32} (hh : h < Y.n) (hK : ∀ (Mc : Mm) (u : Value), O3 M1 Mc → RW Mc 273 0 Y.n (midV Y S fr h Y.n) → Ev G 5 mX11_passes 123 [.ref 238, .int fr, .int pp, .int (nI h), u] [] Mc Q) : ∀ (k : Nat) (o : Nat) (Mc : Mm), (o ≤ Y.n) → (Y.n < o + k) → (O3 M1 Mc) → (RW Mc 273 0 Y.n (midV Y S fr h o)) → Ev G 5 mX11_passes 62 [.ref 238, .int fr, .int pp, .int (nI h), .int (nI o)] [] Mc (Q) := by
  intro k
  induction k with
  | zero => intro o Mc ho hk hO hR; exact absurd hk (by omega)
  | succ k ih =>
    intro o Mc ho hk hO hR
    have h6 := hY.1.2
    have hs5 := hY.2.1.2
    have hYc := hO.ry (hP.pf.ry hY)
    refine e_iload dX11_passes_62 rfl ?_
    refine e_aload_n dX11_passes_64 rfl ?_
    refine e_getR dX11_passes_65 fl_X11_13 sh_m rfl ?_
    refine e_iconst (v := 0) dX11_passes_68 (by decide) ?_
    refine e_ialdN (j := 0) dX11_passes_69 (sa_m_yard) (by decide) (by omega) ?_
    rw [hYc.1.1]
    refine e_icmp_ge (tgt := 123) dX11_passes_70 (by decide) (fun c70 => ?_) (fun c70 => ?_)
    · -- 70 jumps
      have hon : o = Y.n := by have := ge_of (n := Y.n) (by omega) (by omega) c70; omega
      subst hon
      exact hK Mc _ hO hR
    · -- 70 goes on
      have hlt : o < Y.n := lt_of (n := Y.n) (by omega) (by omega) c70
      refine e_aload_n dX11_passes_73 rfl ?_
      refine e_getR dX11_passes_74 fl_X11_135 sh_m rfl ?_
      refine e_iload dX11_passes_77 rfl ?_
      refine e_ialdN (j := o) dX11_passes_79 (sa_m_grew) (by decide) (by omega) ?_
      rw [hO.2 280 (by decide), (hP.2.2 o hlt).1]
      refine e_if_le (tgt := 117) dX11_passes_80 (by decide) (fun c80 => ?_) (fun c80 => ?_)
      · -- 80 jumps
        refine e_iinc (ls' := [_, _, _, _, _]) dX11_passes_117 rfl (nI_i1 _) (by decide) rfl ?_
        refine e_goto (tgt := 62) dX11_passes_120 (by decide) ?_
        exact ih (o + 1) _ (by omega) (by omega) hO (midV_f hR (by unfold HP; rw [decide_eq_false c80]; rfl))
      · -- 80 goes on
        refine e_aload_n dX11_passes_83 rfl ?_
        refine e_getR dX11_passes_84 fl_X11_32 sh_m rfl ?_
        refine e_iload_n dX11_passes_87 rfl ?_
        refine e_ialdN (j := h) dX11_passes_88 (sa_m_near) (by decide) (by omega) ?_
        rw [(hYc.2.2.2.2.1 h hh).2.2.2.1]
        refine e_iload dX11_passes_89 rfl ?_
        refine e_ishr dX11_passes_91 ?_
        refine e_iconst (v := 1) dX11_passes_92 (by decide) ?_
        refine e_iand dX11_passes_93 ?_
        refine e_iconst (v := 1) dX11_passes_94 (by decide) ?_
        refine e_icmp_ne (tgt := 117) dX11_passes_95 (by decide) (fun c95 => ?_) (fun c95 => ?_)
        · -- 95 jumps
          refine e_iinc (ls' := [_, _, _, _, _]) dX11_passes_117 rfl (nI_i1 _) (by decide) rfl ?_
          refine e_goto (tgt := 62) dX11_passes_120 (by decide) ?_
          exact ih (o + 1) _ (by omega) (by omega) hO (midV_f hR (by unfold HP; rw [decide_eq_false (fun q => c95 ((hN o h hlt hh).mp q))]; exact Bool.and_false _))
        · -- 95 goes on
          refine e_aload_n dX11_passes_98 rfl ?_
          refine e_getR dX11_passes_99 fl_X11_114 sh_m rfl ?_
          refine e_bipush (v := 20) dX11_passes_102 (by decide) ?_
          refine e_iload_n dX11_passes_104 rfl ?_
          refine e_iaddN (a := 20) (b := h) dX11_passes_105 ?_
          refine e_dup2 dX11_passes_106 rfl rfl ?_
          refine e_ialdN (j := (20 + h)) dX11_passes_107 (sa_m_s) (by decide) (by omega) ?_
          rw [hR.he hh, show (midV Y S fr h o).hear h = orF (HP Y S fr h) S.hear (S.hear h) o from by show (if h < h then _ else if h = h then _ else _) = _; rw [if_neg (by omega), if_pos rfl]]
          refine e_aload_n dX11_passes_108 rfl ?_
          refine e_getR dX11_passes_109 fl_X11_138 sh_m rfl ?_
          refine e_iload dX11_passes_112 rfl ?_
          refine e_ialdN (j := o) dX11_passes_114 (sa_m_hears) (by decide) (by omega) ?_
          rw [hO.2 281 (by decide), (hP.2.2 o hlt).2]
          refine e_ior dX11_passes_115 ?_
          refine e_iastN (j := (20 + h)) dX11_passes_116 (sa_m_s) (by decide) (by omega) ?_
          refine e_iinc (ls' := [_, _, _, _, _]) dX11_passes_117 rfl (nI_i1 _) (by decide) rfl ?_
          refine e_goto (tgt := 62) dX11_passes_120 (by decide) ?_
          exact ih (o + 1) _ (by omega) (by omega) (hO.i _ _) (midV_t hR hh h6 (by unfold HP; rw [decide_eq_true c80, decide_eq_true ((hN o h hlt hh).mpr c95)]; rfl))
set_option maxHeartbeats 4000000 in
set_option maxRecDepth 20000 in
theorem s_pass123 {G : Gt} {M M1 : Mm} {Y : Yv} {S : Sv} {fr : Int32} (hY : RY M Y) (hN : NS Y) (hP : P1 M M1 Y S fr Y.n) {Mc : Mm} {u : Value} {Q : Option Value → Mm → Prop} {h : Nat} (hh : h < Y.n) (hO : O3 M1 Mc) (hR : RW Mc 273 0 Y.n (midV Y S fr h Y.n)) (hK : ∀ Mc', O3 M1 Mc' → RW Mc' 273 0 Y.n (midV Y S fr (h + 1) 0) → Ev G 5 mX11_passes 49 [.ref 238, .int fr, .int (setB (popP Y S fr) (h + 1)), .int (nI (h + 1)), u] [] Mc' Q) : Ev G 5 mX11_passes 123 [.ref 238, .int fr, .int (setB (popP Y S fr) h), .int (nI h), u] [] Mc (Q) := by
  have h6 := hY.1.2
  have hs5 := hY.2.1.2
  have hYc := hO.ry (hP.pf.ry hY)
  have e1 : (midV Y S fr h Y.n).high h = S.high h := by show (if h < h then _ else _) = _; rw [if_neg (by omega)]
  refine e_iload_n dX11_passes_123 rfl ?_
  refine e_aload_n dX11_passes_124 rfl ?_
  refine e_getR dX11_passes_125 fl_X11_114 sh_m rfl ?_
  refine e_bipush (v := 14) dX11_passes_128 (by decide) ?_
  refine e_iload_n dX11_passes_130 rfl ?_
  refine e_iaddN (a := 14) (b := h) dX11_passes_131 ?_
  refine e_ialdN (j := (14 + h)) dX11_passes_132 (sa_m_s) (by decide) (by omega) ?_
  rw [hR.hi hh, e1]
  refine e_bipush (v := 10) dX11_passes_133 (by decide) ?_
  refine e_icmp_ge (tgt := 165) dX11_passes_135 (by decide) (fun c135 => ?_) (fun c135 => ?_)
  · -- 135 jumps
    refine e_iconst (v := 0) dX11_passes_165 (by decide) ?_
    refine e_ior dX11_passes_166 ?_
    refine e_istore_n (ls' := [_, _, _, _, _]) dX11_passes_167 (by decide) rfl ?_
    refine e_aload_n dX11_passes_168 rfl ?_
    refine e_getR dX11_passes_169 fl_X11_114 sh_m rfl ?_
    refine e_bipush (v := 14) dX11_passes_172 (by decide) ?_
    refine e_iload_n dX11_passes_174 rfl ?_
    refine e_iaddN (a := 14) (b := h) dX11_passes_175 ?_
    refine e_dup2 dX11_passes_176 rfl rfl ?_
    refine e_ialdN (j := (14 + h)) dX11_passes_177 (sa_m_s) (by decide) (by omega) ?_
    rw [hR.hi hh, e1]
    refine e_aload_n dX11_passes_178 rfl ?_
    refine e_getR dX11_passes_179 fl_X11_135 sh_m rfl ?_
    refine e_iload_n dX11_passes_182 rfl ?_
    refine e_ialdN (j := h) dX11_passes_183 (sa_m_grew) (by decide) (by omega) ?_
    rw [hO.2 280 (by decide), (hP.2.2 h hh).1]
    refine e_iadd dX11_passes_184 ?_
    refine e_iastN (j := (14 + h)) dX11_passes_185 (sa_m_s) (by decide) (by omega) ?_
    refine e_iinc (ls' := [_, _, _, _, _]) dX11_passes_186 rfl (nI_i1 _) (by decide) rfl ?_
    refine e_goto (tgt := 49) dX11_passes_189 (by decide) ?_
    rw [setB_f (by unfold popP; rw [decide_eq_false c135]; rfl)] at hK
    rw [Int32.or_zero]
    exact hK _ (hO.i _ _) (midV_n hR hh h6)
  · -- 135 goes on
    refine e_aload_n dX11_passes_138 rfl ?_
    refine e_getR dX11_passes_139 fl_X11_114 sh_m rfl ?_
    refine e_bipush (v := 14) dX11_passes_142 (by decide) ?_
    refine e_iload_n dX11_passes_144 rfl ?_
    refine e_iaddN (a := 14) (b := h) dX11_passes_145 ?_
    refine e_ialdN (j := (14 + h)) dX11_passes_146 (sa_m_s) (by decide) (by omega) ?_
    rw [hR.hi hh, e1]
    refine e_aload_n dX11_passes_147 rfl ?_
    refine e_getR dX11_passes_148 fl_X11_135 sh_m rfl ?_
    refine e_iload_n dX11_passes_151 rfl ?_
    refine e_ialdN (j := h) dX11_passes_152 (sa_m_grew) (by decide) (by omega) ?_
    rw [hO.2 280 (by decide), (hP.2.2 h hh).1]
    refine e_iadd dX11_passes_153 ?_
    refine e_bipush (v := 10) dX11_passes_154 (by decide) ?_
    refine e_icmp_lt (tgt := 165) dX11_passes_156 (by decide) (fun c156 => ?_) (fun c156 => ?_)
    · -- 156 jumps
      refine e_iconst (v := 0) dX11_passes_165 (by decide) ?_
      refine e_ior dX11_passes_166 ?_
      refine e_istore_n (ls' := [_, _, _, _, _]) dX11_passes_167 (by decide) rfl ?_
      refine e_aload_n dX11_passes_168 rfl ?_
      refine e_getR dX11_passes_169 fl_X11_114 sh_m rfl ?_
      refine e_bipush (v := 14) dX11_passes_172 (by decide) ?_
      refine e_iload_n dX11_passes_174 rfl ?_
      refine e_iaddN (a := 14) (b := h) dX11_passes_175 ?_
      refine e_dup2 dX11_passes_176 rfl rfl ?_
      refine e_ialdN (j := (14 + h)) dX11_passes_177 (sa_m_s) (by decide) (by omega) ?_
      rw [hR.hi hh, e1]
      refine e_aload_n dX11_passes_178 rfl ?_
      refine e_getR dX11_passes_179 fl_X11_135 sh_m rfl ?_
      refine e_iload_n dX11_passes_182 rfl ?_
      refine e_ialdN (j := h) dX11_passes_183 (sa_m_grew) (by decide) (by omega) ?_
      rw [hO.2 280 (by decide), (hP.2.2 h hh).1]
      refine e_iadd dX11_passes_184 ?_
      refine e_iastN (j := (14 + h)) dX11_passes_185 (sa_m_s) (by decide) (by omega) ?_
      refine e_iinc (ls' := [_, _, _, _, _]) dX11_passes_186 rfl (nI_i1 _) (by decide) rfl ?_
      refine e_goto (tgt := 49) dX11_passes_189 (by decide) ?_
      rw [setB_f (by unfold popP; rw [decide_eq_true c156]; exact Bool.and_false _)] at hK
      rw [Int32.or_zero]
      exact hK _ (hO.i _ _) (midV_n hR hh h6)
    · -- 156 goes on
      refine e_iconst (v := 1) dX11_passes_159 (by decide) ?_
      refine e_iload_n dX11_passes_160 rfl ?_
      refine e_ishl dX11_passes_161 ?_
      refine e_goto (tgt := 166) dX11_passes_162 (by decide) ?_
      refine e_ior dX11_passes_166 ?_
      refine e_istore_n (ls' := [_, _, _, _, _]) dX11_passes_167 (by decide) rfl ?_
      refine e_aload_n dX11_passes_168 rfl ?_
      refine e_getR dX11_passes_169 fl_X11_114 sh_m rfl ?_
      refine e_bipush (v := 14) dX11_passes_172 (by decide) ?_
      refine e_iload_n dX11_passes_174 rfl ?_
      refine e_iaddN (a := 14) (b := h) dX11_passes_175 ?_
      refine e_dup2 dX11_passes_176 rfl rfl ?_
      refine e_ialdN (j := (14 + h)) dX11_passes_177 (sa_m_s) (by decide) (by omega) ?_
      rw [hR.hi hh, e1]
      refine e_aload_n dX11_passes_178 rfl ?_
      refine e_getR dX11_passes_179 fl_X11_135 sh_m rfl ?_
      refine e_iload_n dX11_passes_182 rfl ?_
      refine e_ialdN (j := h) dX11_passes_183 (sa_m_grew) (by decide) (by omega) ?_
      rw [hO.2 280 (by decide), (hP.2.2 h hh).1]
      refine e_iadd dX11_passes_184 ?_
      refine e_iastN (j := (14 + h)) dX11_passes_185 (sa_m_s) (by decide) (by omega) ?_
      refine e_iinc (ls' := [_, _, _, _, _]) dX11_passes_186 rfl (nI_i1 _) (by decide) rfl ?_
      refine e_goto (tgt := 49) dX11_passes_189 (by decide) ?_
      rw [setB_t (by unfold popP; rw [decide_eq_true c135, decide_eq_false c156]; rfl)] at hK
      exact hK _ (hO.i _ _) (midV_n hR hh h6)
set_option maxHeartbeats 4000000 in
set_option maxRecDepth 20000 in
theorem l_pass2 {G : Gt} {M M1 : Mm} {Y : Yv} {S : Sv} {fr : Int32} (hY : RY M Y) (hN : NS Y) (hP : P1 M M1 Y S fr Y.n) : ∀ (k : Nat) (h : Nat) (Mc : Mm) (u : Value), (h ≤ Y.n) → (Y.n < h + k) → (O3 M1 Mc) → (RW Mc 273 0 Y.n (midV Y S fr h 0)) → Ev G 5 mX11_passes 49 [.ref 238, .int fr, .int (setB (popP Y S fr) h), .int (nI h), u] [] Mc (fun r M' => r = some (.int (popV Y S fr)) ∧ PF M M' ∧ RW M' 273 0 Y.n (passV Y S fr) ∧ ∀ j, j < Y.n → M'.1 280 j = growV Y S fr j) := by
  intro k
  induction k with
  | zero => intro h Mc u hi hk hO hR; exact absurd hk (by omega)
  | succ k ih =>
    intro h Mc u hi hk hO hR
    have h6 := hY.1.2
    have hs5 := hY.2.1.2
    have hYc := hO.ry (hP.pf.ry hY)
    refine e_iload_n dX11_passes_49 rfl ?_
    refine e_aload_n dX11_passes_50 rfl ?_
    refine e_getR dX11_passes_51 fl_X11_13 sh_m rfl ?_
    refine e_iconst (v := 0) dX11_passes_54 (by decide) ?_
    refine e_ialdN (j := 0) dX11_passes_55 (sa_m_yard) (by decide) (by omega) ?_
    rw [hYc.1.1]
    refine e_icmp_ge (tgt := 192) dX11_passes_56 (by decide) (fun c56 => ?_) (fun c56 => ?_)
    · -- 56 jumps
      have hon : h = Y.n := by have := ge_of (n := Y.n) (by omega) (by omega) c56; omega
      subst hon
      refine e_aload_n dX11_passes_192 rfl ?_
      refine e_getR dX11_passes_193 fl_X11_114 sh_m rfl ?_
      refine e_iconst (v := 1) dX11_passes_196 (by decide) ?_
      refine e_iconst (v := 0) dX11_passes_197 (by decide) ?_
      refine e_iastN (j := 1) dX11_passes_198 (sa_m_s) (by decide) (by omega) ?_
      refine e_aload_n dX11_passes_199 rfl ?_
      refine e_getR dX11_passes_200 fl_X11_114 sh_m rfl ?_
      refine e_iconst (v := 0) dX11_passes_203 (by decide) ?_
      refine e_dup2 dX11_passes_204 rfl rfl ?_
      refine e_ialdN (j := 0) dX11_passes_205 (sa_m_s) (by decide) (by omega) ?_
      rw [show (setI Mc 273 1 0).1 273 0 = Mc.1 273 0 from by rw [setI_1, if_neg (by decide)], hR.ni]
      refine e_iconst (v := 1) dX11_passes_206 (by decide) ?_
      refine e_iadd dX11_passes_207 ?_
      refine e_iastN (j := 0) dX11_passes_208 (sa_m_s) (by decide) (by omega) ?_
      refine e_iload_n dX11_passes_209 rfl ?_
      refine e_iret dX11_passes_210 rfl ?_
      exact ⟨rfl, hP.pf.trans ((hO.i _ _).i _ _).pf, midV_e hR h6, fun j hj => by rw [((hO.i 1 0).i 0 _).2 280 (by decide)]; exact (hP.2.2 j hj).1⟩
    · -- 56 goes on
      have hlt : h < Y.n := lt_of (n := Y.n) (by omega) (by omega) c56
      refine e_iconst (v := 0) dX11_passes_59 (by decide) ?_
      refine e_istore (ls' := [_, _, _, _, _]) dX11_passes_60 (by decide) rfl ?_
      refine l_pass3 hY hN hP hlt (fun Mc2 u2 hO2 hR2 => ?_) (Y.n + 1) 0 Mc (by omega) (by omega) hO hR
      exact s_pass123 hY hN hP hlt hO2 hR2 (fun Mc3 hO3 hR3 => ih (h + 1) Mc3 u2 (by omega) (by omega) hO3 hR3)
set_option maxHeartbeats 4000000 in
set_option maxRecDepth 20000 in
theorem l_pass1 {G : Gt} {M : Mm} {Y : Yv} {S : Sv} {fr : Int32} (hY : RY M Y) (hS : RW M 273 0 Y.n S) (hL : RLw M Y.gE) (hN : NS Y) : ∀ (k : Nat) (i : Nat) (Mc : Mm) (u : Value), (i ≤ Y.n) → (Y.n < i + k) → (P1 M Mc Y S fr i) → Ev G 5 mX11_passes 4 [.ref 238, .int fr, .int 0, .int (nI i), u] [] Mc (fun r M' => r = some (.int (popV Y S fr)) ∧ PF M M' ∧ RW M' 273 0 Y.n (passV Y S fr) ∧ ∀ j, j < Y.n → M'.1 280 j = growV Y S fr j) := by
  intro k
  induction k with
  | zero => intro i Mc u hi hk hv; exact absurd hk (by omega)
  | succ k ih =>
    intro i Mc u hi hk hv
    have h6 := hY.1.2
    have hs5 := hY.2.1.2
    have hYc := hv.pf.ry hY
    have hSc := hv.rw' h6 hS
    have hLc := hv.pf.rl hL
    refine e_iload_n dX11_passes_4 rfl ?_
    refine e_aload_n dX11_passes_5 rfl ?_
    refine e_getR dX11_passes_6 fl_X11_13 sh_m rfl ?_
    refine e_iconst (v := 0) dX11_passes_9 (by decide) ?_
    refine e_ialdN (j := 0) dX11_passes_10 (sa_m_yard) (by decide) (by omega) ?_
    rw [hYc.1.1]
    refine e_icmp_ge (tgt := 47) dX11_passes_11 (by decide) (fun c11 => ?_) (fun c11 => ?_)
    · -- 11 jumps
      have hin : i = Y.n := by have := ge_of (n := Y.n) (by omega) (by omega) c11; omega
      subst hin
      refine e_iconst (v := 0) dX11_passes_47 (by decide) ?_
      refine e_istore_n (ls' := [_, _, _, _, _]) dX11_passes_48 (by decide) rfl ?_
      exact l_pass2 hY hN hv (Y.n + 1) 0 Mc u (by omega) (by omega) O3.rfl' (midV_0 hSc)
    · -- 11 goes on
      have hlt : i < Y.n := lt_of (n := Y.n) (by omega) (by omega) c11
      refine e_aload_n dX11_passes_14 rfl ?_
      refine e_getR dX11_passes_15 fl_X11_135 sh_m rfl ?_
      refine e_iload_n dX11_passes_18 rfl ?_
      refine e_aload_n dX11_passes_19 rfl ?_
      refine e_iload_n dX11_passes_20 rfl ?_
      refine e_iload_n dX11_passes_21 rfl ?_
      refine cV2x dX11_passes_22 mo_X11_growth ml_X11_385 sh_m rfl (Nat.le_of_ble_eq_true rfl) (by omega) (r_growth hYc hSc hlt hLc) ?_
      rintro r M1 ⟨rfl, hD⟩
      dsimp only [Option.toList, List.cons_append, List.nil_append]
      refine e_iastN (j := i) dX11_passes_25 (sa_m_grew) (by decide) (by omega) ?_
      refine e_aload_n dX11_passes_26 rfl ?_
      refine e_getR dX11_passes_27 fl_X11_138 sh_m rfl ?_
      refine e_iload_n dX11_passes_30 rfl ?_
      refine e_aload_n dX11_passes_31 rfl ?_
      refine e_getR dX11_passes_32 fl_X11_114 sh_m rfl ?_
      refine e_bipush (v := 20) dX11_passes_35 (by decide) ?_
      refine e_iload_n dX11_passes_37 rfl ?_
      refine e_iaddN (a := 20) (b := i) dX11_passes_38 ?_
      refine e_ialdN (j := (20 + i)) dX11_passes_39 (sa_m_s) (by decide) (by omega) ?_
      rw [setI_n (by decide), (hD.rw' h6 hSc).he hlt]
      refine e_iastN (j := i) dX11_passes_40 (sa_m_hears) (by decide) (by omega) ?_
      refine e_iinc (ls' := [_, _, _, _, _]) dX11_passes_41 rfl (nI_i1 _) (by decide) rfl ?_
      refine e_goto (tgt := 4) dX11_passes_44 (by decide) ?_
      exact ih (i + 1) _ u (by omega) (by omega) (hv.next hD)
set_option maxHeartbeats 4000000 in
set_option maxRecDepth 20000 in
theorem r_passes {G : Gt} {M : Mm} {Y : Yv} {S : Sv} {fr : Int32} (hY : RY M Y) (hS : RW M 273 0 Y.n S) (hL : RLw M Y.gE) (hN : NS Y) : Call G 5 mX11_passes [.ref 238, .int fr] M (fun r M' => r = some (.int (popV Y S fr)) ∧ PF M M' ∧ RW M' 273 0 Y.n (passV Y S fr) ∧ ∀ j, j < Y.n → M'.1 280 j = growV Y S fr j) := by
  have h6 := hY.1.2
  have hs5 := hY.2.1.2
  refine Call.intro rfl (Nat.le_of_ble_eq_true rfl) ?_
  show Ev G _ mX11_passes 0 [.ref 238, .int fr, RA, RA, RA] [] M _
  refine e_iconst (v := 0) dX11_passes_0 (by decide) ?_
  refine e_istore_n (ls' := [_, _, _, _, _]) dX11_passes_1 (by decide) rfl ?_
  refine e_iconst (v := 0) dX11_passes_2 (by decide) ?_
  refine e_istore_n (ls' := [_, _, _, _, _]) dX11_passes_3 (by decide) rfl ?_
  exact l_pass1 hY hS hL hN (Y.n + 1) 0 M _ (by omega) (by omega) ⟨rfl, fun _ _ _ _ => rfl, fun q hq => absurd hq (by omega)⟩
set_option maxHeartbeats 4000000 in
set_option maxRecDepth 20000 in
theorem r_passesAsTold {G : Gt} {M : Mm} {Y : Yv} {S : Sv} {t : Nat} (hY : RY M Y) (hS : RW M 273 0 Y.n S) (hL : RLw M Y.gE) (hN : NS Y) (hn : S.nights = nI t) (ht : t < 2 ^ 31) : Call G 6 mX11_passesAsTold [.ref 238] M (fun r M' => r = some (.int (popN Y S)) ∧ PF M M' ∧ RW M' 273 0 Y.n (nightV Y S) ∧ ∀ j, j < Y.n → M'.1 280 j = growV Y S (frV Y S.nights) j) := by
  have h6 := hY.1.2
  have hs5 := hY.2.1.2
  refine Call.intro rfl (Nat.le_of_ble_eq_true rfl) ?_
  show Ev G _ mX11_passesAsTold 0 [.ref 238] [] M _
  refine e_aload_n dX11_passesAsTold_0 rfl ?_
  refine e_aload_n dX11_passesAsTold_1 rfl ?_
  refine e_aload_n dX11_passesAsTold_2 rfl ?_
  refine e_getR dX11_passesAsTold_3 fl_X11_114 sh_m rfl ?_
  refine e_iconst (v := 0) dX11_passesAsTold_6 (by decide) ?_
  refine e_ialdN (j := 0) dX11_passesAsTold_7 (sa_m_s) (by decide) (by omega) ?_
  rw [hS.ni, hn]
  refine cV1r dX11_passesAsTold_8 mo_X11_frostOf ml_X11_388 sh_m rfl (Nat.le_of_ble_eq_true rfl) (by omega) (r_frostOf hY ht) ?_
  refine cV1x dX11_passesAsTold_11 mo_X11_passes ml_X11_391 sh_m rfl (Nat.le_of_ble_eq_true rfl) (by omega) (r_passes hY hS hL hN) ?_
  rintro r M1 ⟨rfl, h1, h2, h3⟩
  dsimp only [Option.toList, List.cons_append, List.nil_append]
  refine e_iret dX11_passesAsTold_14 rfl ?_
  rw [← hn] at h2 h3 ⊢
  exact ⟨rfl, h1, h2, h3⟩
end RPA
