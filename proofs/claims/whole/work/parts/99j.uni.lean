section UNI
/-- the class holds E' now, the reference's part is as it was -/
def XF (M M1 : Mm) (E' : Gs) : Prop := XI M1 E' ∧ ∀ i, 238 ≤ i → M1.1 i = M.1 i ∧ M1.2.1 i = M.2.1 i
/-- the reference holds E' now, the class's part is as it was -/
def RFn (M M2 : Mm) (E' : Gs) : Prop := RJ M2 E' ∧ (∀ i, i < 238 ∨ 285 ≤ i → M2.1 i = M.1 i ∧ M2.2.1 i = M.2.1 i) ∧ M2.2.2 = M.2.2
def UX (v : Int32) (M : Mm) (E' : Gs) : Option Value → Mm → Prop := fun r M1 => r = some (.int v) ∧ XF M M1 E'
def UR (v : Int32) (M : Mm) (E' : Gs) : Option Value → Mm → Prop := fun r M1 => r = some (.int v) ∧ RFn M M1 E'
theorem XF.rfl' {M : Mm} {E : Gs} (h : XI M E) : XF M M E := ⟨h, fun _ _ => ⟨rfl, rfl⟩⟩
theorem XF.sc {M M1 : Mm} {E : Gs} (h : XI M E) (hs : SC M M1) : XF M M1 E := ⟨hs.keepI h, fun i hi => ⟨hs.2.2.1 i (by unfold scr; omega), hs.2.1 i (by omega)⟩⟩
theorem XF.xe {M M1 : Mm} {E' : Gs} (h : XE M M1 E') : XF M M1 E' := ⟨h.1, fun i hi => ⟨(h.2 i hi).1, (h.2 i hi).2.1⟩⟩
theorem RFn.rc {M M1 : Mm} {E : Gs} (h : RJ M E) (hs : RC M M1) : RFn M M1 E := ⟨hs.keep h, fun i hi => ⟨hs.1.2.2.1 i (by unfold rsd; omega), hs.1.2.1 i (by omega)⟩, hs.1.1⟩
theorem RFn.re {M M1 : Mm} {E' : Gs} (h : RE M M1 E') : RFn M M1 E' := ⟨h.1, h.2.1, h.2.2⟩
/-- a mark's answer, what holds behind it -/
def markV (E : Gs) (i b : Int32) : Int32 × Gs := if ¬ i < 0 ∧ i < nI 4 then (if b = 0 then (1, layE E i.toNatClampNeg) else match E.K i.toNatClampNeg with
  | none => (0, E)
  | some q => (1, backE E q)) else (0, E)
def heatW (E : Gs) (i v : Int32) : Int32 × Gs := if vSh E i ∧ vWi v 0 9 then (E.S.heat i.toNatClampNeg, heatE E i.toNatClampNeg v) else (-1, E)
def lightW (E : Gs) (i : Int32) : Int32 × Gs := if vSh E i ∧ ¬ bitI E.S.lit i then (1, lightE E i) else (0, E)
def pullW (E : Gs) (i v : Int32) : Int32 × Gs := if vSh E i ∧ vWi v 1 20 ∧ canB E.S i.toNatClampNeg v = true then (E.S.crow i.toNatClampNeg - v, pullE E i.toNatClampNeg v) else (-1, E)
def undoW (E : Gs) : Int32 × Gs := if 0 < E.un then (1, undoE E) else (0, E)
def seeW (E : Gs) (t m b : Int32) : Int32 × Gs := if seeB E t m = true then (1, seeE E t m b) else (0, E)
theorem ux_shed {G : Gt} {M : Mm} {E : Gs} {T : Nat} (hX : XI M E) (V : IV E T) (hT : T < 2 ^ 29) {i t : Int32} : Call G 4 mX10_shed [.ref 0, .int i, .int t] M (UX (shedQ E i t) M E) := by
  obtain ⟨y, y', w, w', p, hX9⟩ := id hX
  exact (c_shed hX9 ).weaken (fun r M1 hh => ⟨hh.1, by rw [hh.2]; exact XF.rfl' hX⟩)
theorem ur_shed {G : Gt} {M : Mm} {E : Gs} {T : Nat} (hJ : RJ M E) (V : IV E T) (hT : T < 2 ^ 29) {i t : Int32} : Call G 3 mX11_shed [.ref 238, .int i, .int t] M (UR (shedQ E i t) M E) := (r_shed hJ ).weaken (fun r M1 hh => ⟨hh.1, RFn.rc hJ hh.2⟩)
theorem ux_stage {G : Gt} {M : Mm} {E : Gs} {T : Nat} (hX : XI M E) (V : IV E T) (hT : T < 2 ^ 29) {i t : Int32} : Call G 2 mX10_stage [.ref 0, .int i, .int t] M (UX (stageQ E i t) M E) := by
  obtain ⟨y, y', w, w', p, hX9⟩ := id hX
  exact (c_stage hX9 ).weaken (fun r M1 hh => ⟨hh.1, by rw [hh.2]; exact XF.rfl' hX⟩)
theorem ur_stage {G : Gt} {M : Mm} {E : Gs} {T : Nat} (hJ : RJ M E) (V : IV E T) (hT : T < 2 ^ 29) {i t : Int32} : Call G 2 mX11_stage [.ref 238, .int i, .int t] M (UR (stageQ E i t) M E) := (r_stage hJ ).weaken (fun r M1 hh => ⟨hh.1, RFn.rc hJ hh.2⟩)
theorem ux_judged {G : Gt} {M : Mm} {E : Gs} {T : Nat} (hX : XI M E) (V : IV E T) (hT : T < 2 ^ 29) {i : Int32} : Call G 6 mX10_judged [.ref 0, .int i] M (UX (judgedQ E i) M E) := by
  obtain ⟨y, y', w, w', p, hX9⟩ := id hX
  exact (c_judged hX9 (V.2.1.2.2.2.mono (Nat.zero_le T)) (by omega) V.2.2.1).weaken (fun r M1 hh => ⟨hh.1, XF.sc hX hh.2⟩)
theorem ur_judged {G : Gt} {M : Mm} {E : Gs} {T : Nat} (hJ : RJ M E) (V : IV E T) (hT : T < 2 ^ 29) {i : Int32} : Call G 7 mX11_judged [.ref 238, .int i] M (UR (judgedQ E i) M E) := (r_judged hJ (V.2.1.2.2.2.mono (Nat.zero_le T)) (by omega) V.2.1.1 V.2.2.1).weaken (fun r M1 hh => ⟨hh.1, RFn.rc hJ hh.2⟩)
theorem ux_later {G : Gt} {M : Mm} {E : Gs} {T : Nat} (hX : XI M E) (V : IV E T) (hT : T < 2 ^ 29) {i t : Int32} : Call G 7 mX10_later [.ref 0, .int i, .int t] M (UX (laterQ E i t) M E) := by
  obtain ⟨y, y', w, w', p, hX9⟩ := id hX
  exact (c_later hX9 V.2.2.2.2.1.1 (by omega)).weaken (fun r M1 hh => ⟨hh.1, XF.sc hX hh.2⟩)
theorem ur_later {G : Gt} {M : Mm} {E : Gs} {T : Nat} (hJ : RJ M E) (V : IV E T) (hT : T < 2 ^ 29) {i t : Int32} : Call G 7 mX11_later [.ref 238, .int i, .int t] M (UR (laterQ E i t) M E) := (r_later hJ V.2.2.2.2.1.1 (by omega) V.2.1.1).weaken (fun r M1 hh => ⟨hh.1, RFn.rc hJ hh.2⟩)
theorem ux_creak {G : Gt} {M : Mm} {E : Gs} {T : Nat} (hX : XI M E) (V : IV E T) (hT : T < 2 ^ 29) {i t : Int32} : Call G 7 mX10_creak [.ref 0, .int i, .int t] M (UX (creakQ E i t) M E) := by
  obtain ⟨y, y', w, w', p, hX9⟩ := id hX
  exact (c_creak hX9 V.2.2.2.2.1.1 (by omega)).weaken (fun r M1 hh => ⟨hh.1, XF.sc hX hh.2⟩)
theorem ur_creak {G : Gt} {M : Mm} {E : Gs} {T : Nat} (hJ : RJ M E) (V : IV E T) (hT : T < 2 ^ 29) {i t : Int32} : Call G 7 mX11_creak [.ref 238, .int i, .int t] M (UR (creakQ E i t) M E) := (r_creak hJ V.2.2.2.2.1.1 (by omega) V.2.1.1).weaken (fun r M1 hh => ⟨hh.1, RFn.rc hJ hh.2⟩)
theorem ux_pops {G : Gt} {M : Mm} {E : Gs} {T : Nat} (hX : XI M E) (V : IV E T) (hT : T < 2 ^ 29) {i : Int32} : Call G 6 mX10_pops [.ref 0, .int i] M (UX (popsQ E i) M E) := by
  obtain ⟨y, y', w, w', p, hX9⟩ := id hX
  exact (c_pops hX9 V.2.2.2.2.1.1 (by omega)).weaken (fun r M1 hh => ⟨hh.1, XF.sc hX hh.2⟩)
theorem ur_pops {G : Gt} {M : Mm} {E : Gs} {T : Nat} (hJ : RJ M E) (V : IV E T) (hT : T < 2 ^ 29) {i : Int32} : Call G 8 mX11_pops [.ref 238, .int i] M (UR (popsQ E i) M E) := (r_pops hJ V.2.2.2.2.1.1 (by omega) V.2.1.1).weaken (fun r M1 hh => ⟨hh.1, RFn.rc hJ hh.2⟩)
theorem ux_first {G : Gt} {M : Mm} {E : Gs} {T : Nat} (hX : XI M E) (V : IV E T) (hT : T < 2 ^ 29) : Call G 6 mX10_first [.ref 0] M (UX (firstQ E) M E) := by
  obtain ⟨y, y', w, w', p, hX9⟩ := id hX
  exact (c_first hX9 V.2.2.2.2.1.1 (by omega)).weaken (fun r M1 hh => ⟨hh.1, XF.sc hX hh.2⟩)
theorem ur_first {G : Gt} {M : Mm} {E : Gs} {T : Nat} (hJ : RJ M E) (V : IV E T) (hT : T < 2 ^ 29) : Call G 8 mX11_first [.ref 238] M (UR (firstQ E) M E) := (r_first hJ V.2.2.2.2.1.1 (by omega) V.2.1.1).weaken (fun r M1 hh => ⟨hh.1, RFn.rc hJ hh.2⟩)
theorem ux_riot {G : Gt} {M : Mm} {E : Gs} {T : Nat} (hX : XI M E) (V : IV E T) (hT : T < 2 ^ 29) {i : Int32} : Call G 6 mX10_riot [.ref 0, .int i] M (UX (riotQ E i) M E) := by
  obtain ⟨y, y', w, w', p, hX9⟩ := id hX
  exact (c_riot hX9 V.2.2.2.2.1.1 (by omega)).weaken (fun r M1 hh => ⟨hh.1, XF.sc hX hh.2⟩)
theorem ur_riot {G : Gt} {M : Mm} {E : Gs} {T : Nat} (hJ : RJ M E) (V : IV E T) (hT : T < 2 ^ 29) {i : Int32} : Call G 7 mX11_riot [.ref 238, .int i] M (UR (riotQ E i) M E) := (r_riot hJ V.2.2.2.2.1.1 (by omega) V.2.1.1).weaken (fun r M1 hh => ⟨hh.1, RFn.rc hJ hh.2⟩)
theorem ux_calm {G : Gt} {M : Mm} {E : Gs} {T : Nat} (hX : XI M E) (V : IV E T) (hT : T < 2 ^ 29) {i : Int32} : Call G 3 mX10_calm [.ref 0, .int i] M (UX (calmQ E i) M E) := by
  obtain ⟨y, y', w, w', p, hX9⟩ := id hX
  exact (c_calm hX9 V.2.2.2.2.1.1).weaken (fun r M1 hh => ⟨hh.1, by rw [hh.2]; exact XF.rfl' hX⟩)
theorem ur_calm {G : Gt} {M : Mm} {E : Gs} {T : Nat} (hJ : RJ M E) (V : IV E T) (hT : T < 2 ^ 29) {i : Int32} : Call G 2 mX11_calm [.ref 238, .int i] M (UR (calmQ E i) M E) := (r_calm hJ V.2.2.2.2.1.1).weaken (fun r M1 hh => ⟨hh.1, RFn.rc hJ hh.2⟩)
theorem ux_roofed {G : Gt} {M : Mm} {E : Gs} {T : Nat} (hX : XI M E) (V : IV E T) (hT : T < 2 ^ 29) : Call G 6 mX10_roofed [.ref 0] M (UX (roofedQ E) M E) := by
  obtain ⟨y, y', w, w', p, hX9⟩ := id hX
  exact (c_roofed hX9 V.2.2.2.2.1.1 (by omega)).weaken (fun r M1 hh => ⟨hh.1, XF.sc hX hh.2⟩)
theorem ur_roofed {G : Gt} {M : Mm} {E : Gs} {T : Nat} (hJ : RJ M E) (V : IV E T) (hT : T < 2 ^ 29) : Call G 7 mX11_roofed [.ref 238] M (UR (roofedQ E) M E) := (r_roofed hJ V.2.2.2.2.1.1 (by omega) V.2.1.1).weaken (fun r M1 hh => ⟨hh.1, RFn.rc hJ hh.2⟩)
theorem ux_had {G : Gt} {M : Mm} {E : Gs} {T : Nat} (hX : XI M E) (V : IV E T) (hT : T < 2 ^ 29) {i : Int32} : Call G 5 mX10_had [.ref 0, .int i] M (UX (hadQ E i) M E) := by
  obtain ⟨y, y', w, w', p, hX9⟩ := id hX
  exact (c_had hX9 ).weaken (fun r M1 hh => ⟨hh.1, by rw [hh.2]; exact XF.rfl' hX⟩)
theorem ur_had {G : Gt} {M : Mm} {E : Gs} {T : Nat} (hJ : RJ M E) (V : IV E T) (hT : T < 2 ^ 29) {i : Int32} : Call G 4 mX11_had [.ref 238, .int i] M (UR (hadQ E i) M E) := (r_had hJ ).weaken (fun r M1 hh => ⟨hh.1, RFn.rc hJ hh.2⟩)
theorem ux_waits {G : Gt} {M : Mm} {E : Gs} {T : Nat} (hX : XI M E) (V : IV E T) (hT : T < 2 ^ 29) {i : Int32} : Call G 6 mX10_waits [.ref 0, .int i] M (UX (waitsQ E i) M E) := by
  obtain ⟨y, y', w, w', p, hX9⟩ := id hX
  exact (c_waits hX9 V.2.2.2.2.1.1 (by omega)).weaken (fun r M1 hh => ⟨hh.1, XF.sc hX hh.2⟩)
theorem ur_waits {G : Gt} {M : Mm} {E : Gs} {T : Nat} (hJ : RJ M E) (V : IV E T) (hT : T < 2 ^ 29) {i : Int32} : Call G 7 mX11_waits [.ref 238, .int i] M (UR (waitsQ E i) M E) := (r_waits hJ V.2.2.2.2.1.1 (by omega) V.2.1.1).weaken (fun r M1 hh => ⟨hh.1, RFn.rc hJ hh.2⟩)
theorem ux_plays {G : Gt} {M : Mm} {E : Gs} {T : Nat} (hX : XI M E) (V : IV E T) (hT : T < 2 ^ 29) {i : Int32} : Call G 16 mX10_plays [.ref 0, .int i] M (UX (playsQ E i) M E) := by
  obtain ⟨y, y', w, w', p, hX9⟩ := id hX
  exact (c_plays hX9 ).weaken (fun r M1 hh => ⟨hh.1, XF.sc hX hh.2⟩)
theorem ur_plays {G : Gt} {M : Mm} {E : Gs} {T : Nat} (hJ : RJ M E) (V : IV E T) (hT : T < 2 ^ 29) {i : Int32} : Call G 10 mX11_plays [.ref 238, .int i] M (UR (playsQ E i) M E) := (r_plays hJ ).weaken (fun r M1 hh => ⟨hh.1, RFn.rc hJ hh.2⟩)
theorem ux_blend {G : Gt} {M : Mm} {E : Gs} {T : Nat} (hX : XI M E) (V : IV E T) (hT : T < 2 ^ 29) {i : Int32} : Call G 5 mX10_blend [.ref 0, .int i] M (UX (blendQ E i) M E) := by
  obtain ⟨y, y', w, w', p, hX9⟩ := id hX
  exact (c_blend hX9 ).weaken (fun r M1 hh => ⟨hh.1, by rw [hh.2]; exact XF.rfl' hX⟩)
theorem ur_blend {G : Gt} {M : Mm} {E : Gs} {T : Nat} (hJ : RJ M E) (V : IV E T) (hT : T < 2 ^ 29) {i : Int32} : Call G 3 mX11_blend [.ref 238, .int i] M (UR (blendQ E i) M E) := (r_blend hJ V.2.2.2.2.1.1).weaken (fun r M1 hh => ⟨hh.1, RFn.rc hJ hh.2⟩)
theorem ux_aim {G : Gt} {M : Mm} {E : Gs} {T : Nat} (hX : XI M E) (V : IV E T) (hT : T < 2 ^ 29) {i t q : Int32} : Call G 7 mX10_aim [.ref 0, .int i, .int t, .int q] M (UX (aimQ E i t q) M E) := by
  obtain ⟨y, y', w, w', p, hX9⟩ := id hX
  exact (c_aim hX9 V.2.2.2.2.1.1 (by omega)).weaken (fun r M1 hh => ⟨hh.1, XF.sc hX hh.2⟩)
theorem ur_aim {G : Gt} {M : Mm} {E : Gs} {T : Nat} (hJ : RJ M E) (V : IV E T) (hT : T < 2 ^ 29) {i t q : Int32} : Call G 7 mX11_aim [.ref 238, .int i, .int t, .int q] M (UR (aimQ E i t q) M E) := (r_aim hJ V.2.2.2.2.1.1 (by omega) V.2.1.1).weaken (fun r M1 hh => ⟨hh.1, RFn.rc hJ hh.2⟩)
theorem ux_reach {G : Gt} {M : Mm} {E : Gs} {T : Nat} (hX : XI M E) (V : IV E T) (hT : T < 2 ^ 29) {i : Int32} : Call G 4 mX10_reach [.ref 0, .int i] M (UX (reachQ E i) M E) := by
  obtain ⟨y, y', w, w', p, hX9⟩ := id hX
  exact (c_reach hX9 ).weaken (fun r M1 hh => ⟨hh.1, by rw [hh.2]; exact XF.rfl' hX⟩)
theorem ur_reach {G : Gt} {M : Mm} {E : Gs} {T : Nat} (hJ : RJ M E) (V : IV E T) (hT : T < 2 ^ 29) {i : Int32} : Call G 2 mX11_reach [.ref 238, .int i] M (UR (reachQ E i) M E) := (r_reach hJ V.2.1.2.1).weaken (fun r M1 hh => ⟨hh.1, RFn.rc hJ hh.2⟩)
theorem ux_far {G : Gt} {M : Mm} {E : Gs} {T : Nat} (hX : XI M E) (V : IV E T) (hT : T < 2 ^ 29) {i t : Int32} : Call G 3 mX10_far [.ref 0, .int i, .int t] M (UX (farQ E i t) M E) := by
  obtain ⟨y, y', w, w', p, hX9⟩ := id hX
  exact (c_far hX9 ).weaken (fun r M1 hh => ⟨hh.1, by rw [hh.2]; exact XF.rfl' hX⟩)
theorem ur_far {G : Gt} {M : Mm} {E : Gs} {T : Nat} (hJ : RJ M E) (V : IV E T) (hT : T < 2 ^ 29) {i t : Int32} : Call G 2 mX11_far [.ref 238, .int i, .int t] M (UR (farQ E i t) M E) := (r_far hJ ).weaken (fun r M1 hh => ⟨hh.1, RFn.rc hJ hh.2⟩)
theorem ux_parts {G : Gt} {M : Mm} {E : Gs} {T : Nat} (hX : XI M E) (V : IV E T) (hT : T < 2 ^ 29) : Call G 4 mX10_parts [.ref 0] M (UX (partsQ E) M E) := by
  obtain ⟨y, y', w, w', p, hX9⟩ := id hX
  exact (c_parts hX9 ).weaken (fun r M1 hh => ⟨hh.1, by rw [hh.2]; exact XF.rfl' hX⟩)
theorem ur_parts {G : Gt} {M : Mm} {E : Gs} {T : Nat} (hJ : RJ M E) (V : IV E T) (hT : T < 2 ^ 29) : Call G 2 mX11_parts [.ref 238] M (UR (partsQ E) M E) := (r_parts hJ V.2.1.2.1).weaken (fun r M1 hh => ⟨hh.1, RFn.rc hJ hh.2⟩)
theorem ux_heard {G : Gt} {M : Mm} {E : Gs} {T : Nat} (hX : XI M E) (V : IV E T) (hT : T < 2 ^ 29) {i : Int32} : Call G 2 mX10_heard [.ref 0, .int i] M (UX (heardQ E i) M E) := by
  obtain ⟨y, y', w, w', p, hX9⟩ := id hX
  exact (c_heard hX9 ).weaken (fun r M1 hh => ⟨hh.1, by rw [hh.2]; exact XF.rfl' hX⟩)
theorem ur_heard {G : Gt} {M : Mm} {E : Gs} {T : Nat} (hJ : RJ M E) (V : IV E T) (hT : T < 2 ^ 29) {i : Int32} : Call G 2 mX11_heard [.ref 238, .int i] M (UR (heardQ E i) M E) := (r_heard hJ ).weaken (fun r M1 hh => ⟨hh.1, RFn.rc hJ hh.2⟩)
theorem ux_news {G : Gt} {M : Mm} {E : Gs} {T : Nat} (hX : XI M E) (V : IV E T) (hT : T < 2 ^ 29) : Call G 6 mX10_news [.ref 0] M (UX (newsQ E) M E) := by
  obtain ⟨y, y', w, w', p, hX9⟩ := id hX
  exact (c_news hX9 V.2.2.2.2.1.1 (by omega)).weaken (fun r M1 hh => ⟨hh.1, XF.sc hX hh.2⟩)
theorem ur_news {G : Gt} {M : Mm} {E : Gs} {T : Nat} (hJ : RJ M E) (V : IV E T) (hT : T < 2 ^ 29) : Call G 7 mX11_news [.ref 238] M (UR (newsQ E) M E) := (r_news hJ V.2.2.2.2.1.1 (by omega) V.2.1.1 V.2.1.2.1 V.2.2.2.2.1.2).weaken (fun r M1 hh => ⟨hh.1, RFn.rc hJ hh.2⟩)
theorem ux_loud {G : Gt} {M : Mm} {E : Gs} {T : Nat} (hX : XI M E) (V : IV E T) (hT : T < 2 ^ 29) : Call G 4 mX10_loud [.ref 0] M (UX (oI (amxN (murS E.S) E.Y.n)) M E) := by
  obtain ⟨y, y', w, w', p, hX9⟩ := id hX
  exact (c_loud hX9 ).weaken (fun r M1 hh => ⟨hh.1, by rw [hh.2]; exact XF.rfl' hX⟩)
theorem ur_loud {G : Gt} {M : Mm} {E : Gs} {T : Nat} (hJ : RJ M E) (V : IV E T) (hT : T < 2 ^ 29) : Call G 3 mX11_loud [.ref 238] M (UR (oI (amxN (murS E.S) E.Y.n)) M E) := (r_loud hJ ).weaken (fun r M1 hh => ⟨hh.1, RFn.rc hJ hh.2⟩)
theorem ux_tall {G : Gt} {M : Mm} {E : Gs} {T : Nat} (hX : XI M E) (V : IV E T) (hT : T < 2 ^ 29) : Call G 2 mX10_tall [.ref 0] M (UX (oI (amxN E.S.high E.Y.n)) M E) := by
  obtain ⟨y, y', w, w', p, hX9⟩ := id hX
  exact (c_tall hX9 ).weaken (fun r M1 hh => ⟨hh.1, by rw [hh.2]; exact XF.rfl' hX⟩)
theorem ur_tall {G : Gt} {M : Mm} {E : Gs} {T : Nat} (hJ : RJ M E) (V : IV E T) (hT : T < 2 ^ 29) : Call G 1 mX11_tall [.ref 238] M (UR (oI (amxN E.S.high E.Y.n)) M E) := (r_tall hJ ).weaken (fun r M1 hh => ⟨hh.1, RFn.rc hJ hh.2⟩)
theorem ux_yields {G : Gt} {M : Mm} {E : Gs} {T : Nat} (hX : XI M E) (V : IV E T) (hT : T < 2 ^ 29) {i : Int32} : Call G 7 mX10_yields [.ref 0, .int i] M (UX (yieldsQ E i) M E) := by
  obtain ⟨y, y', w, w', p, hX9⟩ := id hX
  exact (c_yields hX9 V.2.2.2.2.1.1 (by omega)).weaken (fun r M1 hh => ⟨hh.1, XF.sc hX hh.2⟩)
theorem ur_yields {G : Gt} {M : Mm} {E : Gs} {T : Nat} (hJ : RJ M E) (V : IV E T) (hT : T < 2 ^ 29) {i : Int32} : Call G 7 mX11_yields [.ref 238, .int i] M (UR (yieldsQ E i) M E) := (r_yields hJ V.2.2.2.2.1.1 (by omega) V.2.1.1).weaken (fun r M1 hh => ⟨hh.1, RFn.rc hJ hh.2⟩)
theorem ux_who {G : Gt} {M : Mm} {E : Gs} {T : Nat} (hX : XI M E) (V : IV E T) (hT : T < 2 ^ 29) : Call G 7 mX10_who [.ref 0] M (UX (whoV E) M E) := by
  obtain ⟨y, y', w, w', p, hX9⟩ := id hX
  exact (c_who hX9 V.2.2.2.2.1.1 (by omega) V.2.2.2.1).weaken (fun r M1 hh => ⟨hh.1, XF.sc hX hh.2⟩)
theorem ur_who {G : Gt} {M : Mm} {E : Gs} {T : Nat} (hJ : RJ M E) (V : IV E T) (hT : T < 2 ^ 29) : Call G 8 mX11_who [.ref 238] M (UR (whoV E) M E) := (r_who hJ V.2.2.2.2.1.1 (by omega) V.2.1.1 V.2.2.2.1).weaken (fun r M1 hh => ⟨hh.1, RFn.rc hJ hh.2.1⟩)
theorem ux_ask {G : Gt} {M : Mm} {E : Gs} {T : Nat} (hX : XI M E) (V : IV E T) (hT : T < 2 ^ 29) : Call G 7 mX10_ask [.ref 0] M (UX (askA E) M E) := by
  obtain ⟨y, y', w, w', p, hX9⟩ := id hX
  exact (c_ask hX9 V.2.2.2.2.1.1 (by omega) V.2.2.2.1).weaken (fun r M1 hh => ⟨hh.1, XF.sc hX hh.2⟩)
theorem ur_ask {G : Gt} {M : Mm} {E : Gs} {T : Nat} (hJ : RJ M E) (V : IV E T) (hT : T < 2 ^ 29) : Call G 9 mX11_ask [.ref 238] M (UR (askA E) M E) := (r_ask hJ V.2.2.2.2.1.1 (by omega) V.2.1.1 V.2.2.2.1).weaken (fun r M1 hh => ⟨hh.1, RFn.rc hJ hh.2⟩)
theorem ux_stick {G : Gt} {M : Mm} {E : Gs} {T : Nat} (hX : XI M E) (V : IV E T) (hT : T < 2 ^ 29) : Call G 2 mX10_stick [.ref 0] M (UX (stickV E.Y.n E.S.crow) M E) := by
  obtain ⟨y, y', w, w', p, hX9⟩ := id hX
  exact (c_stick hX9 V.2.2.2.2.1.1).weaken (fun r M1 hh => ⟨hh.1, by rw [hh.2]; exact XF.rfl' hX⟩)
theorem ur_stick {G : Gt} {M : Mm} {E : Gs} {T : Nat} (hJ : RJ M E) (V : IV E T) (hT : T < 2 ^ 29) : Call G 1 mX11_stick [.ref 238] M (UR (stickV E.Y.n E.S.crow) M E) := (r_stick hJ V.2.2.2.2.1.1).weaken (fun r M1 hh => ⟨hh.1, RFn.rc hJ hh.2⟩)
theorem ux_chance {G : Gt} {M : Mm} {E : Gs} {T : Nat} (hX : XI M E) (V : IV E T) (hT : T < 2 ^ 29) {i t q : Int32} : Call G 6 mX10_chance [.ref 0, .int i, .int t, .int q] M (UX (chanceQ E i t q) M E) := by
  obtain ⟨y, y', w, w', p, hX9⟩ := id hX
  exact (c_chance hX9 V.2.2.2.2.1.1 (by omega)).weaken (fun r M1 hh => ⟨hh.1, XF.sc hX hh.2⟩)
theorem ur_chance {G : Gt} {M : Mm} {E : Gs} {T : Nat} (hJ : RJ M E) (V : IV E T) (hT : T < 2 ^ 29) {i t q : Int32} : Call G 6 mX11_chance [.ref 238, .int i, .int t, .int q] M (UR (chanceQ E i t q) M E) := (r_chance hJ V.2.2.2.2.1.1 (by omega) V.2.1.1).weaken (fun r M1 hh => ⟨hh.1, RFn.rc hJ hh.2⟩)
theorem ux_weeks {G : Gt} {M : Mm} {E : Gs} {T : Nat} (hX : XI M E) (V : IV E T) (hT : T < 2 ^ 29) {i t q : Int32} : Call G 6 mX10_weeks [.ref 0, .int i, .int t, .int q] M (UX (weeksQ E i t q) M E) := by
  obtain ⟨y, y', w, w', p, hX9⟩ := id hX
  exact (c_weeks hX9 V.2.2.2.2.1.1 (by omega)).weaken (fun r M1 hh => ⟨hh.1, XF.sc hX hh.2⟩)
theorem ur_weeks {G : Gt} {M : Mm} {E : Gs} {T : Nat} (hJ : RJ M E) (V : IV E T) (hT : T < 2 ^ 29) {i t q : Int32} : Call G 8 mX11_weeks [.ref 238, .int i, .int t, .int q] M (UR (weeksQ E i t q) M E) := (r_weeks hJ V.2.2.2.2.1.1 (by omega) V.2.1.1).weaken (fun r M1 hh => ⟨hh.1, RFn.rc hJ hh.2⟩)
theorem ux_count {G : Gt} {M : Mm} {E : Gs} {T : Nat} (hX : XI M E) (V : IV E T) (hT : T < 2 ^ 29) {i : Int32} : Call G 5 mX10_count [.ref 0, .int i] M (UX (countQ E i) M E) := by
  obtain ⟨y, y', w, w', p, hX9⟩ := id hX
  exact (c_count hX9 V.2.2.2.2.1.1 (by omega)).weaken (fun r M1 hh => ⟨hh.1, by rw [hh.2]; exact XF.rfl' hX⟩)
theorem ur_count {G : Gt} {M : Mm} {E : Gs} {T : Nat} (hJ : RJ M E) (V : IV E T) (hT : T < 2 ^ 29) {i : Int32} : Call G 4 mX11_count [.ref 238, .int i] M (UR (countQ E i) M E) := (r_count hJ V.2.2.2.2.1.1 (by omega)).weaken (fun r M1 hh => ⟨hh.1, RFn.rc hJ hh.2⟩)
theorem ux_feed {G : Gt} {M : Mm} {E : Gs} {T : Nat} (hX : XI M E) (V : IV E T) (hT : T < 2 ^ 29) {a b c : Int64} : Call G 4 mX10_feed [.ref 0, .long a, .long b, .long c] M (UX (nI (feedT E.1 a b c).1) M (E.setT (feedT E.1 a b c))) := by
  obtain ⟨y, y', w, w', p, hX9⟩ := id hX
  refine (c_feed hX9).weaken (fun r M1 hh => ?_)
  exact ⟨hh.1, XF.xe hh.2⟩
theorem ur_feed {G : Gt} {M : Mm} {E : Gs} {T : Nat} (hJ : RJ M E) (V : IV E T) (hT : T < 2 ^ 29) {a b c : Int64} : Call G 1 mX11_feed [.ref 238, .long a, .long b, .long c] M (UR (nI (feedT E.1 a b c).1) M (E.setT (feedT E.1 a b c))) := by
  refine (r_feed hJ).weaken (fun r M1 hh => ?_)
  exact ⟨hh.1, RFn.re hh.2⟩
theorem ux_yard {G : Gt} {M : Mm} {E : Gs} {T : Nat} (hX : XI M E) (V : IV E T) (hT : T < 2 ^ 29) {b : Nat} (hb : 35 ≤ b ∧ b ≤ 40) : Call G 101 mX10_yard [.ref 0] M (UX (yardR b E).1.1 M (yardE b E)) := by
  obtain ⟨y, y', w, w', p, hX9⟩ := id hX
  refine (c_yard hX9 hb V.1).weaken (fun r M1 hh => ?_)
  exact ⟨hh.1, XF.xe hh.2⟩
theorem ur_yard {G : Gt} {M : Mm} {E : Gs} {T : Nat} (hJ : RJ M E) (V : IV E T) (hT : T < 2 ^ 29) {b : Nat} (hb : 35 ≤ b ∧ b ≤ 40) : Call G 7 mX11_yard [.ref 238] M (UR (yardR b E).1.1 M (yardE b E)) := by
  refine (r_yard hJ hb.1 V.1).weaken (fun r M1 hh => ?_)
  exact ⟨hh.1, RFn.re hh.2⟩
theorem ux_week {G : Gt} {M : Mm} {E : Gs} {T : Nat} (hX : XI M E) (V : IV E T) (hT : T < 2 ^ 29) : Call G 12 mX10_week [.ref 0] M (UX (weekR E).1.1 M (weekE E)) := by
  obtain ⟨y, y', w, w', p, hX9⟩ := id hX
  refine (c_week hX9 V.1).weaken (fun r M1 hh => ?_)
  exact ⟨hh.1, XF.xe hh.2⟩
theorem ur_week {G : Gt} {M : Mm} {E : Gs} {T : Nat} (hJ : RJ M E) (V : IV E T) (hT : T < 2 ^ 29) : Call G 5 mX11_week [.ref 238] M (UR (weekR E).1.1 M (weekE E)) := by
  refine (r_week hJ V.1).weaken (fun r M1 hh => ?_)
  exact ⟨hh.1, RFn.re hh.2⟩
theorem ux_night {G : Gt} {M : Mm} {E : Gs} {T : Nat} (hX : XI M E) (V : IV E T) (hT : T < 2 ^ 29) : Call G 5 mX10_night [.ref 0] M (UX (popN E.Y E.S) M (nightE E)) := by
  obtain ⟨y, y', w, w', p, hX9⟩ := id hX
  refine (c_night hX9 V.2.2.2.2.1.1 (by omega)).weaken (fun r M1 hh => ?_)
  exact ⟨hh.1, XF.xe hh.2⟩
theorem ur_night {G : Gt} {M : Mm} {E : Gs} {T : Nat} (hJ : RJ M E) (V : IV E T) (hT : T < 2 ^ 29) : Call G 7 mX11_night [.ref 238] M (UR (popN E.Y E.S) M (nightE E)) := by
  refine (r_night hJ V.2.2.2.2.1.1 (by omega) V.2.1.1).weaken (fun r M1 hh => ?_)
  exact ⟨hh.1, RFn.re hh.2⟩
theorem ux_heat {G : Gt} {M : Mm} {E : Gs} {T : Nat} (hX : XI M E) (V : IV E T) (hT : T < 2 ^ 29) {i v : Int32} : Call G 4 mX10_heat [.ref 0, .int i, .int v] M (UX (heatW E i v).1 M (heatW E i v).2) := by
  obtain ⟨y, y', w, w', p, hX9⟩ := id hX
  refine (c_heat hX9).weaken (fun r M1 hh => ?_)
  unfold heatW
  by_cases c9 : vSh E i ∧ vWi v 0 9
  · rw [if_pos c9]; exact ⟨(hh.1 c9).1, XF.xe (hh.1 c9).2⟩
  · rw [if_neg c9]; exact ⟨(hh.2 (c9)).1, by rw [(hh.2 (c9)).2]; exact XF.rfl' hX⟩
theorem ur_heat {G : Gt} {M : Mm} {E : Gs} {T : Nat} (hJ : RJ M E) (V : IV E T) (hT : T < 2 ^ 29) {i v : Int32} : Call G 3 mX11_heat [.ref 238, .int i, .int v] M (UR (heatW E i v).1 M (heatW E i v).2) := by
  refine (r_heat hJ).weaken (fun r M1 hh => ?_)
  unfold heatW
  by_cases c9 : vSh E i ∧ vWi v 0 9
  · rw [if_pos c9]; exact ⟨(hh.1 c9).1, RFn.re (hh.1 c9).2⟩
  · rw [if_neg c9]; exact ⟨(hh.2 (c9)).1, RFn.rc hJ (hh.2 (c9)).2⟩
theorem ux_light {G : Gt} {M : Mm} {E : Gs} {T : Nat} (hX : XI M E) (V : IV E T) (hT : T < 2 ^ 29) {i : Int32} : Call G 4 mX10_light [.ref 0, .int i] M (UX (lightW E i).1 M (lightW E i).2) := by
  obtain ⟨y, y', w, w', p, hX9⟩ := id hX
  refine (c_light hX9).weaken (fun r M1 hh => ?_)
  unfold lightW
  by_cases c9 : vSh E i ∧ ¬ bitI E.S.lit i
  · rw [if_pos c9]; exact ⟨(hh.1 c9).1, XF.xe (hh.1 c9).2⟩
  · rw [if_neg c9]; exact ⟨(hh.2 (c9)).1, by rw [(hh.2 (c9)).2]; exact XF.rfl' hX⟩
theorem ur_light {G : Gt} {M : Mm} {E : Gs} {T : Nat} (hJ : RJ M E) (V : IV E T) (hT : T < 2 ^ 29) {i : Int32} : Call G 3 mX11_light [.ref 238, .int i] M (UR (lightW E i).1 M (lightW E i).2) := by
  refine (r_light hJ).weaken (fun r M1 hh => ?_)
  unfold lightW
  by_cases c9 : vSh E i ∧ ¬ bitI E.S.lit i
  · rw [if_pos c9]; exact ⟨(hh.1 c9).1, RFn.re (hh.1 c9).2⟩
  · rw [if_neg c9]; exact ⟨(hh.2 (c9)).1, RFn.rc hJ (hh.2 (c9)).2⟩
theorem ux_pull {G : Gt} {M : Mm} {E : Gs} {T : Nat} (hX : XI M E) (V : IV E T) (hT : T < 2 ^ 29) {i v : Int32} : Call G 4 mX10_pull [.ref 0, .int i, .int v] M (UX (pullW E i v).1 M (pullW E i v).2) := by
  obtain ⟨y, y', w, w', p, hX9⟩ := id hX
  refine (c_pull hX9).weaken (fun r M1 hh => ?_)
  unfold pullW
  by_cases c9 : vSh E i ∧ vWi v 1 20 ∧ canB E.S i.toNatClampNeg v = true
  · rw [if_pos c9]; exact ⟨(hh.1 c9).1, XF.xe (hh.1 c9).2⟩
  · rw [if_neg c9]; exact ⟨(hh.2 (c9)).1, by rw [(hh.2 (c9)).2]; exact XF.rfl' hX⟩
theorem ur_pull {G : Gt} {M : Mm} {E : Gs} {T : Nat} (hJ : RJ M E) (V : IV E T) (hT : T < 2 ^ 29) {i v : Int32} : Call G 3 mX11_pull [.ref 238, .int i, .int v] M (UR (pullW E i v).1 M (pullW E i v).2) := by
  refine (r_pull hJ).weaken (fun r M1 hh => ?_)
  unfold pullW
  by_cases c9 : vSh E i ∧ vWi v 1 20 ∧ canB E.S i.toNatClampNeg v = true
  · rw [if_pos c9]; exact ⟨(hh.1 c9).1, RFn.re (hh.1 c9).2⟩
  · rw [if_neg c9]; exact ⟨(hh.2 (c9)).1, RFn.rc hJ (hh.2 (c9)).2⟩
theorem ux_undo {G : Gt} {M : Mm} {E : Gs} {T : Nat} (hX : XI M E) (V : IV E T) (hT : T < 2 ^ 29) : Call G 3 mX10_undo [.ref 0] M (UX (undoW E).1 M (undoW E).2) := by
  obtain ⟨y, y', w, w', p, hX9⟩ := id hX
  refine (c_undo hX9).weaken (fun r M1 hh => ?_)
  unfold undoW
  by_cases c9 : 0 < E.un
  · rw [if_pos c9]; exact ⟨(hh.1 c9).1, XF.xe (hh.1 c9).2⟩
  · rw [if_neg c9]; exact ⟨(hh.2 (by omega)).1, by rw [(hh.2 (by omega)).2]; exact XF.rfl' hX⟩
theorem ur_undo {G : Gt} {M : Mm} {E : Gs} {T : Nat} (hJ : RJ M E) (V : IV E T) (hT : T < 2 ^ 29) : Call G 2 mX11_undo [.ref 238] M (UR (undoW E).1 M (undoW E).2) := by
  refine (r_undo hJ).weaken (fun r M1 hh => ?_)
  unfold undoW
  by_cases c9 : 0 < E.un
  · rw [if_pos c9]; exact ⟨(hh.1 c9).1, RFn.re (hh.1 c9).2⟩
  · rw [if_neg c9]; exact ⟨(hh.2 (by omega)).1, RFn.rc hJ (hh.2 (by omega)).2⟩
theorem ux_see {G : Gt} {M : Mm} {E : Gs} {T : Nat} (hX : XI M E) (V : IV E T) (hT : T < 2 ^ 29) {t m b : Int32} (hz : b = 0 ∨ b = 1) : Call G 3 mX10_see [.ref 0, .int t, .int m, .int b] M (UX (seeW E t m b).1 M (seeW E t m b).2) := by
  obtain ⟨y, y', w, w', p, hX9⟩ := id hX
  refine (c_see hX9 hz).weaken (fun r M1 hh => ?_)
  unfold seeW
  by_cases c9 : seeB E t m = true
  · rw [if_pos c9]; exact ⟨(hh.1 c9).1, XF.xe (hh.1 c9).2⟩
  · rw [if_neg c9]; exact ⟨(hh.2 (by simpa using c9)).1, by rw [(hh.2 (by simpa using c9)).2]; exact XF.rfl' hX⟩
theorem ur_see {G : Gt} {M : Mm} {E : Gs} {T : Nat} (hJ : RJ M E) (V : IV E T) (hT : T < 2 ^ 29) {t m b : Int32} (hz : b = 0 ∨ b = 1) : Call G 2 mX11_see [.ref 238, .int t, .int m, .int b] M (UR (seeW E t m b).1 M (seeW E t m b).2) := by
  refine (r_see hJ hz).weaken (fun r M1 hh => ?_)
  unfold seeW
  by_cases c9 : seeB E t m = true
  · rw [if_pos c9]; exact ⟨(hh.1 c9).1, RFn.re (hh.1 c9).2⟩
  · rw [if_neg c9]; exact ⟨(hh.2 (by simpa using c9)).1, RFn.rc hJ (hh.2 (by simpa using c9)).2⟩
theorem ux_mark {G : Gt} {M : Mm} {E : Gs} {T : Nat} (hX : XI M E) (V : IV E T) (hT : T < 2 ^ 29) {i b : Int32} (hz : b = 0 ∨ b = 1) : Call G 3 mX10_mark [.ref 0, .int i, .int b] M (UX (markV E i b).1 M (markV E i b).2) := by
  obtain ⟨y, y', w, w', p, hX9⟩ := id hX
  by_cases c9 : ¬ i < 0 ∧ i < nI 4
  · obtain ⟨k, hk2, rfl⟩ := nI_of c9.1
    have hk : k < 4 := (nI_ltI hk2 (by omega)).mp c9.2
    have hc : (nI k).toNatClampNeg = k := nI_clamp hk2
    rcases hz with rfl | rfl
    · have e : markV E (nI k) 0 = (1, layE E k) := by unfold markV; rw [if_pos c9, if_pos rfl, hc]
      rw [e]
      exact (c_markL hX9 hk rfl).weaken (fun r M1 hh => ⟨hh.1, XF.xe hh.2⟩)
    · cases hK : E.K k with
      | none =>
        have e : markV E (nI k) 1 = (0, E) := by unfold markV; rw [if_pos c9, if_neg (by decide), hc, hK]
        rw [e]
        exact (c_markB hX9 hk rfl).weaken (fun r M1 hh => by rw [hK] at hh; exact ⟨hh.1, by rw [hh.2]; exact XF.rfl' hX⟩)
      | some q =>
        have e : markV E (nI k) 1 = (1, backE E q) := by unfold markV; rw [if_pos c9, if_neg (by decide), hc, hK]
        rw [e]
        exact (c_markB hX9 hk rfl).weaken (fun r M1 hh => by rw [hK] at hh; exact ⟨hh.1, XF.xe hh.2⟩)
  · have e : markV E i b = (0, E) := by unfold markV; rw [if_neg c9]
    rw [e]
    exact (c_markN hX9 c9).weaken (fun r M1 hh => ⟨hh.1, by rw [hh.2]; exact XF.rfl' hX⟩)
theorem ur_mark {G : Gt} {M : Mm} {E : Gs} {T : Nat} (hJ : RJ M E) (V : IV E T) (hT : T < 2 ^ 29) {i b : Int32} (hz : b = 0 ∨ b = 1) : Call G 2 mX11_mark [.ref 238, .int i, .int b] M (UR (markV E i b).1 M (markV E i b).2) := by
  by_cases c9 : ¬ i < 0 ∧ i < nI 4
  · obtain ⟨k, hk2, rfl⟩ := nI_of c9.1
    have hk : k < 4 := (nI_ltI hk2 (by omega)).mp c9.2
    have hc : (nI k).toNatClampNeg = k := nI_clamp hk2
    rcases hz with rfl | rfl
    · have e : markV E (nI k) 0 = (1, layE E k) := by unfold markV; rw [if_pos c9, if_pos rfl, hc]
      rw [e]
      exact (r_markL hJ hk V.2.2.2.1).weaken (fun r M1 hh => ⟨hh.1, RFn.re hh.2⟩)
    · cases hK : E.K k with
      | none =>
        have e : markV E (nI k) 1 = (0, E) := by unfold markV; rw [if_pos c9, if_neg (by decide), hc, hK]
        rw [e]
        exact (r_markB0 hJ hk hK).weaken (fun r M1 hh => by exact ⟨hh.1, RFn.rc hJ hh.2⟩)
      | some q =>
        have e : markV E (nI k) 1 = (1, backE E q) := by unfold markV; rw [if_pos c9, if_neg (by decide), hc, hK]
        rw [e]
        exact (r_markB1 hJ hk hK (V.2.2.2.2.2.2 k q hK).2.2).weaken (fun r M1 hh => by exact ⟨hh.1, RFn.re hh.2⟩)
  · have e : markV E i b = (0, E) := by unfold markV; rw [if_neg c9]
    rw [e]
    exact (r_markN hJ c9).weaken (fun r M1 hh => ⟨hh.1, RFn.rc hJ hh.2⟩)
end UNI
