section XTK
theorem e_getWORDSN {G : Gt} {d pc : Nat} {mi : Mi} {ls st : List Value} {M : Mm} {Q : Option Value → Mm → Prop} {idx : Nat} (hd : decode mi.2.1 pc = .ok (.getstatic idx, 3)) (hw : ∃ host, Jvm.Cond.fieldLinkNest mi.1.cls idx "MurmurSheds" "WORDS" "[LMurmurSheds$Word;" host ∈ nwl) (k : Ev G d mi (pc + 3) ls (.ref 2100 :: st) M Q) : Ev G d mi pc ls st M Q := by
  intro p e s m args below meth c R Z k0 n0 H locs lsA C hP hS hl
  obtain ⟨⟨hx, hb, hml, hown, hts, hK, hRO, hRT, hG⟩, hR, hret⟩ := id C
  obtain ⟨host, hw⟩ := hw
  exact va_getsN hx hb hRO.2.2.2.2.1 hS hown (hK.2 _ hw) (fun _ h => h) hd (k p e s m args below meth c R Z k0 n0 H locs lsA C hP hS hl)
theorem setP_1 (M : Mm) (i k v : Nat) : (setP M i k v).1 = M.1 := rfl
theorem setP_21 (M : Mm) (i k v : Nat) : (setP M i k v).2.1 = M.2.1 := rfl
theorem setP_22 (M : Mm) (i k v j q : Nat) : (setP M i k v).2.2 j q = if j = i ∧ q = k then v else M.2.2 j q := rfl
theorem nI_subN {a b : Nat} (h : b ≤ a) : nI a - nI b = nI (a - b) := by
  obtain ⟨c, rfl⟩ := Nat.exists_eq_add_of_le h
  rw [Nat.add_sub_cancel_left]
  show Int32.ofNat (b + c) - Int32.ofNat b = Int32.ofNat c
  rw [Int32.ofNat_add, Int32.add_comm]
  exact Int32.add_sub_cancel _ _
abbrev Tv : Type := Nat × (Nat → Int32)
/-- the tape holds signs -/
def TI (t : Tv) : Prop := t.1 ≤ 1000 ∧ ∀ k, k < t.1 → ∃ m, m < 127 ∧ t.2 k = nI m
def skB (t : Tv) : Nat → Nat → Nat
  | 0, i => i
  | k + 1, i => if t.2 i = 32 ∨ t.2 i = 10 then skB t k (i + 1) else i
/-- where the next token begins -/
def pl (t : Tv) (i : Nat) : Nat := skB t (t.1 - i) i
theorem pl_n {t : Tv} {i : Nat} (h : t.1 ≤ i) : pl t i = i := by
  unfold pl
  rw [show t.1 - i = 0 by omega]
  rfl
theorem pl_s {t : Tv} {i : Nat} (h : i < t.1) (hb : t.2 i = 32 ∨ t.2 i = 10) : pl t i = pl t (i + 1) := by
  unfold pl
  rw [show t.1 - i = (t.1 - (i + 1)) + 1 by omega, skB, if_pos hb]
theorem pl_e {t : Tv} {i : Nat} (h : i < t.1) (hb : ¬ (t.2 i = 32 ∨ t.2 i = 10)) : pl t i = i := by
  unfold pl
  rw [show t.1 - i = (t.1 - (i + 1)) + 1 by omega, skB, if_neg hb]
theorem skB_le {t : Tv} : ∀ (k i : Nat), i ≤ skB t k i ∧ skB t k i ≤ i + k := by
  intro k
  induction k with
  | zero => intro i; exact ⟨Nat.le_refl _, Nat.le_refl _⟩
  | succ k ih =>
    intro i
    rw [skB]
    split
    · have := ih (i + 1); omega
    · omega
theorem pl_le {t : Tv} {i : Nat} (h : i ≤ t.1) : i ≤ pl t i ∧ pl t i ≤ t.1 := by
  have := skB_le (t := t) (t.1 - i) i
  unfold pl
  omega
def rnN (lo hi : Int32) (t : Tv) : Nat → Nat → Nat
  | 0, i => i
  | k + 1, i => if vWi (t.2 i) lo hi then rnN lo hi t k (i + 1) else i
/-- the end of a run of signs -/
def rn (lo hi : Int32) (t : Tv) (i : Nat) : Nat := rnN lo hi t (t.1 - i) i
theorem rn_n {lo hi : Int32} {t : Tv} {i : Nat} (h : t.1 ≤ i) : rn lo hi t i = i := by
  unfold rn
  rw [show t.1 - i = 0 by omega]
  rfl
theorem rn_s {lo hi : Int32} {t : Tv} {i : Nat} (h : i < t.1) (hb : vWi (t.2 i) lo hi) : rn lo hi t i = rn lo hi t (i + 1) := by
  unfold rn
  rw [show t.1 - i = (t.1 - (i + 1)) + 1 by omega, rnN, if_pos hb]
theorem rn_e {lo hi : Int32} {t : Tv} {i : Nat} (h : i < t.1) (hb : ¬ vWi (t.2 i) lo hi) : rn lo hi t i = i := by
  unfold rn
  rw [show t.1 - i = (t.1 - (i + 1)) + 1 by omega, rnN, if_neg hb]
theorem rnN_le {lo hi : Int32} {t : Tv} : ∀ (k i : Nat), i ≤ rnN lo hi t k i ∧ rnN lo hi t k i ≤ i + k := by
  intro k
  induction k with
  | zero => intro i; exact ⟨Nat.le_refl _, Nat.le_refl _⟩
  | succ k ih =>
    intro i
    rw [rnN]
    split
    · have := ih (i + 1); omega
    · omega
theorem rn_le {lo hi : Int32} {t : Tv} {i : Nat} (h : i ≤ t.1) : i ≤ rn lo hi t i ∧ rn lo hi t i ≤ t.1 := by
  have := rnN_le (lo := lo) (hi := hi) (t := t) (t.1 - i) i
  unfold rn
  omega
def acW (t : Tv) (p : Nat) : Nat → Int64
  | 0 => 0
  | k + 1 => acW t p k * 27 + (t.2 (p + k)).toInt64 - 97 + 1
def acN (t : Tv) (p : Nat) : Nat → Int32
  | 0 => 0
  | k + 1 => acN t p k * 10 + t.2 (p + k) - 48
def wdP (t : Tv) (p : Nat) : Int64 := acW t p (rn 97 122 t p - p)
def nmP (t : Tv) (p : Nat) : Int32 := acN t p (rn 48 57 t p - p)
/-- the token's kind: 0 the end, 1 none, 2 a word, 3 a number, 4 a sign -/
def kdP (t : Tv) (p : Nat) : Int32 := if p < t.1 then (if vWi (t.2 p) 97 122 then (if 8 < rn 97 122 t p - p then 1 else 2) else if vWi (t.2 p) 48 57 then (if 4 < rn 48 57 t p - p then 1 else 3) else if t.2 p ∈ sgL then 4 else 1) else 0
def enP (t : Tv) (p : Nat) : Nat := if p < t.1 then (if vWi (t.2 p) 97 122 then rn 97 122 t p else if vWi (t.2 p) 48 57 then rn 48 57 t p else p + 1) else p
def wIN (w : Int64) : Nat → Nat
  | 0 => 0
  | k + 1 => if wLet.getD k 0 = w then k else wIN w k
def wI (w : Int64) : Nat := wIN w 25
theorem wIN_lt {w : Int64} : ∀ k, k ≤ 25 → wIN w k < 25 := by
  intro k
  induction k with
  | zero => intro _; exact (by decide : (0 : Nat) < 25)
  | succ k ih =>
    intro h
    rw [wIN]
    split
    · omega
    · exact ih (by omega)
theorem wI_lt (w : Int64) : wI w < 25 := wIN_lt 25 (Nat.le_refl _)
theorem ok_W {k : Nat} (h : k < 25) : okId (2000 + k) := Or.inr ⟨by omega, by omega⟩
/-- only the tokens changed -/
def TS (M M' : Mm) : Prop := (∀ i, ¬ i = 6 → M'.1 i = M.1 i) ∧ (∀ i, ¬ i = 6 → M'.2.1 i = M.2.1 i) ∧ ∀ i, ¬ i = 6 → M'.2.2 i = M.2.2 i
theorem TS.rfl' {M : Mm} : TS M M := ⟨fun _ _ => rfl, fun _ _ => rfl, fun _ _ => rfl⟩
theorem TS.trans {A B C : Mm} (h : TS A B) (k : TS B C) : TS A C := ⟨fun i q => (k.1 i q).trans (h.1 i q), fun i q => (k.2.1 i q).trans (h.2.1 i q), fun i q => (k.2.2 i q).trans (h.2.2 i q)⟩
theorem TS.i {M Mc : Mm} (h : TS M Mc) (k : Nat) (v : Int32) : TS M (setI Mc 6 k v) := ⟨fun i q => by funext z; rw [setI_1, if_neg (fun e => q e.1)]; rw [h.1 i q], fun i q => h.2.1 i q, fun i q => h.2.2 i q⟩
theorem TS.l {M Mc : Mm} (h : TS M Mc) (k : Nat) (v : Int64) : TS M (setL Mc 6 k v) := ⟨fun i q => h.1 i q, fun i q => by funext z; rw [setL_21, if_neg (fun e => q e.1)]; rw [h.2.1 i q], fun i q => h.2.2 i q⟩
theorem TS.p {M Mc : Mm} (h : TS M Mc) (k v : Nat) : TS M (setP Mc 6 k v) := ⟨fun i q => h.1 i q, fun i q => h.2.1 i q, fun i q => by funext z; rw [setP_22, if_neg (fun e => q e.1)]; rw [h.2.2 i q]⟩
theorem TX.ts {M M' : Mm} {t : Tv} (h : TX M t) (hs : TS M M') (h1 : M'.1 6 1 = M.1 6 1) : TX M' t := ⟨h1.trans h.1, h.2.1, fun k hk => by rw [hs.1 7 (by decide)]; exact h.2.2 k hk⟩
/-- at work: the tape, where it goes on; the token's place and the fault stay -/
def TV (M Mc : Mm) (t : Tv) (nx : Nat) : Prop := TS M Mc ∧ TX Mc t ∧ Mc.1 6 2 = nI nx ∧ Mc.1 6 4 = M.1 6 4 ∧ Mc.1 6 9 = M.1 6 9
theorem TV.n {M Mc : Mm} {t : Tv} {a b : Nat} (h : TV M Mc t a) : TV M (setI Mc 6 2 (nI b)) t b := ⟨h.1.i _ _, ⟨by rw [setI_1, if_neg (by decide)]; exact h.2.1.1, h.2.1.2.1, fun k hk => by rw [setI_1, if_neg (by omega)]; exact h.2.1.2.2 k hk⟩, by rw [setI_1, if_pos ⟨rfl, rfl⟩], by rw [setI_1, if_neg (by decide)]; exact h.2.2.2.1, by rw [setI_1, if_neg (by decide)]; exact h.2.2.2.2⟩
theorem TV.i {M Mc : Mm} {t : Tv} {a k : Nat} {v : Int32} (h : TV M Mc t a) (hk : k = 3 ∨ k = 5 ∨ k = 6) : TV M (setI Mc 6 k v) t a := ⟨h.1.i _ _, ⟨by rw [setI_1, if_neg (by omega)]; exact h.2.1.1, h.2.1.2.1, fun k hk => by rw [setI_1, if_neg (by omega)]; exact h.2.1.2.2 k hk⟩, by rw [setI_1, if_neg (by omega)]; exact h.2.2.1, by rw [setI_1, if_neg (by omega)]; exact h.2.2.2.1, by rw [setI_1, if_neg (by omega)]; exact h.2.2.2.2⟩
theorem TV.l {M Mc : Mm} {t : Tv} {a k : Nat} {v : Int64} (h : TV M Mc t a) : TV M (setL Mc 6 k v) t a := ⟨h.1.l _ _, h.2.1, h.2.2.1, h.2.2.2.1, h.2.2.2.2⟩
theorem TV.p {M Mc : Mm} {t : Tv} {a k v : Nat} (h : TV M Mc t a) : TV M (setP Mc 6 k v) t a := ⟨h.1.p _ _, h.2.1, h.2.2.1, h.2.2.2.1, h.2.2.2.2⟩
theorem cmp0 {x y : Int64} : lg_cmp x y = 0 ↔ x = y := by
  have h := lg_cmp_ge x y
  have k := lg_cmp_le x y
  constructor
  · intro e
    exact Int64.le_antisymm (k.mp (by rw [e]; decide)) (h.mp (by rw [e]; decide))
  · intro e
    subst e
    exact Int32.le_antisymm (k.mpr (Int64.le_refl _)) (h.mpr (Int64.le_refl _))
set_option maxHeartbeats 4000000 in
set_option maxRecDepth 20000 in
theorem l_rw2 {G : Gt} {M : Mm} {t : Tv} {p : Nat} (hp : p < t.1) (hw : vWi (t.2 p) 97 122) (h4 : M.1 6 4 = nI p) : ∀ (k : Nat) (i : Nat) (Mc : Mm) (u : Value), (i ≤ 25) → (25 < i + k) → (TV M Mc t (rn 97 122 t p) ∧ Mc.1 6 3 = (if 8 < rn 97 122 t p - p then 1 else 2) ∧ Mc.2.1 6 7 = wdP t p ∧ Mc.2.2 6 8 = 2000 + wIN (wdP t p) i) → Ev G 2 mX4_readWord 120 [.ref 6, .ref 2100, .int 25, .int (nI i), u] [] Mc (fun r M' => r = none ∧ TV M M' t (rn 97 122 t p) ∧ M'.1 6 3 = (if 8 < rn 97 122 t p - p then 1 else 2) ∧ M'.2.1 6 7 = wdP t p ∧ M'.2.2 6 8 = 2000 + wI (wdP t p)) := by
  intro k
  induction k with
  | zero => intro i Mc u hi hk hv; exact absurd hk (by omega)
  | succ k ih =>
    intro i Mc u hi hk hv
    refine e_iload_n dX4_readWord_120 rfl ?_
    refine e_iload_n dX4_readWord_121 rfl ?_
    refine e_icmp_ge (tgt := 155) dX4_readWord_122 (by decide) (fun c122 => ?_) (fun c122 => ?_)
    · -- 122 jumps
      have hin : i = 25 := by have := ge_of (n := 25) (by omega) (by omega) c122; omega
      subst hin
      refine e_vret dX4_readWord_155 rfl ?_
      exact ⟨rfl, hv.1, hv.2.1, hv.2.2.1, hv.2.2.2⟩
    · -- 122 goes on
      have hlt : i < 25 := lt_of (n := 25) (by omega) (by omega) c122
      refine e_aload_n dX4_readWord_125 rfl ?_
      refine e_iload_n dX4_readWord_126 rfl ?_
      refine e_wald dX4_readWord_127 (in_of (by omega) hlt) ?_
      rw [nI_clamp (by omega)]
      refine e_astore (ls' := [_, _, _, _, _]) dX4_readWord_128 (by decide) rfl ?_
      refine e_aload dX4_readWord_130 rfl ?_
      refine e_letters dX4_readWord_132 (by omega) ⟨"MurmurSheds", mem_n 1830 (by decide +kernel) rfl⟩ ?_
      refine e_aload_n dX4_readWord_135 rfl ?_
      refine e_getL dX4_readWord_136 fl_X4_72 sh_tk rfl ?_
      rw [hv.2.2.1]
      refine e_lcmp dX4_readWord_139 ?_
      refine e_if_ne (tgt := 149) dX4_readWord_140 (by decide) (fun c140 => ?_) (fun c140 => ?_)
      · -- 140 jumps
        refine e_iinc (ls' := [_, _, _, _, _]) dX4_readWord_149 rfl (nI_i1 _) (by decide) rfl ?_
        refine e_goto (tgt := 120) dX4_readWord_152 (by decide) ?_
        have hne : ¬ wLet.getD i 0 = wdP t p := fun e => c140 (cmp0.mpr e)
        exact ih (i + 1) Mc (.ref (2000 + i)) (by omega) (by omega) ⟨hv.1, hv.2.1, hv.2.2.1, by rw [hv.2.2.2, wIN, if_neg hne]⟩
      · -- 140 goes on
        refine e_aload_n dX4_readWord_143 rfl ?_
        refine e_aload dX4_readWord_144 rfl ?_
        refine e_putP dX4_readWord_146 fl_X4_21 sh_tk rfl rfl rfl ?_
        refine e_iinc (ls' := [_, _, _, _, _]) dX4_readWord_149 rfl (nI_i1 _) (by decide) rfl ?_
        refine e_goto (tgt := 120) dX4_readWord_152 (by decide) ?_
        have heq : wLet.getD i 0 = wdP t p := cmp0.mp c140
        exact ih (i + 1) _ (.ref (2000 + i)) (by omega) (by omega) ⟨hv.1.p, hv.2.1, hv.2.2.1, by rw [setP_22, if_pos ⟨rfl, rfl⟩, wIN, if_pos heq]⟩
set_option maxHeartbeats 4000000 in
set_option maxRecDepth 20000 in
theorem l_rw1 {G : Gt} {M : Mm} {t : Tv} {p : Nat} (hp : p < t.1) (hw : vWi (t.2 p) 97 122) (h4 : M.1 6 4 = nI p) : ∀ (k : Nat) (Mc : Mm) (u1 u2 u3 u4 : Value), (0 < k) → (TV M Mc t (rn 97 122 t p) ∧ Mc.2.1 6 7 = wdP t p) → Ev G 2 mX4_readWord 81 [.ref 6, u1, u2, u3, u4] [] Mc (fun r M' => r = none ∧ TV M M' t (rn 97 122 t p) ∧ M'.1 6 3 = (if 8 < rn 97 122 t p - p then 1 else 2) ∧ M'.2.1 6 7 = wdP t p ∧ M'.2.2 6 8 = 2000 + wI (wdP t p)) := by
  intro k
  induction k with
  | zero => intro Mc u1 u2 u3 u4 hk hv; exact absurd hk (by omega)
  | succ k ih =>
    intro Mc u1 u2 u3 u4 hk hv
    have hre := rn_le (lo := 97) (hi := 122) (t := t) (i := p) (by omega)
    have ht1 := hv.1.2.1.2.1
    refine e_aload_n dX4_readWord_81 rfl ?_
    refine e_aload_n dX4_readWord_82 rfl ?_
    refine e_getI dX4_readWord_83 fl_X4_36 sh_tk rfl ?_
    rw [hv.1.2.2.1]
    refine e_aload_n dX4_readWord_86 rfl ?_
    refine e_getI dX4_readWord_87 fl_X4_49 sh_tk rfl ?_
    rw [hv.1.2.2.2.1, h4]
    refine e_isub dX4_readWord_90 ?_
    rw [nI_subN hre.1]
    refine e_bipush (v := 8) dX4_readWord_91 (by decide) ?_
    refine e_icmp_le (tgt := 100) dX4_readWord_93 (by decide) (fun c93 => ?_) (fun c93 => ?_)
    · -- 93 jumps
      refine e_iconst (v := 2) dX4_readWord_100 (by decide) ?_
      refine e_putI dX4_readWord_101 fl_X4_55 sh_tk rfl rfl rfl ?_
      refine e_aload_n dX4_readWord_104 rfl ?_
      refine e_getW (i := 0) dX4_readWord_105 (by decide) (mem_g 39 (by decide +kernel) rfl) ?_
      refine e_putP dX4_readWord_108 fl_X4_21 sh_tk rfl rfl rfl ?_
      refine e_getWORDSN dX4_readWord_111 ⟨"MurmurSheds", mem_n 386 (by decide +kernel) rfl⟩ ?_
      refine e_astore_n (ls' := [_, _, _, _, _]) dX4_readWord_114 (by decide) rfl ?_
      refine e_aload_n dX4_readWord_115 rfl ?_
      refine e_wlen dX4_readWord_116 ?_
      refine e_istore_n (ls' := [_, _, _, _, _]) dX4_readWord_117 (by decide) rfl ?_
      refine e_iconst (v := 0) dX4_readWord_118 (by decide) ?_
      refine e_istore_n (ls' := [_, _, _, _, _]) dX4_readWord_119 (by decide) rfl ?_
      exact l_rw2 hp hw h4 26 0 _ _ (by omega) (by omega) ⟨(hv.1.i (Or.inl rfl)).p, by rw [setP_1, setI_1, if_pos ⟨rfl, rfl⟩]; exact (if_neg (by have := ge_of (i := 8) (n := rn 97 122 t p - p) (by omega) (by omega) c93; omega)).symm, hv.2, by rw [setP_22, if_pos ⟨rfl, rfl⟩]; rfl⟩
    · -- 93 goes on
      refine e_iconst (v := 1) dX4_readWord_96 (by decide) ?_
      refine e_goto (tgt := 101) dX4_readWord_97 (by decide) ?_
      refine e_putI dX4_readWord_101 fl_X4_55 sh_tk rfl rfl rfl ?_
      refine e_aload_n dX4_readWord_104 rfl ?_
      refine e_getW (i := 0) dX4_readWord_105 (by decide) (mem_g 39 (by decide +kernel) rfl) ?_
      refine e_putP dX4_readWord_108 fl_X4_21 sh_tk rfl rfl rfl ?_
      refine e_getWORDSN dX4_readWord_111 ⟨"MurmurSheds", mem_n 386 (by decide +kernel) rfl⟩ ?_
      refine e_astore_n (ls' := [_, _, _, _, _]) dX4_readWord_114 (by decide) rfl ?_
      refine e_aload_n dX4_readWord_115 rfl ?_
      refine e_wlen dX4_readWord_116 ?_
      refine e_istore_n (ls' := [_, _, _, _, _]) dX4_readWord_117 (by decide) rfl ?_
      refine e_iconst (v := 0) dX4_readWord_118 (by decide) ?_
      refine e_istore_n (ls' := [_, _, _, _, _]) dX4_readWord_119 (by decide) rfl ?_
      exact l_rw2 hp hw h4 26 0 _ _ (by omega) (by omega) ⟨(hv.1.i (Or.inl rfl)).p, by rw [setP_1, setI_1, if_pos ⟨rfl, rfl⟩]; exact (if_pos (by have := lt_of (i := 8) (n := rn 97 122 t p - p) (by omega) (by omega) c93; omega)).symm, hv.2, by rw [setP_22, if_pos ⟨rfl, rfl⟩]; rfl⟩
set_option maxHeartbeats 4000000 in
set_option maxRecDepth 20000 in
theorem l_rw0 {G : Gt} {M : Mm} {t : Tv} {p : Nat} (hp : p < t.1) (hw : vWi (t.2 p) 97 122) (h4 : M.1 6 4 = nI p) : ∀ (k : Nat) (i : Nat) (Mc : Mm) (u1 u2 u3 u4 : Value), (p ≤ i ∧ i ≤ t.1) → (t.1 < i + k) → (rn 97 122 t p = rn 97 122 t i) → (TV M Mc t i ∧ Mc.2.1 6 7 = acW t p (i - p)) → Ev G 2 mX4_readWord 5 [.ref 6, u1, u2, u3, u4] [] Mc (fun r M' => r = none ∧ TV M M' t (rn 97 122 t p) ∧ M'.1 6 3 = (if 8 < rn 97 122 t p - p then 1 else 2) ∧ M'.2.1 6 7 = wdP t p ∧ M'.2.2 6 8 = 2000 + wI (wdP t p)) := by
  intro k
  induction k with
  | zero => intro i Mc u1 u2 u3 u4 hi hk hr hv; exact absurd hk (by omega)
  | succ k ih =>
    intro i Mc u1 u2 u3 u4 hi hk hr hv
    have ht1 := hv.1.2.1.2.1
    refine e_aload_n dX4_readWord_5 rfl ?_
    refine e_getI dX4_readWord_6 fl_X4_36 sh_tk rfl ?_
    rw [hv.1.2.2.1]
    refine e_aload_n dX4_readWord_9 rfl ?_
    refine e_getI dX4_readWord_10 fl_X4_28 sh_tk rfl ?_
    rw [hv.1.2.1.1]
    refine e_icmp_ge (tgt := 81) dX4_readWord_13 (by decide) (fun c13 => ?_) (fun c13 => ?_)
    · -- 13 jumps
      have hin : i = t.1 := by have := ge_of (by omega) (by omega) c13; omega
      have he : rn 97 122 t p = i := hr.trans (rn_n (by omega))
      exact l_rw1 hp hw h4 1 Mc u1 u2 u3 u4 (by omega) ⟨by rw [he]; exact hv.1, by rw [hv.2]; unfold wdP; rw [he]⟩
    · -- 13 goes on
      have hlt : i < t.1 := lt_of (by omega) (by omega) c13
      refine e_aload_n dX4_readWord_16 rfl ?_
      refine e_getR dX4_readWord_17 fl_X4_9 sh_tk rfl ?_
      refine e_aload_n dX4_readWord_20 rfl ?_
      refine e_getI dX4_readWord_21 fl_X4_36 sh_tk rfl ?_
      rw [hv.1.2.2.1]
      refine cS2r dX4_readWord_24 mo_X10_at ml_X4_45 (Nat.le_of_ble_eq_true rfl) (by omega) (c_atN (sa_tk_signs) (by decide) (by first | omega | decide)) ?_
      rw [hv.1.2.1.2.2 i hlt]
      refine e_bipush (v := 97) dX4_readWord_27 (by decide) ?_
      refine e_bipush (v := 122) dX4_readWord_29 (by decide) ?_
      refine cS3r dX4_readWord_31 mo_X10_within ml_X4_24 (Nat.le_of_ble_eq_true rfl) (by omega) (c_within) ?_
      refine e_if_eq (tgt := 81) dX4_readWord_34 (by decide) (fun c34 => ?_) (fun c34 => ?_)
      · -- 34 jumps
        have he : rn 97 122 t p = i := hr.trans (rn_e hlt (b2i_eq0.mp c34))
        exact l_rw1 hp hw h4 1 Mc u1 u2 u3 u4 (by omega) ⟨by rw [he]; exact hv.1, by rw [hv.2]; unfold wdP; rw [he]⟩
      · -- 34 goes on
        have c34 : vWi (t.2 i) 97 122 := by
          by_cases h : (vWi (t.2 i) 97 122)
          · exact h
          · exact absurd (b2i_f h) c34
        refine e_aload_n dX4_readWord_37 rfl ?_
        refine e_aload_n dX4_readWord_38 rfl ?_
        refine e_getL dX4_readWord_39 fl_X4_72 sh_tk rfl ?_
        rw [hv.2]
        refine e_ldc2 dX4_readWord_42 kl_X4_76 ?_
        refine e_lmul dX4_readWord_45 ?_
        refine e_aload_n dX4_readWord_46 rfl ?_
        refine e_getR dX4_readWord_47 fl_X4_9 sh_tk rfl ?_
        refine e_aload_n dX4_readWord_50 rfl ?_
        refine e_getI dX4_readWord_51 fl_X4_36 sh_tk rfl ?_
        rw [hv.1.2.2.1]
        refine cS2r dX4_readWord_54 mo_X10_at ml_X4_45 (Nat.le_of_ble_eq_true rfl) (by omega) (c_atN (sa_tk_signs) (by decide) (by first | omega | decide)) ?_
        rw [hv.1.2.1.2.2 i hlt]
        refine e_i2l dX4_readWord_57 ?_
        refine e_ladd dX4_readWord_58 ?_
        refine e_ldc2 dX4_readWord_59 kl_X4_78 ?_
        refine e_lsub dX4_readWord_62 ?_
        refine e_lconst (v := 1) dX4_readWord_63 rfl ?_
        refine e_ladd dX4_readWord_64 ?_
        refine e_putL dX4_readWord_65 fl_X4_72 sh_tk rfl rfl rfl ?_
        refine e_aload_n dX4_readWord_68 rfl ?_
        refine e_dup dX4_readWord_69 rfl ?_
        refine e_getI dX4_readWord_70 fl_X4_36 sh_tk rfl ?_
        rw [setL_1, hv.1.2.2.1]
        refine e_iconst (v := 1) dX4_readWord_73 (by decide) ?_
        refine e_iadd dX4_readWord_74 ?_
        refine e_putI dX4_readWord_75 fl_X4_36 sh_tk rfl rfl rfl ?_
        refine e_goto (tgt := 5) dX4_readWord_78 (by decide) ?_
        refine ih (i + 1) _ u1 u2 u3 u4 (by omega) (by omega) (hr.trans (rn_s hlt c34)) ?_
        rw [nI_1]
        refine ⟨(hv.1.l).n, ?_⟩
        show (setL Mc 6 7 _).2.1 6 7 = _
        rw [setL_21, if_pos ⟨rfl, rfl⟩, show i + 1 - p = (i - p) + 1 by omega, acW, show p + (i - p) = i by omega]
set_option maxHeartbeats 4000000 in
set_option maxRecDepth 20000 in
theorem c_readWord {G : Gt} {M : Mm} {t : Tv} {p : Nat} (hp : p < t.1) (hw : vWi (t.2 p) 97 122) (h4 : M.1 6 4 = nI p) (hT : TX M t) (h2 : M.1 6 2 = nI p) : Call G 2 mX4_readWord [.ref 6] M (fun r M' => r = none ∧ TV M M' t (rn 97 122 t p) ∧ M'.1 6 3 = (if 8 < rn 97 122 t p - p then 1 else 2) ∧ M'.2.1 6 7 = wdP t p ∧ M'.2.2 6 8 = 2000 + wI (wdP t p)) := by
  refine Call.intro rfl (Nat.le_of_ble_eq_true rfl) ?_
  show Ev G _ mX4_readWord 0 [.ref 6, RA, RA, RA, RA] [] M _
  refine e_aload_n dX4_readWord_0 rfl ?_
  refine e_lconst (v := 0) dX4_readWord_1 rfl ?_
  refine e_putL dX4_readWord_2 fl_X4_72 sh_tk rfl rfl rfl ?_
  exact l_rw0 hp hw h4 (t.1 + 1) p _ _ _ _ _ (by omega) (by omega) rfl ⟨⟨TS.rfl'.l _ _, hT, h2, rfl, rfl⟩, by rw [setL_21, if_pos ⟨rfl, rfl⟩, Nat.sub_self]; rfl⟩
set_option maxHeartbeats 4000000 in
set_option maxRecDepth 20000 in
theorem l_rn1 {G : Gt} {M : Mm} {t : Tv} {p : Nat} (hp : p < t.1) (hw : vWi (t.2 p) 48 57) (h4 : M.1 6 4 = nI p) : ∀ (k : Nat) (Mc : Mm), (0 < k) → (TV M Mc t (rn 48 57 t p) ∧ Mc.1 6 6 = nmP t p) → Ev G 2 mX4_readNumber 76 [.ref 6] [] Mc (fun r M' => r = none ∧ TV M M' t (rn 48 57 t p) ∧ M'.1 6 3 = (if 4 < rn 48 57 t p - p then 1 else 3) ∧ M'.1 6 6 = nmP t p) := by
  intro k
  induction k with
  | zero => intro Mc hk hv; exact absurd hk (by omega)
  | succ k ih =>
    intro Mc hk hv
    have hre := rn_le (lo := 48) (hi := 57) (t := t) (i := p) (by omega)
    have ht1 := hv.1.2.1.2.1
    refine e_aload_n dX4_readNumber_76 rfl ?_
    refine e_aload_n dX4_readNumber_77 rfl ?_
    refine e_getI dX4_readNumber_78 fl_X4_36 sh_tk rfl ?_
    rw [hv.1.2.2.1]
    refine e_aload_n dX4_readNumber_81 rfl ?_
    refine e_getI dX4_readNumber_82 fl_X4_49 sh_tk rfl ?_
    rw [hv.1.2.2.2.1, h4]
    refine e_isub dX4_readNumber_85 ?_
    rw [nI_subN hre.1]
    refine e_iconst (v := 4) dX4_readNumber_86 (by decide) ?_
    refine e_icmp_le (tgt := 94) dX4_readNumber_87 (by decide) (fun c87 => ?_) (fun c87 => ?_)
    · -- 87 jumps
      refine e_iconst (v := 3) dX4_readNumber_94 (by decide) ?_
      refine e_putI dX4_readNumber_95 fl_X4_55 sh_tk rfl rfl rfl ?_
      refine e_vret dX4_readNumber_98 rfl ?_
      exact ⟨rfl, hv.1.i (Or.inl rfl), by rw [setI_1, if_pos ⟨rfl, rfl⟩]; exact (if_neg (by have := ge_of (i := 4) (n := rn 48 57 t p - p) (by omega) (by omega) c87; omega)).symm, by rw [setI_1, if_neg (by decide)]; exact hv.2⟩
    · -- 87 goes on
      refine e_iconst (v := 1) dX4_readNumber_90 (by decide) ?_
      refine e_goto (tgt := 95) dX4_readNumber_91 (by decide) ?_
      refine e_putI dX4_readNumber_95 fl_X4_55 sh_tk rfl rfl rfl ?_
      refine e_vret dX4_readNumber_98 rfl ?_
      exact ⟨rfl, hv.1.i (Or.inl rfl), by rw [setI_1, if_pos ⟨rfl, rfl⟩]; exact (if_pos (by have := lt_of (i := 4) (n := rn 48 57 t p - p) (by omega) (by omega) c87; omega)).symm, by rw [setI_1, if_neg (by decide)]; exact hv.2⟩
set_option maxHeartbeats 4000000 in
set_option maxRecDepth 20000 in
theorem l_rn0 {G : Gt} {M : Mm} {t : Tv} {p : Nat} (hp : p < t.1) (hw : vWi (t.2 p) 48 57) (h4 : M.1 6 4 = nI p) : ∀ (k : Nat) (i : Nat) (Mc : Mm), (p ≤ i ∧ i ≤ t.1) → (t.1 < i + k) → (rn 48 57 t p = rn 48 57 t i) → (TV M Mc t i ∧ Mc.1 6 6 = acN t p (i - p)) → Ev G 2 mX4_readNumber 5 [.ref 6] [] Mc (fun r M' => r = none ∧ TV M M' t (rn 48 57 t p) ∧ M'.1 6 3 = (if 4 < rn 48 57 t p - p then 1 else 3) ∧ M'.1 6 6 = nmP t p) := by
  intro k
  induction k with
  | zero => intro i Mc hi hk hr hv; exact absurd hk (by omega)
  | succ k ih =>
    intro i Mc hi hk hr hv
    have ht1 := hv.1.2.1.2.1
    refine e_aload_n dX4_readNumber_5 rfl ?_
    refine e_getI dX4_readNumber_6 fl_X4_36 sh_tk rfl ?_
    rw [hv.1.2.2.1]
    refine e_aload_n dX4_readNumber_9 rfl ?_
    refine e_getI dX4_readNumber_10 fl_X4_28 sh_tk rfl ?_
    rw [hv.1.2.1.1]
    refine e_icmp_ge (tgt := 76) dX4_readNumber_13 (by decide) (fun c13 => ?_) (fun c13 => ?_)
    · -- 13 jumps
      have hin : i = t.1 := by have := ge_of (by omega) (by omega) c13; omega
      have he : rn 48 57 t p = i := hr.trans (rn_n (by omega))
      exact l_rn1 hp hw h4 1 Mc (by omega) ⟨by rw [he]; exact hv.1, by rw [hv.2]; unfold nmP; rw [he]⟩
    · -- 13 goes on
      have hlt : i < t.1 := lt_of (by omega) (by omega) c13
      refine e_aload_n dX4_readNumber_16 rfl ?_
      refine e_getR dX4_readNumber_17 fl_X4_9 sh_tk rfl ?_
      refine e_aload_n dX4_readNumber_20 rfl ?_
      refine e_getI dX4_readNumber_21 fl_X4_36 sh_tk rfl ?_
      rw [hv.1.2.2.1]
      refine cS2r dX4_readNumber_24 mo_X10_at ml_X4_45 (Nat.le_of_ble_eq_true rfl) (by omega) (c_atN (sa_tk_signs) (by decide) (by first | omega | decide)) ?_
      rw [hv.1.2.1.2.2 i hlt]
      refine e_bipush (v := 48) dX4_readNumber_27 (by decide) ?_
      refine e_bipush (v := 57) dX4_readNumber_29 (by decide) ?_
      refine cS3r dX4_readNumber_31 mo_X10_within ml_X4_24 (Nat.le_of_ble_eq_true rfl) (by omega) (c_within) ?_
      refine e_if_eq (tgt := 76) dX4_readNumber_34 (by decide) (fun c34 => ?_) (fun c34 => ?_)
      · -- 34 jumps
        have he : rn 48 57 t p = i := hr.trans (rn_e hlt (b2i_eq0.mp c34))
        exact l_rn1 hp hw h4 1 Mc (by omega) ⟨by rw [he]; exact hv.1, by rw [hv.2]; unfold nmP; rw [he]⟩
      · -- 34 goes on
        have c34 : vWi (t.2 i) 48 57 := by
          by_cases h : (vWi (t.2 i) 48 57)
          · exact h
          · exact absurd (b2i_f h) c34
        refine e_aload_n dX4_readNumber_37 rfl ?_
        refine e_aload_n dX4_readNumber_38 rfl ?_
        refine e_getI dX4_readNumber_39 fl_X4_85 sh_tk rfl ?_
        rw [hv.2]
        refine e_bipush (v := 10) dX4_readNumber_42 (by decide) ?_
        refine e_imul dX4_readNumber_44 ?_
        refine e_aload_n dX4_readNumber_45 rfl ?_
        refine e_getR dX4_readNumber_46 fl_X4_9 sh_tk rfl ?_
        refine e_aload_n dX4_readNumber_49 rfl ?_
        refine e_getI dX4_readNumber_50 fl_X4_36 sh_tk rfl ?_
        rw [hv.1.2.2.1]
        refine cS2r dX4_readNumber_53 mo_X10_at ml_X4_45 (Nat.le_of_ble_eq_true rfl) (by omega) (c_atN (sa_tk_signs) (by decide) (by first | omega | decide)) ?_
        rw [hv.1.2.1.2.2 i hlt]
        refine e_iadd dX4_readNumber_56 ?_
        refine e_bipush (v := 48) dX4_readNumber_57 (by decide) ?_
        refine e_isub dX4_readNumber_59 ?_
        refine e_putI dX4_readNumber_60 fl_X4_85 sh_tk rfl rfl rfl ?_
        refine e_aload_n dX4_readNumber_63 rfl ?_
        refine e_dup dX4_readNumber_64 rfl ?_
        refine e_getI dX4_readNumber_65 fl_X4_36 sh_tk rfl ?_
        rw [setI_1, if_neg (by decide), hv.1.2.2.1]
        refine e_iconst (v := 1) dX4_readNumber_68 (by decide) ?_
        refine e_iadd dX4_readNumber_69 ?_
        refine e_putI dX4_readNumber_70 fl_X4_36 sh_tk rfl rfl rfl ?_
        refine e_goto (tgt := 5) dX4_readNumber_73 (by decide) ?_
        refine ih (i + 1) _ (by omega) (by omega) (hr.trans (rn_s hlt c34)) ?_
        rw [nI_1]
        refine ⟨(hv.1.i (Or.inr (Or.inr rfl))).n, ?_⟩
        rw [setI_1, if_neg (by decide), setI_1, if_pos ⟨rfl, rfl⟩, show i + 1 - p = (i - p) + 1 by omega, acN, show p + (i - p) = i by omega]
set_option maxHeartbeats 4000000 in
set_option maxRecDepth 20000 in
theorem c_readNumber {G : Gt} {M : Mm} {t : Tv} {p : Nat} (hp : p < t.1) (hw : vWi (t.2 p) 48 57) (h4 : M.1 6 4 = nI p) (hT : TX M t) (h2 : M.1 6 2 = nI p) : Call G 2 mX4_readNumber [.ref 6] M (fun r M' => r = none ∧ TV M M' t (rn 48 57 t p) ∧ M'.1 6 3 = (if 4 < rn 48 57 t p - p then 1 else 3) ∧ M'.1 6 6 = nmP t p) := by
  refine Call.intro rfl (Nat.le_of_ble_eq_true rfl) ?_
  show Ev G _ mX4_readNumber 0 [.ref 6] [] M _
  refine e_aload_n dX4_readNumber_0 rfl ?_
  refine e_iconst (v := 0) dX4_readNumber_1 (by decide) ?_
  refine e_putI dX4_readNumber_2 fl_X4_85 sh_tk rfl rfl rfl ?_
  exact l_rn0 hp hw h4 (t.1 + 1) p _ (by omega) (by omega) rfl ⟨⟨TS.rfl'.i _ _, ⟨by rw [setI_1, if_neg (by decide)]; exact hT.1, hT.2.1, fun k hk => by rw [setI_1, if_neg (by omega)]; exact hT.2.2 k hk⟩, by rw [setI_1, if_neg (by decide)]; exact h2, by rw [setI_1, if_neg (by decide)], by rw [setI_1, if_neg (by decide)]⟩, by rw [setI_1, if_pos ⟨rfl, rfl⟩, Nat.sub_self]; rfl⟩
end XTK
