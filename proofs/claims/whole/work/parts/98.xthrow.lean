section XTH
/-- a block that throws: new, dup, ldc_w, invokespecial, athrow -/
def thrAt (mi : Mi) (pc : Nat) : Prop := ∃ ik is ic, decode mi.2.1 pc = .ok (.new ik, 3) ∧ decode mi.2.1 (pc + 3) = .ok (.dup, 1) ∧ decode mi.2.1 (pc + 4) = .ok (.ldc_w is, 3) ∧ decode mi.2.1 (pc + 7) = .ok (.invokespecial ic, 3) ∧ decode mi.2.1 (pc + 10) = .ok (.athrow, 1)
/-- where a method runs that may throw -/
def CxT (X : Nat → Mm → Prop) (G : Gt) (d : Nat) (mi : Mi) (Q : Option Value → Mm → Prop) (p : Program) (e : Env) (s : State) (m : MethodId) (args : Array Value) (below : List Frame) (meth : Method) (c : Code) (R : Room) (Z : State → Prop) (k0 n0 : Nat) : Prop :=
  (p.tables.exec = Jvm.exec ∧ c.code = mi.2.1 ∧ c.maxLocals = mi.2.2.1 ∧ s.vm.findClass mi.1.cls = some m.cls ∧ (∀ w ∈ wsm mi, w.before args s = true) ∧ KU G s ∧ RO G s s.heap ∧ RT G s ∧ GI G) ∧
  (d ≤ R.frames ∧ 80 * d ≤ R.locals ∧ k0 ≤ R.cells ∧ n0 ≤ R.slots) ∧
  ((∀ (pc : Nat) (H : Heap) (locs : List Loc) (lsA : Array Slot) (r : Option Value) (M : Mm), retAt mi pc r → Q r M → va_P G.D vwCl (cells G.cA G.ad M) H → va_S (A0 G.ad) s.heap H locs →
    W p G.1 e R s m args below meth c H locs k0 n0 Z (F0 m pc lsA (r.toList.map (tv G.ad)))) ∧
   ∀ (pc : Nat) (H : Heap) (locs : List Loc) (lsA : Array Slot) (M : Mm), X pc M → lsA.size = mi.2.2.1 → va_P G.D vwCl (cells G.cA G.ad M) H → va_S (A0 G.ad) s.heap H locs →
    W p G.1 e R s m args below meth c H locs k0 n0 Z (F0 m pc lsA []))
def EvT (X : Nat → Mm → Prop) (G : Gt) (d : Nat) (mi : Mi) (pc : Nat) (ls st : List Value) (M : Mm) (Q : Option Value → Mm → Prop) : Prop :=
  ∀ (p : Program) (e : Env) (s : State) (m : MethodId) (args : Array Value) (below : List Frame) (meth : Method) (c : Code) (R : Room) (Z : State → Prop) (k0 n0 : Nat) (H : Heap) (locs : List Loc) (lsA : Array Slot),
    CxT X G d mi Q p e s m args below meth c R Z k0 n0 → va_P G.D vwCl (cells G.cA G.ad M) H → va_S (A0 G.ad) s.heap H locs → lr G.ad lsA mi.2.2.1 ls →
    W p G.1 e R s m args below meth c H locs k0 n0 Z (F0 m pc lsA (st.map (tv G.ad)))
section
variable {X : Nat → Mm → Prop} {G : Gt} {d : Nat} {mi : Mi} {pc : Nat} {ls st : List Value} {M : Mm} {Q : Option Value → Mm → Prop}
/-- a throw -/
theorem t_throw (hX : X pc M) : EvT X G d mi pc ls [] M Q := by
  intro p e s m args below meth c R Z k0 n0 H locs lsA C hP hS hl
  obtain ⟨⟨hx, hb, hml, hown, hts, hK, hRO, hRT, hG⟩, hR, hret⟩ := id C
  exact hret.2 pc H locs lsA M hX hl.2.1 hP hS
theorem t_iret {x : Int32} (hd : decode mi.2.1 pc = .ok (.ireturn, 1)) (hr : mi.2.2.2 = some .int) (hQ : Q (some (.int x)) M) : EvT X G d mi pc ls [.int x] M Q := by
  intro p e s m args below meth c R Z k0 n0 H locs lsA C hP hS hl
  obtain ⟨⟨hx, hb, hml, hown, hts, hK, hRO, hRT, hG⟩, hR, hret⟩ := id C
  exact hret.1 pc H locs lsA (some (.int x)) M ⟨hd, _, hr, rfl⟩ hQ hP hS
theorem t_iconst {n : Int} {v : Int32} (hd : decode mi.2.1 pc = .ok (.iconst n, 1)) (hv : Int32.ofInt n = v) (k : EvT X G d mi (pc + 1) ls (.int v :: st) M Q) : EvT X G d mi pc ls (st) M Q := by
  intro p e s m args below meth c R Z k0 n0 H locs lsA C hP hS hl
  obtain ⟨⟨hx, hb, hml, hown, hts, hK, hRO, hRT, hG⟩, hR, hret⟩ := id C
  exact lv_iconst hx hb hd hv (k p e s m args below meth c R Z k0 n0 H locs lsA C hP hS hl)
theorem t_bipush {n : Int} {v : Int32} (hd : decode mi.2.1 pc = .ok (.bipush n, 2)) (hv : (Int8.ofInt n).toInt32 = v) (k : EvT X G d mi (pc + 2) ls (.int v :: st) M Q) : EvT X G d mi pc ls (st) M Q := by
  intro p e s m args below meth c R Z k0 n0 H locs lsA C hP hS hl
  obtain ⟨⟨hx, hb, hml, hown, hts, hK, hRO, hRT, hG⟩, hR, hret⟩ := id C
  exact lv_bipush hx hb hd hv (k p e s m args below meth c R Z k0 n0 H locs lsA C hP hS hl)
theorem t_iload_n {n : Fin 4} {x : Int32} (hd : decode mi.2.1 pc = .ok (.iload_n n, 1)) (h : ls[(n : Nat)]? = some (.int x)) (k : EvT X G d mi (pc + 1) ls (.int x :: st) M Q) : EvT X G d mi pc ls (st) M Q := by
  intro p e s m args below meth c R Z k0 n0 H locs lsA C hP hS hl
  obtain ⟨⟨hx, hb, hml, hown, hts, hK, hRO, hRT, hG⟩, hR, hret⟩ := id C
  exact lv_iload_n hx hb hd rfl (lr_at hl h rfl) (k p e s m args below meth c R Z k0 n0 H locs lsA C hP hS hl)
theorem t_iload {i : Nat} {x : Int32} (hd : decode mi.2.1 pc = .ok (.iload i, 2)) (h : ls[i]? = some (.int x)) (k : EvT X G d mi (pc + 2) ls (.int x :: st) M Q) : EvT X G d mi pc ls (st) M Q := by
  intro p e s m args below meth c R Z k0 n0 H locs lsA C hP hS hl
  obtain ⟨⟨hx, hb, hml, hown, hts, hK, hRO, hRT, hG⟩, hR, hret⟩ := id C
  exact lv_iload hx hb hd (lr_at hl h rfl) (k p e s m args below meth c R Z k0 n0 H locs lsA C hP hS hl)
theorem t_istore {i : Nat} {x : Int32} {ls' : List Value} (hd : decode mi.2.1 pc = .ok (.istore i, 2)) (hn : i < mi.2.2.1) (hs : stI ls i (.int x) = ls') (k : EvT X G d mi (pc + 2) ls' st M Q) : EvT X G d mi pc ls (.int x :: st) M Q := by
  intro p e s m args below meth c R Z k0 n0 H locs lsA C hP hS hl
  obtain ⟨⟨hx, hb, hml, hown, hts, hK, hRO, hRT, hG⟩, hR, hret⟩ := id C
  subst hs
  exact lv_istore hx hb hd hl.2 hn rfl (fun lsB hB => k p e s m args below meth c R Z k0 n0 H locs lsB C hP hS (lr_stI (v := Value.int x) hl.1 hB))
theorem t_iinc {i : Nat} {n : Int} {x v : Int32} {ls' : List Value} (hd : decode mi.2.1 pc = .ok (.iinc i n, 3)) (h : ls[i]? = some (.int x)) (hv : x + Int32.ofInt n = v) (hn : i < mi.2.2.1) (hs : stI ls i (.int v) = ls') (k : EvT X G d mi (pc + 3) ls' st M Q) : EvT X G d mi pc ls st M Q := by
  intro p e s m args below meth c R Z k0 n0 H locs lsA C hP hS hl
  obtain ⟨⟨hx, hb, hml, hown, hts, hK, hRO, hRT, hG⟩, hR, hret⟩ := id C
  subst hs
  have hm : (i, Value.int x) ∈ lqF G.ad 0 ls := (lqF_mem ls 0).mpr ⟨.int x, Nat.zero_le _, by simpa using h, rfl, rfl⟩
  obtain ⟨q, hq⟩ := List.getElem?_of_mem hm
  exact lv_iinc hx hb hd hl.2 hq hv hn rfl (fun lsB hB => k p e s m args below meth c R Z k0 n0 H locs lsB C hP hS (lr_stI (v := Value.int v) hl.1 hB))
theorem t_if_eq {x : Int32} {off : Int} {tgt : Nat} (hd : decode mi.2.1 pc = .ok (.ifCond .eq off, 3)) (ht : (pc : Int) + off = (tgt : Int)) (kt : x = 0 → EvT X G d mi tgt ls st M Q) (kf : ¬ x = 0 → EvT X G d mi (pc + 3) ls st M Q) : EvT X G d mi pc ls (.int x :: st) M Q := by
  intro p e s m args below meth c R Z k0 n0 H locs lsA C hP hS hl
  obtain ⟨⟨hx, hb, hml, hown, hts, hK, hRO, hRT, hG⟩, hR, hret⟩ := id C
  exact lv_if_eq hx hb hd ht (fun h => (kt h) p e s m args below meth c R Z k0 n0 H locs lsA C hP hS hl) (fun h => (kf h) p e s m args below meth c R Z k0 n0 H locs lsA C hP hS hl)
theorem t_if_ne {x : Int32} {off : Int} {tgt : Nat} (hd : decode mi.2.1 pc = .ok (.ifCond .ne off, 3)) (ht : (pc : Int) + off = (tgt : Int)) (kt : ¬ x = 0 → EvT X G d mi tgt ls st M Q) (kf : x = 0 → EvT X G d mi (pc + 3) ls st M Q) : EvT X G d mi pc ls (.int x :: st) M Q := by
  intro p e s m args below meth c R Z k0 n0 H locs lsA C hP hS hl
  obtain ⟨⟨hx, hb, hml, hown, hts, hK, hRO, hRT, hG⟩, hR, hret⟩ := id C
  exact lv_if_ne hx hb hd ht (fun h => (kt h) p e s m args below meth c R Z k0 n0 H locs lsA C hP hS hl) (fun h => (kf h) p e s m args below meth c R Z k0 n0 H locs lsA C hP hS hl)
theorem t_icmp_eq {x y : Int32} {off : Int} {tgt : Nat} (hd : decode mi.2.1 pc = .ok (.if_icmp .eq off, 3)) (ht : (pc : Int) + off = (tgt : Int)) (kt : x = y → EvT X G d mi tgt ls st M Q) (kf : ¬ x = y → EvT X G d mi (pc + 3) ls st M Q) : EvT X G d mi pc ls (.int y :: .int x :: st) M Q := by
  intro p e s m args below meth c R Z k0 n0 H locs lsA C hP hS hl
  obtain ⟨⟨hx, hb, hml, hown, hts, hK, hRO, hRT, hG⟩, hR, hret⟩ := id C
  exact lv_icmp_eq hx hb hd ht (fun h => (kt h) p e s m args below meth c R Z k0 n0 H locs lsA C hP hS hl) (fun h => (kf h) p e s m args below meth c R Z k0 n0 H locs lsA C hP hS hl)
theorem t_icmp_ne {x y : Int32} {off : Int} {tgt : Nat} (hd : decode mi.2.1 pc = .ok (.if_icmp .ne off, 3)) (ht : (pc : Int) + off = (tgt : Int)) (kt : ¬ x = y → EvT X G d mi tgt ls st M Q) (kf : x = y → EvT X G d mi (pc + 3) ls st M Q) : EvT X G d mi pc ls (.int y :: .int x :: st) M Q := by
  intro p e s m args below meth c R Z k0 n0 H locs lsA C hP hS hl
  obtain ⟨⟨hx, hb, hml, hown, hts, hK, hRO, hRT, hG⟩, hR, hret⟩ := id C
  exact lv_icmp_ne hx hb hd ht (fun h => (kt h) p e s m args below meth c R Z k0 n0 H locs lsA C hP hS hl) (fun h => (kf h) p e s m args below meth c R Z k0 n0 H locs lsA C hP hS hl)
theorem t_icmp_ge {x y : Int32} {off : Int} {tgt : Nat} (hd : decode mi.2.1 pc = .ok (.if_icmp .ge off, 3)) (ht : (pc : Int) + off = (tgt : Int)) (kt : ¬ x < y → EvT X G d mi tgt ls st M Q) (kf : x < y → EvT X G d mi (pc + 3) ls st M Q) : EvT X G d mi pc ls (.int y :: .int x :: st) M Q := by
  intro p e s m args below meth c R Z k0 n0 H locs lsA C hP hS hl
  obtain ⟨⟨hx, hb, hml, hown, hts, hK, hRO, hRT, hG⟩, hR, hret⟩ := id C
  exact lv_icmp_ge hx hb hd ht (fun h => (kt (i_nlt h)) p e s m args below meth c R Z k0 n0 H locs lsA C hP hS hl) (fun h => (kf (i_nle h)) p e s m args below meth c R Z k0 n0 H locs lsA C hP hS hl)
theorem t_goto {off : Int} {tgt : Nat} (hd : decode mi.2.1 pc = .ok (.goto off, 3)) (ht : (pc : Int) + off = (tgt : Int)) (k : EvT X G d mi tgt ls st M Q) : EvT X G d mi pc ls st M Q := by
  intro p e s m args below meth c R Z k0 n0 H locs lsA C hP hS hl
  obtain ⟨⟨hx, hb, hml, hown, hts, hK, hRO, hRT, hG⟩, hR, hret⟩ := id C
  exact lv_goto hx hb hd ht (k p e s m args below meth c R Z k0 n0 H locs lsA C hP hS hl)
theorem t_callS {idx n : Nat} {mi' : Mi} {d' : Nat} {as stk : List Value} {Q' : Option Value → Mm → Prop} (hd : decode mi.2.1 pc = .ok (.invokestatic idx, 3)) (hm : MOS mi' n) (hl0 : ML mi.1.cls idx mi'.1) (hn : as.length = n) (hst : stk = as.reverse ++ st) (hW : (st.map fun v => v.category).sum ≤ 8) (hdd : d' + 1 ≤ d) (hc : Call G d' mi' as M Q') (k : ∀ r M1, Q' r M1 → EvT X G d mi (pc + 3) ls (r.toList ++ st) M1 Q) : EvT X G d mi pc ls stk M Q := by
  intro p e s m args below meth c R Z k0 n0 H locs lsA C hP hS hl
  obtain ⟨⟨hx, hb, hml, hown, hts, hK, hRO, hRT, hG⟩, hR, hret⟩ := id C
  subst hst
  obtain ⟨⟨hco, hin, hh, hmx⟩, him⟩ := hm
  have hpre : PreS s H (va_Pc (as.map (tv G.ad)) (PW G M)) (as.map (tv G.ad)) := ⟨PW_blind, fun U hU hW => ⟨rfl, PW_start hK hRO hRT hG hP hS U hU hW⟩⟩
  have hstk : (as.reverse ++ st).map (tv G.ad) = (as.map (tv G.ad)).reverse ++ st.map (tv G.ad) := by simp
  have hkk : ∀ (r : Option Value) (M1 : Mm) (H1 : Heap) (locs1 : List Loc), Q' r M1 → va_P G.D vwCl (cells G.cA G.ad M1) H1 → va_S (A0 G.ad) s.heap H1 locs1 → W p G.1 e R s m args below meth c H1 locs1 k0 n0 Z (F0 m (pc + 3) lsA ((r.map (tv G.ad)).toList ++ st.map (tv G.ad))) := by
    intro r M1 H1 locs1 h1 h2 h3
    rw [lr_map]
    exact k r M1 h1 p e s m args below meth c R Z k0 n0 H1 locs1 lsA C h2 h3 hl
  have hRm : (rmd d').frames + 1 ≤ R.frames ∧ 8 + (mi'.2.2.1 + 11) + (rmd d').locals ≤ R.locals := by
    obtain ⟨r1, r2, -⟩ := hR
    simp only [rmd]
    constructor <;> omega
  rcases hl0 with hl1 | ⟨host, hl1⟩
  · exact callU (va_runS (cc := mi.2.1) (nL := mi.2.2.1) (own := mi.1.cls) (bytes := mi'.2.1) (maxL := mi'.2.2.1) (ret := mi'.2.2.2) (n := n) (Ts := wsm mi) ⟨hx, hb, hml, hown, hts⟩ hc ⟨callB_of n hts (goodIn_wsm mi mi' hco) rfl rfl rfl (hts _ (wsm_in hin)) (hts _ (wsm_in hl1)) hh hRm, hts _ (wsm_in him)⟩ hpre rfl (by simpa using hn) hl.2.1 hstk (by show 2 * 0 + _ ≤ _; rw [cat_map]; omega) hd ⟨hR.2.2.1, hR.2.2.2⟩) hS hkk
  · exact callU (va_runSN (cc := mi.2.1) (nL := mi.2.2.1) (own := mi.1.cls) (host := host) (bytes := mi'.2.1) (maxL := mi'.2.2.1) (ret := mi'.2.2.2) (n := n) (Ts := wsm mi) ⟨hx, hb, hml, hown, hts⟩ hc ⟨va_cnB n hts (goodIn_wsm mi mi' hco) rfl rfl rfl (hK.2 _ hl1) (hts _ (wsm_in hin)) hh hRm, hts _ (wsm_in him), trivial⟩ hpre rfl (by simpa using hn) hl.2.1 hstk (by show 2 * 0 + _ ≤ _; rw [cat_map]; omega) hd ⟨hR.2.2.1, hR.2.2.2⟩) hS hkk
theorem tcS3r {idx : Nat} {a1 a2 a3 : Value} {v : Value} {M1 : Mm} {mi' : Mi} {d' : Nat} (hd : decode mi.2.1 pc = .ok (.invokestatic idx, 3)) (hm : MOS mi' 3) (hl0 : ML mi.1.cls idx mi'.1) (hW : (st.map fun v => v.category).sum ≤ 8) (hdd : d' + 1 ≤ d) (hc : Call G d' mi' [a1, a2, a3] M (eqQ (some v) M1)) (k : EvT X G d mi (pc + 3) ls (v :: st) M1 Q) : EvT X G d mi pc ls (a3 :: a2 :: a1 :: st) M Q := t_callS hd hm hl0 (as := [a1, a2, a3]) rfl rfl hW hdd hc (fun r M2 h => by obtain ⟨rfl, rfl⟩ := h; exact k)
theorem tcS4r {idx : Nat} {a1 a2 a3 a4 : Value} {v : Value} {M1 : Mm} {mi' : Mi} {d' : Nat} (hd : decode mi.2.1 pc = .ok (.invokestatic idx, 3)) (hm : MOS mi' 4) (hl0 : ML mi.1.cls idx mi'.1) (hW : (st.map fun v => v.category).sum ≤ 8) (hdd : d' + 1 ≤ d) (hc : Call G d' mi' [a1, a2, a3, a4] M (eqQ (some v) M1)) (k : EvT X G d mi (pc + 3) ls (v :: st) M1 Q) : EvT X G d mi pc ls (a4 :: a3 :: a2 :: a1 :: st) M Q := t_callS hd hm hl0 (as := [a1, a2, a3, a4]) rfl rfl hW hdd hc (fun r M2 h => by obtain ⟨rfl, rfl⟩ := h; exact k)
end
end XTH
