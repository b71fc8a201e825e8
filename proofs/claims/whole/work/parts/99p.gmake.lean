section GMK
theorem kc_inst : ∀ c, c < 9 → ∃ n, Jvm.Cond.instantiable (vwCl.getD c ("", fun _ => ("", "", "", false), 0)).1 n ∈ tables_1 := by
  intro c hc
  have h : c = 0 ∨ c = 1 ∨ c = 2 ∨ c = 3 ∨ c = 4 ∨ c = 5 ∨ c = 6 ∨ c = 7 ∨ c = 8 := by omega
  rcases h with rfl | rfl | rfl | rfl | rfl | rfl | rfl | rfl | rfl
  · exact ⟨4, List.mem_of_getElem? (i := 84) (by decide +kernel)⟩
  · exact ⟨4, List.mem_of_getElem? (i := 256) (by decide +kernel)⟩
  · exact ⟨4, List.mem_of_getElem? (i := 231) (by decide +kernel)⟩
  · exact ⟨9, List.mem_of_getElem? (i := 189) (by decide +kernel)⟩
  · exact ⟨10, List.mem_of_getElem? (i := 34) (by decide +kernel)⟩
  · exact ⟨4, List.mem_of_getElem? (i := 168) (by decide +kernel)⟩
  · exact ⟨14, List.mem_of_getElem? (i := 78) (by decide +kernel)⟩
  · exact ⟨17, List.mem_of_getElem? (i := 26) (by decide +kernel)⟩
  · exact ⟨63, List.mem_of_getElem? (i := 1159) (by decide +kernel)⟩
theorem kc_any : ∀ c, c < 9 → ∀ w ∈ u_ws (vwCl.getD c ("", fun _ => ("", "", "", false), 0)).1 (vwCl.getD c ("", fun _ => ("", "", "", false), 0)).2.1 (vwCl.getD c ("", fun _ => ("", "", "", false), 0)).2.2, w ∈ lw_g := by
  intro c hc
  have h : c = 0 ∨ c = 1 ∨ c = 2 ∨ c = 3 ∨ c = 4 ∨ c = 5 ∨ c = 6 ∨ c = 7 ∨ c = 8 := by omega
  rcases h with rfl | rfl | rfl | rfl | rfl | rfl | rfl | rfl | rfl
  · exact kc0.2.1
  · exact kc1.2.1
  · exact kc2.2.1
  · exact kc3.2.1
  · exact kc4.2.1
  · exact kc5.2.1
  · exact kc6.2.1
  · exact kc7.2.1
  · exact kc8.2.1
section
variable {args : Array Value} {s : State}
theorem g_in (hts : ∀ w ∈ lw_tbl, w.before args s = true) : ∀ w ∈ lw_g, w.before args s = true := fun w hw => hts w (List.mem_filter.mp hw).1
/-- the classes -/
theorem D_start (hts : ∀ w ∈ lw_tbl, w.before args s = true) : ∃ D : va_G, ∀ (c : Nat) (q : vw_C), vwCl[c]? = some q → u_Kn s q.1 q.2.1 q.2.2 (D.1 c) (D.2 c) := by
  have h0 : ∀ c : Nat, ∃ p : ClassId × (Nat → Nat), ∀ q : vw_C, vwCl[c]? = some q → u_Kn s q.1 q.2.1 q.2.2 p.1 p.2 := by
    intro c
    by_cases hc : c < 9
    · obtain ⟨n, hn⟩ := kc_inst c hc
      obtain ⟨cC, iS, h⟩ := u_known (ws := lw_g) (g_in hts) (kc_any c hc) (hts _ (List.mem_append_right _ hn))
      refine ⟨(cC, iS), fun q hq => ?_⟩
      rw [List.getD_eq_getElem?_getD, hq] at h
      exact h
    · refine ⟨(0, fun _ => 0), fun q hq => ?_⟩
      rw [List.getElem?_eq_none (by show 9 ≤ c; omega)] at hq
      cases hq
  obtain ⟨f, hf⟩ := Classical.axiomOfChoice h0
  exact ⟨(fun c => (f c).1, fun c => (f c).2), hf⟩
theorem arr_b {ty : FieldType} (h : (Cond.arrayClass ty).before args s = true) (hb : ∀ cA, s.vm.findClass ("[" ++ ty.toString) = some cA → va_RA s cA ty) (hr : ∀ n, ¬ ty = .object n) (hr2 : ∀ t, ¬ ty = .array t) : ∃ cA, ArrOfT s cA ty ∧ va_RA s cA ty := by
  obtain ⟨c, k, comp, h1, h2, h3⟩ := Cond.arrayClass_spec h
  refine ⟨c, fun n z => ⟨fun k h => ?_, k, h2, comp, h3⟩, hb c h1⟩
  cases h
theorem arr_o {C : String} (h : va_AO C s) : ∃ cA, ArrOfT s cA (.object C) ∧ va_RA s cA (.object C) := by
  obtain ⟨comp, c, k, h1, h2, h3, h4, h5⟩ := Cond.arrayOver_spec h
  exact ⟨c, fun n z => ⟨fun k h => (by cases h), k, h3, comp, h4⟩, k, comp, h3, h4, h1, h5⟩
theorem AO_start (hts : ∀ w ∈ lw_tbl, w.before args s = true) : AOs s := ⟨va_AO.of (hts _ (tb_in 254 (by decide +kernel))), va_AO.of (hts _ (tb_in 255 (by decide +kernel)))⟩
/-- the arrays' classes -/
theorem cA_start (hts : ∀ w ∈ lw_tbl, w.before args s = true) : ∃ cA : Nat → ClassId, ∀ (k : Nat) (q : ClassId × FieldType), ([(cA 0, .int), (cA 1, .long), (cA 2, .boolean), (cA 3, .object "MurmurSheds$Mark"), (cA 4, .object "MurmurSheds$Standing")] : List (ClassId × FieldType))[k]? = some q → ArrOfT s q.1 q.2 ∧ va_RA s q.1 q.2 := by
  obtain ⟨a0, h0⟩ := arr_b (ty := .int) (hts _ (tb_in 76 (by decide +kernel))) (fun _ h => h) (fun _ h => nomatch h) (fun _ h => nomatch h)
  obtain ⟨a1, h1⟩ := arr_b (ty := .long) (hts _ (tb_in 104 (by decide +kernel))) (fun _ h => h) (fun _ h => nomatch h) (fun _ h => nomatch h)
  obtain ⟨a2, h2⟩ := arr_b (ty := .boolean) (hts _ (tb_in 1358 (by decide +kernel))) (fun _ h => h) (fun _ h => nomatch h) (fun _ h => nomatch h)
  obtain ⟨a3, h3⟩ := arr_o (AO_start hts).1
  obtain ⟨a4, h4⟩ := arr_o (AO_start hts).2
  refine ⟨fun k => if k = 0 then a0 else if k = 1 then a1 else if k = 2 then a2 else if k = 3 then a3 else a4, fun k q hq => ?_⟩
  rcases k with _ | _ | _ | _ | _ | k
  · cases hq; exact h0
  · cases hq; exact h1
  · cases hq; exact h2
  · cases hq; exact h3
  · cases hq; exact h4
  · cases hq
theorem nw_start (hts : ∀ w ∈ lw_tbl, w.before args s = true) : ∀ w ∈ nwl, va_Nw w s := by
  intro w hw
  have h1 := hts w (List.mem_append_right _ (List.mem_filter.mp hw).1)
  have h2 : isNest w = true := (List.mem_filter.mp hw).2
  unfold isNest at h2
  split at h2
  · exact va_Nw.of rfl h1
  · exact va_Nw.of rfl h1
  · cases h2
theorem TW_start (hts : ∀ w ∈ lw_tbl, w.before args s = true) : TW s := fun w hw a => vx_ot_at (State.WarmedH.refl s) rfl (thrL_ot hw) (hts w (List.mem_append_right _ (thrL_in w hw)))
/-- all that is fixed for a script -/
theorem G_start (l : Launch) {b L : Nat} {xs : Nat → Int32} (hts : ∀ w ∈ lw_tbl, w.before args s = true) (hfl : ∀ w ∈ lw_C, w.before args s = true) (hX : va_X b L xs s s.heap) (hb : b < s.heap.size) :
    ∃ G : Gt, G.1 = l ∧ G.L = L ∧ G.ad 2200 = b ∧ nB G s.heap.size ∧ KU G s ∧ RO G s s.heap ∧ RT G s ∧ GI G ∧ PT G s s.heap := by
  have hA0 : ∀ (ad : Nat → Nat), (∀ i, i < NN → ad i = s.heap.size + ordN i) → ∀ a : Nat, a < s.heap.size → ¬ A0 ad a := by
    rintro ad had a ha ⟨i, hi, rfl⟩
    rw [had i hi] at ha
    omega
  obtain ⟨D, hD⟩ := D_start hts
  obtain ⟨cA, hcA⟩ := cA_start hts
  have hN : ∀ a : Nat, a < s.heap.size → ¬ (fun q : Nat => s.heap.size ≤ q) a := fun a ha h => by
    have h' : s.heap.size ≤ a := h
    omega
  obtain ⟨adW, hE, hev, hlt⟩ := wd_start (A := fun q => s.heap.size ≤ q) hts hfl hN
  obtain ⟨t, hZ, hT⟩ := wd_row hts hfl hN hev
  obtain ⟨a8, v8, hS, hS2⟩ := tx_start hfl hN
  obtain ⟨a357, c1, cell1, k1, e357, -⟩ := Cond.exactly_spec (hfl (Jvm.Cond.exactly (.string "MurmurSheds" 360) "java/lang/String") (by decide +kernel))
  obtain ⟨a365, c2, cell2, k2, e365, -⟩ := Cond.exactly_spec (hfl (Jvm.Cond.exactly (.string "MurmurSheds" 368) "java/lang/String") (by decide +kernel))
  have hef1 := va_Efof (A := fun q => s.heap.size ≤ q) (N := 25) (nm := wNames) (o := "MurmurSheds$Word") (n := "letters") (d := "J") (v := fun k => .long (wLet.getD k 0)) (tm := fun k => .long (wLet.getD k 0)) hev (fun i hi => hfl _ (ws_let i hi)) (fun i _ => rfl) hN
  have hef2 := va_Efof (A := fun q => s.heap.size ≤ q) (N := 25) (nm := wNames) (o := "MurmurSheds$Word") (n := "reserved") (d := "Z") (v := fun k => .int (wRes.getD k 0)) (tm := fun k => .int (wRes.getD k 0)) hev (fun i hi => hfl _ (ws_res i hi)) (fun i _ => rfl) hN
  have hcs := va_Zof (A := fun q => s.heap.size ≤ q) (hts _ (tb_in 406 (by decide +kernel))) (hts _ (tb_in 13 (by decide +kernel))) (va_eqt (hfl (Jvm.Cond.eq (.static "java/lang/String" "COMPACT_STRINGS" "Z") (.int 1)) (by decide +kernel))) hN
  let ad : Nat → Nat := fun i => if i < 286 then s.heap.size + ordN i else if 2000 ≤ i ∧ i < 2025 then adW (i - 2000) else if i = 2100 then t else if i = 2200 then b else if i = 2300 then a8 else if i = 2301 then v8 else if i = 2302 then a357 else a365
  have d0 : ∀ i, i < NN → ad i = s.heap.size + ordN i := fun i hi => if_pos hi
  have dW : ∀ k, k < 25 → ad (2000 + k) = adW k := fun k hk => by
    show (if 2000 + k < 286 then _ else _) = _
    rw [if_neg (by omega), if_pos (by omega), Nat.add_sub_cancel_left]
  have hsub : ∀ q, A0 ad q → s.heap.size ≤ q := by
    rintro q ⟨i, hi, rfl⟩
    rw [d0 i hi]
    omega
  have hA := hA0 ad d0
  refine ⟨(l, D, cA, ad, L, xs), rfl, rfl, rfl, ?_, ⟨⟨hD, hcA⟩, nw_start hts⟩, ⟨⟨hX, hA b hb⟩, ?_, ?_, ?_, hZ.narrow hsub, ?_, hS.narrow hsub, hcs.narrow hsub⟩, ?_, ?_, ?_⟩
  · intro k hk
    show ad (alN k) = _
    rw [d0 _ (al_lt hk), ord_al]
  · have h1 := hE.narrow hsub
    refine ⟨fun i hi => ?_, fun i j hi hj e => ?_⟩
    · show va_Z _ _ _ (.ref (ad (2000 + i))) _ _ _ ∧ _
      have hi' : i < 25 := hi
      have h2 := h1.1 i hi
      rw [← dW i hi'] at h2
      exact h2
    · have hi' : i < 25 := hi
      have hj' : j < 25 := hj
      have e' : ad (2000 + i) = ad (2000 + j) := e
      rw [dW i hi', dW j hj'] at e'
      exact h1.2 i j hi hj e'
  · intro i hi
    have h2 := (hef1.narrow hsub) i hi
    rw [← dW i hi] at h2
    exact h2
  · intro i hi
    have h2 := (hef2.narrow hsub) i hi
    rw [← dW i hi] at h2
    exact h2
  · obtain ⟨cell, h1, h2, h3, h4, h5, h6, h7⟩ := hT.narrow hsub
    refine ⟨cell, h1, h2, h3, h4, h5, fun j hj => ?_, h7⟩
    rw [h6 j hj]
    show some (Value.ref (adW j)) = some (.ref (ad (2000 + j)))
    rw [dW j hj]
  · exact vk_R.of (hts _ (tb_in 392 (by decide +kernel))) hS2
  · intro i j hi hj e
    have e' : ad i = ad j := e
    rcases hi with hi | hi <;> rcases hj with hj | hj
    · rw [d0 i hi, d0 j hj] at e'
      have h3 : ordN i = ordN j := by omega
      rw [← al_ord i, h3, al_ord]
    · exfalso
      have h2 := hlt (j - 2000) (by omega)
      rw [← dW (j - 2000) (by omega), show 2000 + (j - 2000) = j by omega, ← e', d0 i hi] at h2
      omega
    · exfalso
      have h2 := hlt (i - 2000) (by omega)
      rw [← dW (i - 2000) (by omega), show 2000 + (i - 2000) = i by omega, e', d0 j hj] at h2
      omega
    · have h3 := dW (i - 2000) (by omega)
      have h4 := dW (j - 2000) (by omega)
      rw [show 2000 + (i - 2000) = i by omega] at h3
      rw [show 2000 + (j - 2000) = j by omega] at h4
      rw [h3, h4] at e'
      have h5 := hE.2 (i - 2000) (j - 2000) (by show i - 2000 < 25; omega) (by show j - 2000 < 25; omega) e'
      omega
  · exact ⟨TW_start hts, ⟨vk_R.of (hts _ (tb_in 1125 (by decide +kernel))) e357, vk_R.of (hts _ (tb_in 1157 (by decide +kernel))) e365⟩, vx_Zqof (hts _ (tb_in 1113 (by decide +kernel))) (hts _ (tb_in 21 (by decide +kernel))) (hfl _ (by decide +kernel)) hA, vx_Zqof (hts _ (tb_in 1115 (by decide +kernel))) (hts _ (tb_in 21 (by decide +kernel))) (hfl _ (by decide +kernel)) hA⟩
end
end GMK
