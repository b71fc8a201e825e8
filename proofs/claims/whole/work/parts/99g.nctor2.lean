section NC2
theorem setI_z {M : Mm} {i k : Nat} {v : Int32} (h : M.1 i k = v) : setI M i k v = M := by
  obtain ⟨A, B⟩ := M
  unfold setI
  congr 1
  funext j q
  by_cases hj : j = i ∧ q = k
  · rw [if_pos hj, hj.1, hj.2]; exact h.symm
  · rw [if_neg hj]
theorem fz_s : ∀ C T N, vwCl[8]? = some (C, T, N) → Jvm.Cond.fieldLink mX11_fresh0.1.cls 114 (T 47).1 (T 47).2.1 (T 47).2.2.1 ∈ lw_g := (fun C T N h => by cases h; exact mem_g 1215 (by decide +kernel) rfl)
theorem fz_y : ∀ C T N, vwCl[8]? = some (C, T, N) → Jvm.Cond.fieldLink mX11_fresh0.1.cls 13 (T 10).1 (T 10).2.1 (T 10).2.2.1 ∈ lw_g := (fun C T N h => by cases h; exact mem_g 1178 (by decide +kernel) rfl)
set_option maxHeartbeats 4000000 in
set_option maxRecDepth 40000 in
theorem k_fresh0 {b0 : Nat} {G : Gt} {n : Nat} {M : Mm} {F : Pf} {x9 : Nat} (hx9 : alN x9 = 238) (hx8 : x9 < n) (hs8 : 273 < n) (hy8 : 240 < n) (hNN : n ≤ NN) (hFs : F 238 47 = true) (hFy : F 238 10 = true) (hz : ∀ q, M.1 273 q = 0) (hy : M.1 240 0 = 0) : CallN b0 0 0 G 1 mX11_fresh0 238 n M F n M F := by
  refine CallN.intro rfl (Nat.le_of_ble_eq_true rfl) rfl ?_
  show EvN _ _ _ G _ mX11_fresh0 0 [.ref 238, RA] [] _ _ _ _
  refine n_iconst (v := 0) dX11_fresh0_0 (by decide) ?_
  refine n_istore_n dX11_fresh0_1 (by decide) rfl ?_
  refine n_iload_n (x := 0) dX11_fresh0_2 rfl ?_
  refine n_bipush (v := 26) dX11_fresh0_3 (by decide) ?_
  refine n_icmp_ge (tgt := 21) dX11_fresh0_5 (by decide) (fun c => absurd (by decide) c) (fun _ => ?_)
  refine n_aload_n (x := 238) dX11_fresh0_8 rfl ?_
  refine n_getR (j := 273) dX11_fresh0_9 fl_X11_114 rfl rfl hx9 hx8 fz_s hFs ?_
  refine n_iload_n (x := 0) dX11_fresh0_12 rfl ?_
  refine n_iconst (v := 0) dX11_fresh0_13 (by decide) ?_
  refine n_iast (j := 0) dX11_fresh0_14 rfl (x9 := 273) rfl hs8 hNN (by unfold vp_in; decide) ?_
  rw [setI_z (hz _)]
  refine n_iinc (x := 0) (v := 1) dX11_fresh0_15 rfl (by decide) (by decide) rfl ?_
  refine n_goto (tgt := 2) dX11_fresh0_18 (by decide) ?_
  refine n_iload_n (x := 1) dX11_fresh0_2 rfl ?_
  refine n_bipush (v := 26) dX11_fresh0_3 (by decide) ?_
  refine n_icmp_ge (tgt := 21) dX11_fresh0_5 (by decide) (fun c => absurd (by decide) c) (fun _ => ?_)
  refine n_aload_n (x := 238) dX11_fresh0_8 rfl ?_
  refine n_getR (j := 273) dX11_fresh0_9 fl_X11_114 rfl rfl hx9 hx8 fz_s hFs ?_
  refine n_iload_n (x := 1) dX11_fresh0_12 rfl ?_
  refine n_iconst (v := 0) dX11_fresh0_13 (by decide) ?_
  refine n_iast (j := 1) dX11_fresh0_14 rfl (x9 := 273) rfl hs8 hNN (by unfold vp_in; decide) ?_
  rw [setI_z (hz _)]
  refine n_iinc (x := 1) (v := 2) dX11_fresh0_15 rfl (by decide) (by decide) rfl ?_
  refine n_goto (tgt := 2) dX11_fresh0_18 (by decide) ?_
  refine n_iload_n (x := 2) dX11_fresh0_2 rfl ?_
  refine n_bipush (v := 26) dX11_fresh0_3 (by decide) ?_
  refine n_icmp_ge (tgt := 21) dX11_fresh0_5 (by decide) (fun c => absurd (by decide) c) (fun _ => ?_)
  refine n_aload_n (x := 238) dX11_fresh0_8 rfl ?_
  refine n_getR (j := 273) dX11_fresh0_9 fl_X11_114 rfl rfl hx9 hx8 fz_s hFs ?_
  refine n_iload_n (x := 2) dX11_fresh0_12 rfl ?_
  refine n_iconst (v := 0) dX11_fresh0_13 (by decide) ?_
  refine n_iast (j := 2) dX11_fresh0_14 rfl (x9 := 273) rfl hs8 hNN (by unfold vp_in; decide) ?_
  rw [setI_z (hz _)]
  refine n_iinc (x := 2) (v := 3) dX11_fresh0_15 rfl (by decide) (by decide) rfl ?_
  refine n_goto (tgt := 2) dX11_fresh0_18 (by decide) ?_
  refine n_iload_n (x := 3) dX11_fresh0_2 rfl ?_
  refine n_bipush (v := 26) dX11_fresh0_3 (by decide) ?_
  refine n_icmp_ge (tgt := 21) dX11_fresh0_5 (by decide) (fun c => absurd (by decide) c) (fun _ => ?_)
  refine n_aload_n (x := 238) dX11_fresh0_8 rfl ?_
  refine n_getR (j := 273) dX11_fresh0_9 fl_X11_114 rfl rfl hx9 hx8 fz_s hFs ?_
  refine n_iload_n (x := 3) dX11_fresh0_12 rfl ?_
  refine n_iconst (v := 0) dX11_fresh0_13 (by decide) ?_
  refine n_iast (j := 3) dX11_fresh0_14 rfl (x9 := 273) rfl hs8 hNN (by unfold vp_in; decide) ?_
  rw [setI_z (hz _)]
  refine n_iinc (x := 3) (v := 4) dX11_fresh0_15 rfl (by decide) (by decide) rfl ?_
  refine n_goto (tgt := 2) dX11_fresh0_18 (by decide) ?_
  refine n_iload_n (x := 4) dX11_fresh0_2 rfl ?_
  refine n_bipush (v := 26) dX11_fresh0_3 (by decide) ?_
  refine n_icmp_ge (tgt := 21) dX11_fresh0_5 (by decide) (fun c => absurd (by decide) c) (fun _ => ?_)
  refine n_aload_n (x := 238) dX11_fresh0_8 rfl ?_
  refine n_getR (j := 273) dX11_fresh0_9 fl_X11_114 rfl rfl hx9 hx8 fz_s hFs ?_
  refine n_iload_n (x := 4) dX11_fresh0_12 rfl ?_
  refine n_iconst (v := 0) dX11_fresh0_13 (by decide) ?_
  refine n_iast (j := 4) dX11_fresh0_14 rfl (x9 := 273) rfl hs8 hNN (by unfold vp_in; decide) ?_
  rw [setI_z (hz _)]
  refine n_iinc (x := 4) (v := 5) dX11_fresh0_15 rfl (by decide) (by decide) rfl ?_
  refine n_goto (tgt := 2) dX11_fresh0_18 (by decide) ?_
  refine n_iload_n (x := 5) dX11_fresh0_2 rfl ?_
  refine n_bipush (v := 26) dX11_fresh0_3 (by decide) ?_
  refine n_icmp_ge (tgt := 21) dX11_fresh0_5 (by decide) (fun c => absurd (by decide) c) (fun _ => ?_)
  refine n_aload_n (x := 238) dX11_fresh0_8 rfl ?_
  refine n_getR (j := 273) dX11_fresh0_9 fl_X11_114 rfl rfl hx9 hx8 fz_s hFs ?_
  refine n_iload_n (x := 5) dX11_fresh0_12 rfl ?_
  refine n_iconst (v := 0) dX11_fresh0_13 (by decide) ?_
  refine n_iast (j := 5) dX11_fresh0_14 rfl (x9 := 273) rfl hs8 hNN (by unfold vp_in; decide) ?_
  rw [setI_z (hz _)]
  refine n_iinc (x := 5) (v := 6) dX11_fresh0_15 rfl (by decide) (by decide) rfl ?_
  refine n_goto (tgt := 2) dX11_fresh0_18 (by decide) ?_
  refine n_iload_n (x := 6) dX11_fresh0_2 rfl ?_
  refine n_bipush (v := 26) dX11_fresh0_3 (by decide) ?_
  refine n_icmp_ge (tgt := 21) dX11_fresh0_5 (by decide) (fun c => absurd (by decide) c) (fun _ => ?_)
  refine n_aload_n (x := 238) dX11_fresh0_8 rfl ?_
  refine n_getR (j := 273) dX11_fresh0_9 fl_X11_114 rfl rfl hx9 hx8 fz_s hFs ?_
  refine n_iload_n (x := 6) dX11_fresh0_12 rfl ?_
  refine n_iconst (v := 0) dX11_fresh0_13 (by decide) ?_
  refine n_iast (j := 6) dX11_fresh0_14 rfl (x9 := 273) rfl hs8 hNN (by unfold vp_in; decide) ?_
  rw [setI_z (hz _)]
  refine n_iinc (x := 6) (v := 7) dX11_fresh0_15 rfl (by decide) (by decide) rfl ?_
  refine n_goto (tgt := 2) dX11_fresh0_18 (by decide) ?_
  refine n_iload_n (x := 7) dX11_fresh0_2 rfl ?_
  refine n_bipush (v := 26) dX11_fresh0_3 (by decide) ?_
  refine n_icmp_ge (tgt := 21) dX11_fresh0_5 (by decide) (fun c => absurd (by decide) c) (fun _ => ?_)
  refine n_aload_n (x := 238) dX11_fresh0_8 rfl ?_
  refine n_getR (j := 273) dX11_fresh0_9 fl_X11_114 rfl rfl hx9 hx8 fz_s hFs ?_
  refine n_iload_n (x := 7) dX11_fresh0_12 rfl ?_
  refine n_iconst (v := 0) dX11_fresh0_13 (by decide) ?_
  refine n_iast (j := 7) dX11_fresh0_14 rfl (x9 := 273) rfl hs8 hNN (by unfold vp_in; decide) ?_
  rw [setI_z (hz _)]
  refine n_iinc (x := 7) (v := 8) dX11_fresh0_15 rfl (by decide) (by decide) rfl ?_
  refine n_goto (tgt := 2) dX11_fresh0_18 (by decide) ?_
  refine n_iload_n (x := 8) dX11_fresh0_2 rfl ?_
  refine n_bipush (v := 26) dX11_fresh0_3 (by decide) ?_
  refine n_icmp_ge (tgt := 21) dX11_fresh0_5 (by decide) (fun c => absurd (by decide) c) (fun _ => ?_)
  refine n_aload_n (x := 238) dX11_fresh0_8 rfl ?_
  refine n_getR (j := 273) dX11_fresh0_9 fl_X11_114 rfl rfl hx9 hx8 fz_s hFs ?_
  refine n_iload_n (x := 8) dX11_fresh0_12 rfl ?_
  refine n_iconst (v := 0) dX11_fresh0_13 (by decide) ?_
  refine n_iast (j := 8) dX11_fresh0_14 rfl (x9 := 273) rfl hs8 hNN (by unfold vp_in; decide) ?_
  rw [setI_z (hz _)]
  refine n_iinc (x := 8) (v := 9) dX11_fresh0_15 rfl (by decide) (by decide) rfl ?_
  refine n_goto (tgt := 2) dX11_fresh0_18 (by decide) ?_
  refine n_iload_n (x := 9) dX11_fresh0_2 rfl ?_
  refine n_bipush (v := 26) dX11_fresh0_3 (by decide) ?_
  refine n_icmp_ge (tgt := 21) dX11_fresh0_5 (by decide) (fun c => absurd (by decide) c) (fun _ => ?_)
  refine n_aload_n (x := 238) dX11_fresh0_8 rfl ?_
  refine n_getR (j := 273) dX11_fresh0_9 fl_X11_114 rfl rfl hx9 hx8 fz_s hFs ?_
  refine n_iload_n (x := 9) dX11_fresh0_12 rfl ?_
  refine n_iconst (v := 0) dX11_fresh0_13 (by decide) ?_
  refine n_iast (j := 9) dX11_fresh0_14 rfl (x9 := 273) rfl hs8 hNN (by unfold vp_in; decide) ?_
  rw [setI_z (hz _)]
  refine n_iinc (x := 9) (v := 10) dX11_fresh0_15 rfl (by decide) (by decide) rfl ?_
  refine n_goto (tgt := 2) dX11_fresh0_18 (by decide) ?_
  refine n_iload_n (x := 10) dX11_fresh0_2 rfl ?_
  refine n_bipush (v := 26) dX11_fresh0_3 (by decide) ?_
  refine n_icmp_ge (tgt := 21) dX11_fresh0_5 (by decide) (fun c => absurd (by decide) c) (fun _ => ?_)
  refine n_aload_n (x := 238) dX11_fresh0_8 rfl ?_
  refine n_getR (j := 273) dX11_fresh0_9 fl_X11_114 rfl rfl hx9 hx8 fz_s hFs ?_
  refine n_iload_n (x := 10) dX11_fresh0_12 rfl ?_
  refine n_iconst (v := 0) dX11_fresh0_13 (by decide) ?_
  refine n_iast (j := 10) dX11_fresh0_14 rfl (x9 := 273) rfl hs8 hNN (by unfold vp_in; decide) ?_
  rw [setI_z (hz _)]
  refine n_iinc (x := 10) (v := 11) dX11_fresh0_15 rfl (by decide) (by decide) rfl ?_
  refine n_goto (tgt := 2) dX11_fresh0_18 (by decide) ?_
  refine n_iload_n (x := 11) dX11_fresh0_2 rfl ?_
  refine n_bipush (v := 26) dX11_fresh0_3 (by decide) ?_
  refine n_icmp_ge (tgt := 21) dX11_fresh0_5 (by decide) (fun c => absurd (by decide) c) (fun _ => ?_)
  refine n_aload_n (x := 238) dX11_fresh0_8 rfl ?_
  refine n_getR (j := 273) dX11_fresh0_9 fl_X11_114 rfl rfl hx9 hx8 fz_s hFs ?_
  refine n_iload_n (x := 11) dX11_fresh0_12 rfl ?_
  refine n_iconst (v := 0) dX11_fresh0_13 (by decide) ?_
  refine n_iast (j := 11) dX11_fresh0_14 rfl (x9 := 273) rfl hs8 hNN (by unfold vp_in; decide) ?_
  rw [setI_z (hz _)]
  refine n_iinc (x := 11) (v := 12) dX11_fresh0_15 rfl (by decide) (by decide) rfl ?_
  refine n_goto (tgt := 2) dX11_fresh0_18 (by decide) ?_
  refine n_iload_n (x := 12) dX11_fresh0_2 rfl ?_
  refine n_bipush (v := 26) dX11_fresh0_3 (by decide) ?_
  refine n_icmp_ge (tgt := 21) dX11_fresh0_5 (by decide) (fun c => absurd (by decide) c) (fun _ => ?_)
  refine n_aload_n (x := 238) dX11_fresh0_8 rfl ?_
  refine n_getR (j := 273) dX11_fresh0_9 fl_X11_114 rfl rfl hx9 hx8 fz_s hFs ?_
  refine n_iload_n (x := 12) dX11_fresh0_12 rfl ?_
  refine n_iconst (v := 0) dX11_fresh0_13 (by decide) ?_
  refine n_iast (j := 12) dX11_fresh0_14 rfl (x9 := 273) rfl hs8 hNN (by unfold vp_in; decide) ?_
  rw [setI_z (hz _)]
  refine n_iinc (x := 12) (v := 13) dX11_fresh0_15 rfl (by decide) (by decide) rfl ?_
  refine n_goto (tgt := 2) dX11_fresh0_18 (by decide) ?_
  refine n_iload_n (x := 13) dX11_fresh0_2 rfl ?_
  refine n_bipush (v := 26) dX11_fresh0_3 (by decide) ?_
  refine n_icmp_ge (tgt := 21) dX11_fresh0_5 (by decide) (fun c => absurd (by decide) c) (fun _ => ?_)
  refine n_aload_n (x := 238) dX11_fresh0_8 rfl ?_
  refine n_getR (j := 273) dX11_fresh0_9 fl_X11_114 rfl rfl hx9 hx8 fz_s hFs ?_
  refine n_iload_n (x := 13) dX11_fresh0_12 rfl ?_
  refine n_iconst (v := 0) dX11_fresh0_13 (by decide) ?_
  refine n_iast (j := 13) dX11_fresh0_14 rfl (x9 := 273) rfl hs8 hNN (by unfold vp_in; decide) ?_
  rw [setI_z (hz _)]
  refine n_iinc (x := 13) (v := 14) dX11_fresh0_15 rfl (by decide) (by decide) rfl ?_
  refine n_goto (tgt := 2) dX11_fresh0_18 (by decide) ?_
  refine n_iload_n (x := 14) dX11_fresh0_2 rfl ?_
  refine n_bipush (v := 26) dX11_fresh0_3 (by decide) ?_
  refine n_icmp_ge (tgt := 21) dX11_fresh0_5 (by decide) (fun c => absurd (by decide) c) (fun _ => ?_)
  refine n_aload_n (x := 238) dX11_fresh0_8 rfl ?_
  refine n_getR (j := 273) dX11_fresh0_9 fl_X11_114 rfl rfl hx9 hx8 fz_s hFs ?_
  refine n_iload_n (x := 14) dX11_fresh0_12 rfl ?_
  refine n_iconst (v := 0) dX11_fresh0_13 (by decide) ?_
  refine n_iast (j := 14) dX11_fresh0_14 rfl (x9 := 273) rfl hs8 hNN (by unfold vp_in; decide) ?_
  rw [setI_z (hz _)]
  refine n_iinc (x := 14) (v := 15) dX11_fresh0_15 rfl (by decide) (by decide) rfl ?_
  refine n_goto (tgt := 2) dX11_fresh0_18 (by decide) ?_
  refine n_iload_n (x := 15) dX11_fresh0_2 rfl ?_
  refine n_bipush (v := 26) dX11_fresh0_3 (by decide) ?_
  refine n_icmp_ge (tgt := 21) dX11_fresh0_5 (by decide) (fun c => absurd (by decide) c) (fun _ => ?_)
  refine n_aload_n (x := 238) dX11_fresh0_8 rfl ?_
  refine n_getR (j := 273) dX11_fresh0_9 fl_X11_114 rfl rfl hx9 hx8 fz_s hFs ?_
  refine n_iload_n (x := 15) dX11_fresh0_12 rfl ?_
  refine n_iconst (v := 0) dX11_fresh0_13 (by decide) ?_
  refine n_iast (j := 15) dX11_fresh0_14 rfl (x9 := 273) rfl hs8 hNN (by unfold vp_in; decide) ?_
  rw [setI_z (hz _)]
  refine n_iinc (x := 15) (v := 16) dX11_fresh0_15 rfl (by decide) (by decide) rfl ?_
  refine n_goto (tgt := 2) dX11_fresh0_18 (by decide) ?_
  refine n_iload_n (x := 16) dX11_fresh0_2 rfl ?_
  refine n_bipush (v := 26) dX11_fresh0_3 (by decide) ?_
  refine n_icmp_ge (tgt := 21) dX11_fresh0_5 (by decide) (fun c => absurd (by decide) c) (fun _ => ?_)
  refine n_aload_n (x := 238) dX11_fresh0_8 rfl ?_
  refine n_getR (j := 273) dX11_fresh0_9 fl_X11_114 rfl rfl hx9 hx8 fz_s hFs ?_
  refine n_iload_n (x := 16) dX11_fresh0_12 rfl ?_
  refine n_iconst (v := 0) dX11_fresh0_13 (by decide) ?_
  refine n_iast (j := 16) dX11_fresh0_14 rfl (x9 := 273) rfl hs8 hNN (by unfold vp_in; decide) ?_
  rw [setI_z (hz _)]
  refine n_iinc (x := 16) (v := 17) dX11_fresh0_15 rfl (by decide) (by decide) rfl ?_
  refine n_goto (tgt := 2) dX11_fresh0_18 (by decide) ?_
  refine n_iload_n (x := 17) dX11_fresh0_2 rfl ?_
  refine n_bipush (v := 26) dX11_fresh0_3 (by decide) ?_
  refine n_icmp_ge (tgt := 21) dX11_fresh0_5 (by decide) (fun c => absurd (by decide) c) (fun _ => ?_)
  refine n_aload_n (x := 238) dX11_fresh0_8 rfl ?_
  refine n_getR (j := 273) dX11_fresh0_9 fl_X11_114 rfl rfl hx9 hx8 fz_s hFs ?_
  refine n_iload_n (x := 17) dX11_fresh0_12 rfl ?_
  refine n_iconst (v := 0) dX11_fresh0_13 (by decide) ?_
  refine n_iast (j := 17) dX11_fresh0_14 rfl (x9 := 273) rfl hs8 hNN (by unfold vp_in; decide) ?_
  rw [setI_z (hz _)]
  refine n_iinc (x := 17) (v := 18) dX11_fresh0_15 rfl (by decide) (by decide) rfl ?_
  refine n_goto (tgt := 2) dX11_fresh0_18 (by decide) ?_
  refine n_iload_n (x := 18) dX11_fresh0_2 rfl ?_
  refine n_bipush (v := 26) dX11_fresh0_3 (by decide) ?_
  refine n_icmp_ge (tgt := 21) dX11_fresh0_5 (by decide) (fun c => absurd (by decide) c) (fun _ => ?_)
  refine n_aload_n (x := 238) dX11_fresh0_8 rfl ?_
  refine n_getR (j := 273) dX11_fresh0_9 fl_X11_114 rfl rfl hx9 hx8 fz_s hFs ?_
  refine n_iload_n (x := 18) dX11_fresh0_12 rfl ?_
  refine n_iconst (v := 0) dX11_fresh0_13 (by decide) ?_
  refine n_iast (j := 18) dX11_fresh0_14 rfl (x9 := 273) rfl hs8 hNN (by unfold vp_in; decide) ?_
  rw [setI_z (hz _)]
  refine n_iinc (x := 18) (v := 19) dX11_fresh0_15 rfl (by decide) (by decide) rfl ?_
  refine n_goto (tgt := 2) dX11_fresh0_18 (by decide) ?_
  refine n_iload_n (x := 19) dX11_fresh0_2 rfl ?_
  refine n_bipush (v := 26) dX11_fresh0_3 (by decide) ?_
  refine n_icmp_ge (tgt := 21) dX11_fresh0_5 (by decide) (fun c => absurd (by decide) c) (fun _ => ?_)
  refine n_aload_n (x := 238) dX11_fresh0_8 rfl ?_
  refine n_getR (j := 273) dX11_fresh0_9 fl_X11_114 rfl rfl hx9 hx8 fz_s hFs ?_
  refine n_iload_n (x := 19) dX11_fresh0_12 rfl ?_
  refine n_iconst (v := 0) dX11_fresh0_13 (by decide) ?_
  refine n_iast (j := 19) dX11_fresh0_14 rfl (x9 := 273) rfl hs8 hNN (by unfold vp_in; decide) ?_
  rw [setI_z (hz _)]
  refine n_iinc (x := 19) (v := 20) dX11_fresh0_15 rfl (by decide) (by decide) rfl ?_
  refine n_goto (tgt := 2) dX11_fresh0_18 (by decide) ?_
  refine n_iload_n (x := 20) dX11_fresh0_2 rfl ?_
  refine n_bipush (v := 26) dX11_fresh0_3 (by decide) ?_
  refine n_icmp_ge (tgt := 21) dX11_fresh0_5 (by decide) (fun c => absurd (by decide) c) (fun _ => ?_)
  refine n_aload_n (x := 238) dX11_fresh0_8 rfl ?_
  refine n_getR (j := 273) dX11_fresh0_9 fl_X11_114 rfl rfl hx9 hx8 fz_s hFs ?_
  refine n_iload_n (x := 20) dX11_fresh0_12 rfl ?_
  refine n_iconst (v := 0) dX11_fresh0_13 (by decide) ?_
  refine n_iast (j := 20) dX11_fresh0_14 rfl (x9 := 273) rfl hs8 hNN (by unfold vp_in; decide) ?_
  rw [setI_z (hz _)]
  refine n_iinc (x := 20) (v := 21) dX11_fresh0_15 rfl (by decide) (by decide) rfl ?_
  refine n_goto (tgt := 2) dX11_fresh0_18 (by decide) ?_
  refine n_iload_n (x := 21) dX11_fresh0_2 rfl ?_
  refine n_bipush (v := 26) dX11_fresh0_3 (by decide) ?_
  refine n_icmp_ge (tgt := 21) dX11_fresh0_5 (by decide) (fun c => absurd (by decide) c) (fun _ => ?_)
  refine n_aload_n (x := 238) dX11_fresh0_8 rfl ?_
  refine n_getR (j := 273) dX11_fresh0_9 fl_X11_114 rfl rfl hx9 hx8 fz_s hFs ?_
  refine n_iload_n (x := 21) dX11_fresh0_12 rfl ?_
  refine n_iconst (v := 0) dX11_fresh0_13 (by decide) ?_
  refine n_iast (j := 21) dX11_fresh0_14 rfl (x9 := 273) rfl hs8 hNN (by unfold vp_in; decide) ?_
  rw [setI_z (hz _)]
  refine n_iinc (x := 21) (v := 22) dX11_fresh0_15 rfl (by decide) (by decide) rfl ?_
  refine n_goto (tgt := 2) dX11_fresh0_18 (by decide) ?_
  refine n_iload_n (x := 22) dX11_fresh0_2 rfl ?_
  refine n_bipush (v := 26) dX11_fresh0_3 (by decide) ?_
  refine n_icmp_ge (tgt := 21) dX11_fresh0_5 (by decide) (fun c => absurd (by decide) c) (fun _ => ?_)
  refine n_aload_n (x := 238) dX11_fresh0_8 rfl ?_
  refine n_getR (j := 273) dX11_fresh0_9 fl_X11_114 rfl rfl hx9 hx8 fz_s hFs ?_
  refine n_iload_n (x := 22) dX11_fresh0_12 rfl ?_
  refine n_iconst (v := 0) dX11_fresh0_13 (by decide) ?_
  refine n_iast (j := 22) dX11_fresh0_14 rfl (x9 := 273) rfl hs8 hNN (by unfold vp_in; decide) ?_
  rw [setI_z (hz _)]
  refine n_iinc (x := 22) (v := 23) dX11_fresh0_15 rfl (by decide) (by decide) rfl ?_
  refine n_goto (tgt := 2) dX11_fresh0_18 (by decide) ?_
  refine n_iload_n (x := 23) dX11_fresh0_2 rfl ?_
  refine n_bipush (v := 26) dX11_fresh0_3 (by decide) ?_
  refine n_icmp_ge (tgt := 21) dX11_fresh0_5 (by decide) (fun c => absurd (by decide) c) (fun _ => ?_)
  refine n_aload_n (x := 238) dX11_fresh0_8 rfl ?_
  refine n_getR (j := 273) dX11_fresh0_9 fl_X11_114 rfl rfl hx9 hx8 fz_s hFs ?_
  refine n_iload_n (x := 23) dX11_fresh0_12 rfl ?_
  refine n_iconst (v := 0) dX11_fresh0_13 (by decide) ?_
  refine n_iast (j := 23) dX11_fresh0_14 rfl (x9 := 273) rfl hs8 hNN (by unfold vp_in; decide) ?_
  rw [setI_z (hz _)]
  refine n_iinc (x := 23) (v := 24) dX11_fresh0_15 rfl (by decide) (by decide) rfl ?_
  refine n_goto (tgt := 2) dX11_fresh0_18 (by decide) ?_
  refine n_iload_n (x := 24) dX11_fresh0_2 rfl ?_
  refine n_bipush (v := 26) dX11_fresh0_3 (by decide) ?_
  refine n_icmp_ge (tgt := 21) dX11_fresh0_5 (by decide) (fun c => absurd (by decide) c) (fun _ => ?_)
  refine n_aload_n (x := 238) dX11_fresh0_8 rfl ?_
  refine n_getR (j := 273) dX11_fresh0_9 fl_X11_114 rfl rfl hx9 hx8 fz_s hFs ?_
  refine n_iload_n (x := 24) dX11_fresh0_12 rfl ?_
  refine n_iconst (v := 0) dX11_fresh0_13 (by decide) ?_
  refine n_iast (j := 24) dX11_fresh0_14 rfl (x9 := 273) rfl hs8 hNN (by unfold vp_in; decide) ?_
  rw [setI_z (hz _)]
  refine n_iinc (x := 24) (v := 25) dX11_fresh0_15 rfl (by decide) (by decide) rfl ?_
  refine n_goto (tgt := 2) dX11_fresh0_18 (by decide) ?_
  refine n_iload_n (x := 25) dX11_fresh0_2 rfl ?_
  refine n_bipush (v := 26) dX11_fresh0_3 (by decide) ?_
  refine n_icmp_ge (tgt := 21) dX11_fresh0_5 (by decide) (fun c => absurd (by decide) c) (fun _ => ?_)
  refine n_aload_n (x := 238) dX11_fresh0_8 rfl ?_
  refine n_getR (j := 273) dX11_fresh0_9 fl_X11_114 rfl rfl hx9 hx8 fz_s hFs ?_
  refine n_iload_n (x := 25) dX11_fresh0_12 rfl ?_
  refine n_iconst (v := 0) dX11_fresh0_13 (by decide) ?_
  refine n_iast (j := 25) dX11_fresh0_14 rfl (x9 := 273) rfl hs8 hNN (by unfold vp_in; decide) ?_
  rw [setI_z (hz _)]
  refine n_iinc (x := 25) (v := 26) dX11_fresh0_15 rfl (by decide) (by decide) rfl ?_
  refine n_goto (tgt := 2) dX11_fresh0_18 (by decide) ?_
  refine n_iload_n (x := 26) dX11_fresh0_2 rfl ?_
  refine n_bipush (v := 26) dX11_fresh0_3 (by decide) ?_
  refine n_icmp_ge (tgt := 21) dX11_fresh0_5 (by decide) (fun _ => ?_) (fun c => absurd c (by decide))
  refine n_iconst (v := 0) dX11_fresh0_21 (by decide) ?_
  refine n_istore_n dX11_fresh0_22 (by decide) rfl ?_
  refine n_iload_n (x := 0) dX11_fresh0_23 rfl ?_
  refine n_aload_n (x := 238) dX11_fresh0_24 rfl ?_
  refine n_getR (j := 240) dX11_fresh0_25 fl_X11_13 rfl rfl hx9 hx8 fz_y hFy ?_
  refine n_iconst (v := 0) dX11_fresh0_28 (by decide) ?_
  refine n_iald (j := 0) dX11_fresh0_29 rfl (x9 := 240) rfl hy8 (by unfold vp_in; decide) ?_
  rw [show M.1 240 (Int32.toNatClampNeg 0) = 0 from hy]
  refine n_icmp_ge (tgt := 80) dX11_fresh0_30 (by decide) (fun _ => ?_) (fun c => absurd c (by decide))
  exact n_exit ⟨dX11_fresh0_80, rfl, rfl, rfl⟩
def F_X11 (F : Pf) : Pf := (pf1 (pf1 (pf1 (pf1 (pf1 (pf1 (pf1 (pf1 (pf1 (pf1 (pf1 (pf1 (pf1 (pf1 (pf1 (pf1 (pf1 (pf1 (pf1 (pf1 (pf1 (pf1 (pf1 (pf1 (pf1 (pf1 (pf1 (pf1 (pf1 (pf1 (pf1 (pf1 (pf1 (pf1 (pf1 (pf1 (pf1 (pf1 (pf1 (pf1 (pf1 (pf1 (pf1 (pf1 (pf1 (pf1 F 238 2) 238 10) 238 11) 238 12) 238 13) 238 14) 238 15) 238 16) 238 17) 238 18) 238 19) 238 20) 238 21) 238 22) 238 25) 238 26) 238 27) 238 28) 238 29) 238 30) 238 31) 238 32) 238 33) 238 34) 238 35) 238 36) 238 39) 238 40) 238 41) 238 42) 238 43) 238 44) 238 45) 238 46) 238 47) 238 48) 238 49) 238 50) 238 51) 238 52) 238 53) 238 55) 238 56) 238 58) 238 59) 238 61)
set_option maxHeartbeats 4000000 in
set_option maxRecDepth 40000 in
theorem k_X11 {b0 : Nat} {G : Gt} {M : Mm} {F : Pf} (hz : ∀ q, M.1 273 q = 0) (hy : ∀ q, M.1 240 q = 0) : CallN b0 46 4844 G 3 mX11_init 238 239 M F 285 (setI M 240 3 30) (F_X11 F) := by
  refine CallN.intro rfl (Nat.le_of_ble_eq_true rfl) rfl ?_
  show EvN _ _ _ G _ mX11_init 0 [.ref 238] [] _ _ _ _
  refine n_aload_n (x := 238) dX11_init_0 rfl ?_
  refine n_obj dX11_init_1 (mem_g 1163 (by decide +kernel) rfl) rfl (by decide) ?_
  refine n_aload_n (x := 238) dX11_init_4 rfl ?_
  refine n_sipush (v := 1000) dX11_init_5 (by decide) ?_
  refine n_newarr (c9 := 239) (bk := 45) (bs := 3844) (N' := 1000) (i := 239) dX11_init_8 rfl rfl (by decide) (by decide) (by decide) (by decide) ac_int ?_
  refine n_putR dX11_init_10 fl_X11_7 rfl rfl (x9 := 238) rfl (by decide) (by decide) rfl (fun C T N h => by cases h; rfl) (fun C T N h => by cases h; exact mem_g 1170 (by decide +kernel) rfl) rfl rfl ?_
  refine n_aload_n (x := 238) dX11_init_13 rfl ?_
  refine n_bipush (v := 8) dX11_init_14 (by decide) ?_
  refine n_newarr (c9 := 240) (bk := 44) (bs := 3836) (N' := 8) (i := 240) dX11_init_16 rfl rfl (by decide) (by decide) (by decide) (by decide) ac_int ?_
  refine n_putR dX11_init_18 fl_X11_13 rfl rfl (x9 := 238) rfl (by decide) (by decide) rfl (fun C T N h => by cases h; rfl) (fun C T N h => by cases h; exact mem_g 1178 (by decide +kernel) rfl) rfl rfl ?_
  refine n_aload_n (x := 238) dX11_init_21 rfl ?_
  refine n_bipush (v := 12) dX11_init_22 (by decide) ?_
  refine n_newarrL (c9 := 241) (bk := 43) (bs := 3824) (N' := 12) (i := 241) dX11_init_24 rfl rfl (by decide) (by decide) (by decide) (by decide) ac_long ?_
  refine n_putR dX11_init_26 fl_X11_16 rfl rfl (x9 := 238) rfl (by decide) (by decide) rfl (fun C T N h => by cases h; rfl) (fun C T N h => by cases h; exact mem_g 1179 (by decide +kernel) rfl) rfl rfl ?_
  refine n_aload_n (x := 238) dX11_init_29 rfl ?_
  refine n_bipush (v := 10) dX11_init_30 (by decide) ?_
  refine n_newarrL (c9 := 242) (bk := 42) (bs := 3814) (N' := 10) (i := 242) dX11_init_32 rfl rfl (by decide) (by decide) (by decide) (by decide) ac_long ?_
  refine n_putR dX11_init_34 fl_X11_20 rfl rfl (x9 := 238) rfl (by decide) (by decide) rfl (fun C T N h => by cases h; rfl) (fun C T N h => by cases h; exact mem_g 1180 (by decide +kernel) rfl) rfl rfl ?_
  refine n_aload_n (x := 238) dX11_init_37 rfl ?_
  refine n_bipush (v := 12) dX11_init_38 (by decide) ?_
  refine n_newarr (c9 := 243) (bk := 41) (bs := 3802) (N' := 12) (i := 243) dX11_init_40 rfl rfl (by decide) (by decide) (by decide) (by decide) ac_int ?_
  refine n_putR dX11_init_42 fl_X11_23 rfl rfl (x9 := 238) rfl (by decide) (by decide) rfl (fun C T N h => by cases h; rfl) (fun C T N h => by cases h; exact mem_g 1181 (by decide +kernel) rfl) rfl rfl ?_
  refine n_aload_n (x := 238) dX11_init_45 rfl ?_
  refine n_bipush (v := 12) dX11_init_46 (by decide) ?_
  refine n_newarr (c9 := 244) (bk := 40) (bs := 3790) (N' := 12) (i := 244) dX11_init_48 rfl rfl (by decide) (by decide) (by decide) (by decide) ac_int ?_
  refine n_putR dX11_init_50 fl_X11_26 rfl rfl (x9 := 238) rfl (by decide) (by decide) rfl (fun C T N h => by cases h; rfl) (fun C T N h => by cases h; exact mem_g 1182 (by decide +kernel) rfl) rfl rfl ?_
  refine n_aload_n (x := 238) dX11_init_53 rfl ?_
  refine n_bipush (v := 12) dX11_init_54 (by decide) ?_
  refine n_newarr (c9 := 245) (bk := 39) (bs := 3778) (N' := 12) (i := 245) dX11_init_56 rfl rfl (by decide) (by decide) (by decide) (by decide) ac_int ?_
  refine n_putR dX11_init_58 fl_X11_29 rfl rfl (x9 := 238) rfl (by decide) (by decide) rfl (fun C T N h => by cases h; rfl) (fun C T N h => by cases h; exact mem_g 1183 (by decide +kernel) rfl) rfl rfl ?_
  refine n_aload_n (x := 238) dX11_init_61 rfl ?_
  refine n_bipush (v := 12) dX11_init_62 (by decide) ?_
  refine n_newarr (c9 := 246) (bk := 38) (bs := 3766) (N' := 12) (i := 246) dX11_init_64 rfl rfl (by decide) (by decide) (by decide) (by decide) ac_int ?_
  refine n_putR dX11_init_66 fl_X11_32 rfl rfl (x9 := 238) rfl (by decide) (by decide) rfl (fun C T N h => by cases h; rfl) (fun C T N h => by cases h; exact mem_g 1184 (by decide +kernel) rfl) rfl rfl ?_
  refine n_aload_n (x := 238) dX11_init_69 rfl ?_
  refine n_bipush (v := 10) dX11_init_70 (by decide) ?_
  refine n_newarr (c9 := 247) (bk := 37) (bs := 3756) (N' := 10) (i := 247) dX11_init_72 rfl rfl (by decide) (by decide) (by decide) (by decide) ac_int ?_
  refine n_putR dX11_init_74 fl_X11_35 rfl rfl (x9 := 238) rfl (by decide) (by decide) rfl (fun C T N h => by cases h; rfl) (fun C T N h => by cases h; exact mem_g 1185 (by decide +kernel) rfl) rfl rfl ?_
  refine n_aload_n (x := 238) dX11_init_77 rfl ?_
  refine n_bipush (v := 10) dX11_init_78 (by decide) ?_
  refine n_newarr (c9 := 248) (bk := 36) (bs := 3746) (N' := 10) (i := 248) dX11_init_80 rfl rfl (by decide) (by decide) (by decide) (by decide) ac_int ?_
  refine n_putR dX11_init_82 fl_X11_38 rfl rfl (x9 := 238) rfl (by decide) (by decide) rfl (fun C T N h => by cases h; rfl) (fun C T N h => by cases h; exact mem_g 1186 (by decide +kernel) rfl) rfl rfl ?_
  refine n_aload_n (x := 238) dX11_init_85 rfl ?_
  refine n_bipush (v := 24) dX11_init_86 (by decide) ?_
  refine n_newarr (c9 := 249) (bk := 35) (bs := 3722) (N' := 24) (i := 249) dX11_init_88 rfl rfl (by decide) (by decide) (by decide) (by decide) ac_int ?_
  refine n_putR dX11_init_90 fl_X11_41 rfl rfl (x9 := 238) rfl (by decide) (by decide) rfl (fun C T N h => by cases h; rfl) (fun C T N h => by cases h; exact mem_g 1187 (by decide +kernel) rfl) rfl rfl ?_
  refine n_aload_n (x := 238) dX11_init_93 rfl ?_
  refine n_iconst (v := 2) dX11_init_94 (by decide) ?_
  refine n_newarr (c9 := 250) (bk := 34) (bs := 3720) (N' := 2) (i := 250) dX11_init_95 rfl rfl (by decide) (by decide) (by decide) (by decide) ac_int ?_
  refine n_putR dX11_init_97 fl_X11_44 rfl rfl (x9 := 238) rfl (by decide) (by decide) rfl (fun C T N h => by cases h; rfl) (fun C T N h => by cases h; exact mem_g 1188 (by decide +kernel) rfl) rfl rfl ?_
  refine n_aload_n (x := 238) dX11_init_100 rfl ?_
  refine n_iconst (v := 2) dX11_init_101 (by decide) ?_
  refine n_newarr (c9 := 251) (bk := 33) (bs := 3718) (N' := 2) (i := 251) dX11_init_102 rfl rfl (by decide) (by decide) (by decide) (by decide) ac_int ?_
  refine n_putR dX11_init_104 fl_X11_47 rfl rfl (x9 := 238) rfl (by decide) (by decide) rfl (fun C T N h => by cases h; rfl) (fun C T N h => by cases h; exact mem_g 1189 (by decide +kernel) rfl) rfl rfl ?_
  refine n_aload_n (x := 238) dX11_init_107 rfl ?_
  refine n_sipush (v := 2000) dX11_init_108 (by decide) ?_
  refine n_newarr (c9 := 252) (bk := 32) (bs := 1718) (N' := 2000) (i := 252) dX11_init_111 rfl rfl (by decide) (by decide) (by decide) (by decide) ac_int ?_
  refine n_putR dX11_init_113 fl_X11_50 rfl rfl (x9 := 238) rfl (by decide) (by decide) rfl (fun C T N h => by cases h; rfl) (fun C T N h => by cases h; exact mem_g 1190 (by decide +kernel) rfl) rfl rfl ?_
  refine n_aload_n (x := 238) dX11_init_116 rfl ?_
  refine n_bipush (v := 7) dX11_init_117 (by decide) ?_
  refine n_newarr (c9 := 253) (bk := 31) (bs := 1711) (N' := 7) (i := 253) dX11_init_119 rfl rfl (by decide) (by decide) (by decide) (by decide) ac_int ?_
  refine n_putR dX11_init_121 fl_X11_53 rfl rfl (x9 := 238) rfl (by decide) (by decide) rfl (fun C T N h => by cases h; rfl) (fun C T N h => by cases h; exact mem_g 1193 (by decide +kernel) rfl) rfl rfl ?_
  refine n_aload_n (x := 238) dX11_init_124 rfl ?_
  refine n_bipush (v := 7) dX11_init_125 (by decide) ?_
  refine n_newarrZ (c9 := 254) (bk := 30) (bs := 1704) (N' := 7) (i := 254) dX11_init_127 rfl rfl (by decide) (by decide) (by decide) (by decide) ac_bool ?_
  refine n_putR dX11_init_129 fl_X11_56 rfl rfl (x9 := 238) rfl (by decide) (by decide) rfl (fun C T N h => by cases h; rfl) (fun C T N h => by cases h; exact mem_g 1194 (by decide +kernel) rfl) rfl rfl ?_
  refine n_aload_n (x := 238) dX11_init_132 rfl ?_
  refine n_bipush (v := 7) dX11_init_133 (by decide) ?_
  refine n_newarr (c9 := 255) (bk := 29) (bs := 1697) (N' := 7) (i := 255) dX11_init_135 rfl rfl (by decide) (by decide) (by decide) (by decide) ac_int ?_
  refine n_putR dX11_init_137 fl_X11_60 rfl rfl (x9 := 238) rfl (by decide) (by decide) rfl (fun C T N h => by cases h; rfl) (fun C T N h => by cases h; exact mem_g 1195 (by decide +kernel) rfl) rfl rfl ?_
  refine n_aload_n (x := 238) dX11_init_140 rfl ?_
  refine n_bipush (v := 7) dX11_init_141 (by decide) ?_
  refine n_newarr (c9 := 256) (bk := 28) (bs := 1690) (N' := 7) (i := 256) dX11_init_143 rfl rfl (by decide) (by decide) (by decide) (by decide) ac_int ?_
  refine n_putR dX11_init_145 fl_X11_63 rfl rfl (x9 := 238) rfl (by decide) (by decide) rfl (fun C T N h => by cases h; rfl) (fun C T N h => by cases h; exact mem_g 1196 (by decide +kernel) rfl) rfl rfl ?_
  refine n_aload_n (x := 238) dX11_init_148 rfl ?_
  refine n_bipush (v := 7) dX11_init_149 (by decide) ?_
  refine n_newarr (c9 := 257) (bk := 27) (bs := 1683) (N' := 7) (i := 257) dX11_init_151 rfl rfl (by decide) (by decide) (by decide) (by decide) ac_int ?_
  refine n_putR dX11_init_153 fl_X11_66 rfl rfl (x9 := 238) rfl (by decide) (by decide) rfl (fun C T N h => by cases h; rfl) (fun C T N h => by cases h; exact mem_g 1197 (by decide +kernel) rfl) rfl rfl ?_
  refine n_aload_n (x := 238) dX11_init_156 rfl ?_
  refine n_bipush (v := 7) dX11_init_157 (by decide) ?_
  refine n_newarr (c9 := 258) (bk := 26) (bs := 1676) (N' := 7) (i := 258) dX11_init_159 rfl rfl (by decide) (by decide) (by decide) (by decide) ac_int ?_
  refine n_putR dX11_init_161 fl_X11_69 rfl rfl (x9 := 238) rfl (by decide) (by decide) rfl (fun C T N h => by cases h; rfl) (fun C T N h => by cases h; exact mem_g 1198 (by decide +kernel) rfl) rfl rfl ?_
  refine n_aload_n (x := 238) dX11_init_164 rfl ?_
  refine n_bipush (v := 7) dX11_init_165 (by decide) ?_
  refine n_newarr (c9 := 259) (bk := 25) (bs := 1669) (N' := 7) (i := 259) dX11_init_167 rfl rfl (by decide) (by decide) (by decide) (by decide) ac_int ?_
  refine n_putR dX11_init_169 fl_X11_72 rfl rfl (x9 := 238) rfl (by decide) (by decide) rfl (fun C T N h => by cases h; rfl) (fun C T N h => by cases h; exact mem_g 1199 (by decide +kernel) rfl) rfl rfl ?_
  refine n_aload_n (x := 238) dX11_init_172 rfl ?_
  refine n_bipush (v := 7) dX11_init_173 (by decide) ?_
  refine n_newarr (c9 := 260) (bk := 24) (bs := 1662) (N' := 7) (i := 260) dX11_init_175 rfl rfl (by decide) (by decide) (by decide) (by decide) ac_int ?_
  refine n_putR dX11_init_177 fl_X11_75 rfl rfl (x9 := 238) rfl (by decide) (by decide) rfl (fun C T N h => by cases h; rfl) (fun C T N h => by cases h; exact mem_g 1200 (by decide +kernel) rfl) rfl rfl ?_
  refine n_aload_n (x := 238) dX11_init_180 rfl ?_
  refine n_bipush (v := 7) dX11_init_181 (by decide) ?_
  refine n_newarr (c9 := 261) (bk := 23) (bs := 1655) (N' := 7) (i := 261) dX11_init_183 rfl rfl (by decide) (by decide) (by decide) (by decide) ac_int ?_
  refine n_putR dX11_init_185 fl_X11_78 rfl rfl (x9 := 238) rfl (by decide) (by decide) rfl (fun C T N h => by cases h; rfl) (fun C T N h => by cases h; exact mem_g 1201 (by decide +kernel) rfl) rfl rfl ?_
  refine n_aload_n (x := 238) dX11_init_188 rfl ?_
  refine n_bipush (v := 7) dX11_init_189 (by decide) ?_
  refine n_newarr (c9 := 262) (bk := 22) (bs := 1648) (N' := 7) (i := 262) dX11_init_191 rfl rfl (by decide) (by decide) (by decide) (by decide) ac_int ?_
  refine n_putR dX11_init_193 fl_X11_81 rfl rfl (x9 := 238) rfl (by decide) (by decide) rfl (fun C T N h => by cases h; rfl) (fun C T N h => by cases h; exact mem_g 1202 (by decide +kernel) rfl) rfl rfl ?_
  refine n_aload_n (x := 238) dX11_init_196 rfl ?_
  refine n_bipush (v := 7) dX11_init_197 (by decide) ?_
  refine n_newarr (c9 := 263) (bk := 21) (bs := 1641) (N' := 7) (i := 263) dX11_init_199 rfl rfl (by decide) (by decide) (by decide) (by decide) ac_int ?_
  refine n_putR dX11_init_201 fl_X11_84 rfl rfl (x9 := 238) rfl (by decide) (by decide) rfl (fun C T N h => by cases h; rfl) (fun C T N h => by cases h; exact mem_g 1203 (by decide +kernel) rfl) rfl rfl ?_
  refine n_aload_n (x := 238) dX11_init_204 rfl ?_
  refine n_bipush (v := 20) dX11_init_205 (by decide) ?_
  refine n_newarr (c9 := 264) (bk := 20) (bs := 1621) (N' := 20) (i := 264) dX11_init_207 rfl rfl (by decide) (by decide) (by decide) (by decide) ac_int ?_
  refine n_putR dX11_init_209 fl_X11_87 rfl rfl (x9 := 238) rfl (by decide) (by decide) rfl (fun C T N h => by cases h; rfl) (fun C T N h => by cases h; exact mem_g 1204 (by decide +kernel) rfl) rfl rfl ?_
  refine n_aload_n (x := 238) dX11_init_212 rfl ?_
  refine n_bipush (v := 6) dX11_init_213 (by decide) ?_
  refine n_newarr (c9 := 265) (bk := 19) (bs := 1615) (N' := 6) (i := 265) dX11_init_215 rfl rfl (by decide) (by decide) (by decide) (by decide) ac_int ?_
  refine n_putR dX11_init_217 fl_X11_90 rfl rfl (x9 := 238) rfl (by decide) (by decide) rfl (fun C T N h => by cases h; rfl) (fun C T N h => by cases h; exact mem_g 1207 (by decide +kernel) rfl) rfl rfl ?_
  refine n_aload_n (x := 238) dX11_init_220 rfl ?_
  refine n_sipush (v := 240) dX11_init_221 (by decide) ?_
  refine n_newarr (c9 := 266) (bk := 18) (bs := 1375) (N' := 240) (i := 266) dX11_init_224 rfl rfl (by decide) (by decide) (by decide) (by decide) ac_int ?_
  refine n_putR dX11_init_226 fl_X11_93 rfl rfl (x9 := 238) rfl (by decide) (by decide) rfl (fun C T N h => by cases h; rfl) (fun C T N h => by cases h; exact mem_g 1208 (by decide +kernel) rfl) rfl rfl ?_
  refine n_aload_n (x := 238) dX11_init_229 rfl ?_
  refine n_sipush (v := 240) dX11_init_230 (by decide) ?_
  refine n_newarr (c9 := 267) (bk := 17) (bs := 1135) (N' := 240) (i := 267) dX11_init_233 rfl rfl (by decide) (by decide) (by decide) (by decide) ac_int ?_
  refine n_putR dX11_init_235 fl_X11_96 rfl rfl (x9 := 238) rfl (by decide) (by decide) rfl (fun C T N h => by cases h; rfl) (fun C T N h => by cases h; exact mem_g 1209 (by decide +kernel) rfl) rfl rfl ?_
  refine n_aload_n (x := 238) dX11_init_238 rfl ?_
  refine n_sipush (v := 240) dX11_init_239 (by decide) ?_
  refine n_newarr (c9 := 268) (bk := 16) (bs := 895) (N' := 240) (i := 268) dX11_init_242 rfl rfl (by decide) (by decide) (by decide) (by decide) ac_int ?_
  refine n_putR dX11_init_244 fl_X11_99 rfl rfl (x9 := 238) rfl (by decide) (by decide) rfl (fun C T N h => by cases h; rfl) (fun C T N h => by cases h; exact mem_g 1210 (by decide +kernel) rfl) rfl rfl ?_
  refine n_aload_n (x := 238) dX11_init_247 rfl ?_
  refine n_iconst (v := 5) dX11_init_248 (by decide) ?_
  refine n_newarr (c9 := 269) (bk := 15) (bs := 890) (N' := 5) (i := 269) dX11_init_249 rfl rfl (by decide) (by decide) (by decide) (by decide) ac_int ?_
  refine n_putR dX11_init_251 fl_X11_102 rfl rfl (x9 := 238) rfl (by decide) (by decide) rfl (fun C T N h => by cases h; rfl) (fun C T N h => by cases h; exact mem_g 1211 (by decide +kernel) rfl) rfl rfl ?_
  refine n_aload_n (x := 238) dX11_init_254 rfl ?_
  refine n_bipush (v := 40) dX11_init_255 (by decide) ?_
  refine n_newarr (c9 := 270) (bk := 14) (bs := 850) (N' := 40) (i := 270) dX11_init_257 rfl rfl (by decide) (by decide) (by decide) (by decide) ac_int ?_
  refine n_putR dX11_init_259 fl_X11_105 rfl rfl (x9 := 238) rfl (by decide) (by decide) rfl (fun C T N h => by cases h; rfl) (fun C T N h => by cases h; exact mem_g 1212 (by decide +kernel) rfl) rfl rfl ?_
  refine n_aload_n (x := 238) dX11_init_262 rfl ?_
  refine n_bipush (v := 40) dX11_init_263 (by decide) ?_
  refine n_newarr (c9 := 271) (bk := 13) (bs := 810) (N' := 40) (i := 271) dX11_init_265 rfl rfl (by decide) (by decide) (by decide) (by decide) ac_int ?_
  refine n_putR dX11_init_267 fl_X11_108 rfl rfl (x9 := 238) rfl (by decide) (by decide) rfl (fun C T N h => by cases h; rfl) (fun C T N h => by cases h; exact mem_g 1213 (by decide +kernel) rfl) rfl rfl ?_
  refine n_aload_n (x := 238) dX11_init_270 rfl ?_
  refine n_bipush (v := 40) dX11_init_271 (by decide) ?_
  refine n_newarrZ (c9 := 272) (bk := 12) (bs := 770) (N' := 40) (i := 272) dX11_init_273 rfl rfl (by decide) (by decide) (by decide) (by decide) ac_bool ?_
  refine n_putR dX11_init_275 fl_X11_111 rfl rfl (x9 := 238) rfl (by decide) (by decide) rfl (fun C T N h => by cases h; rfl) (fun C T N h => by cases h; exact mem_g 1214 (by decide +kernel) rfl) rfl rfl ?_
  refine n_aload_n (x := 238) dX11_init_278 rfl ?_
  refine n_bipush (v := 26) dX11_init_279 (by decide) ?_
  refine n_newarr (c9 := 273) (bk := 11) (bs := 744) (N' := 26) (i := 273) dX11_init_281 rfl rfl (by decide) (by decide) (by decide) (by decide) ac_int ?_
  refine n_putR dX11_init_283 fl_X11_114 rfl rfl (x9 := 238) rfl (by decide) (by decide) rfl (fun C T N h => by cases h; rfl) (fun C T N h => by cases h; exact mem_g 1215 (by decide +kernel) rfl) rfl rfl ?_
  refine n_aload_n (x := 238) dX11_init_286 rfl ?_
  refine n_bipush (v := 26) dX11_init_287 (by decide) ?_
  refine n_newarr (c9 := 274) (bk := 10) (bs := 718) (N' := 26) (i := 274) dX11_init_289 rfl rfl (by decide) (by decide) (by decide) (by decide) ac_int ?_
  refine n_putR dX11_init_291 fl_X11_117 rfl rfl (x9 := 238) rfl (by decide) (by decide) rfl (fun C T N h => by cases h; rfl) (fun C T N h => by cases h; exact mem_g 1216 (by decide +kernel) rfl) rfl rfl ?_
  refine n_aload_n (x := 238) dX11_init_294 rfl ?_
  refine n_bipush (v := 26) dX11_init_295 (by decide) ?_
  refine n_newarr (c9 := 275) (bk := 9) (bs := 692) (N' := 26) (i := 275) dX11_init_297 rfl rfl (by decide) (by decide) (by decide) (by decide) ac_int ?_
  refine n_putR dX11_init_299 fl_X11_120 rfl rfl (x9 := 238) rfl (by decide) (by decide) rfl (fun C T N h => by cases h; rfl) (fun C T N h => by cases h; exact mem_g 1217 (by decide +kernel) rfl) rfl rfl ?_
  refine n_aload_n (x := 238) dX11_init_302 rfl ?_
  refine n_bipush (v := 26) dX11_init_303 (by decide) ?_
  refine n_newarr (c9 := 276) (bk := 8) (bs := 666) (N' := 26) (i := 276) dX11_init_305 rfl rfl (by decide) (by decide) (by decide) (by decide) ac_int ?_
  refine n_putR dX11_init_307 fl_X11_123 rfl rfl (x9 := 238) rfl (by decide) (by decide) rfl (fun C T N h => by cases h; rfl) (fun C T N h => by cases h; exact mem_g 1218 (by decide +kernel) rfl) rfl rfl ?_
  refine n_aload_n (x := 238) dX11_init_310 rfl ?_
  refine n_bipush (v := 104) dX11_init_311 (by decide) ?_
  refine n_newarr (c9 := 277) (bk := 7) (bs := 562) (N' := 104) (i := 277) dX11_init_313 rfl rfl (by decide) (by decide) (by decide) (by decide) ac_int ?_
  refine n_putR dX11_init_315 fl_X11_126 rfl rfl (x9 := 238) rfl (by decide) (by decide) rfl (fun C T N h => by cases h; rfl) (fun C T N h => by cases h; exact mem_g 1219 (by decide +kernel) rfl) rfl rfl ?_
  refine n_aload_n (x := 238) dX11_init_318 rfl ?_
  refine n_sipush (v := 416) dX11_init_319 (by decide) ?_
  refine n_newarr (c9 := 278) (bk := 6) (bs := 146) (N' := 416) (i := 278) dX11_init_322 rfl rfl (by decide) (by decide) (by decide) (by decide) ac_int ?_
  refine n_putR dX11_init_324 fl_X11_129 rfl rfl (x9 := 238) rfl (by decide) (by decide) rfl (fun C T N h => by cases h; rfl) (fun C T N h => by cases h; exact mem_g 1220 (by decide +kernel) rfl) rfl rfl ?_
  refine n_aload_n (x := 238) dX11_init_327 rfl ?_
  refine n_iconst (v := 4) dX11_init_328 (by decide) ?_
  refine n_newarrZ (c9 := 279) (bk := 5) (bs := 142) (N' := 4) (i := 279) dX11_init_329 rfl rfl (by decide) (by decide) (by decide) (by decide) ac_bool ?_
  refine n_putR dX11_init_331 fl_X11_132 rfl rfl (x9 := 238) rfl (by decide) (by decide) rfl (fun C T N h => by cases h; rfl) (fun C T N h => by cases h; exact mem_g 1221 (by decide +kernel) rfl) rfl rfl ?_
  refine n_aload_n (x := 238) dX11_init_334 rfl ?_
  refine n_bipush (v := 6) dX11_init_335 (by decide) ?_
  refine n_newarr (c9 := 280) (bk := 4) (bs := 136) (N' := 6) (i := 280) dX11_init_337 rfl rfl (by decide) (by decide) (by decide) (by decide) ac_int ?_
  refine n_putR dX11_init_339 fl_X11_135 rfl rfl (x9 := 238) rfl (by decide) (by decide) rfl (fun C T N h => by cases h; rfl) (fun C T N h => by cases h; exact mem_g 1223 (by decide +kernel) rfl) rfl rfl ?_
  refine n_aload_n (x := 238) dX11_init_342 rfl ?_
  refine n_bipush (v := 6) dX11_init_343 (by decide) ?_
  refine n_newarr (c9 := 281) (bk := 3) (bs := 130) (N' := 6) (i := 281) dX11_init_345 rfl rfl (by decide) (by decide) (by decide) (by decide) ac_int ?_
  refine n_putR dX11_init_347 fl_X11_138 rfl rfl (x9 := 238) rfl (by decide) (by decide) rfl (fun C T N h => by cases h; rfl) (fun C T N h => by cases h; exact mem_g 1224 (by decide +kernel) rfl) rfl rfl ?_
  refine n_aload_n (x := 238) dX11_init_350 rfl ?_
  refine n_iconst (v := 5) dX11_init_351 (by decide) ?_
  refine n_newarr (c9 := 282) (bk := 2) (bs := 125) (N' := 5) (i := 282) dX11_init_352 rfl rfl (by decide) (by decide) (by decide) (by decide) ac_int ?_
  refine n_putR dX11_init_354 fl_X11_141 rfl rfl (x9 := 238) rfl (by decide) (by decide) rfl (fun C T N h => by cases h; rfl) (fun C T N h => by cases h; exact mem_g 1226 (by decide +kernel) rfl) rfl rfl ?_
  refine n_aload_n (x := 238) dX11_init_357 rfl ?_
  refine n_iconst (v := 5) dX11_init_358 (by decide) ?_
  refine n_newarr (c9 := 283) (bk := 1) (bs := 120) (N' := 5) (i := 283) dX11_init_359 rfl rfl (by decide) (by decide) (by decide) (by decide) ac_int ?_
  refine n_putR dX11_init_361 fl_X11_144 rfl rfl (x9 := 238) rfl (by decide) (by decide) rfl (fun C T N h => by cases h; rfl) (fun C T N h => by cases h; exact mem_g 1227 (by decide +kernel) rfl) rfl rfl ?_
  refine n_aload_n (x := 238) dX11_init_364 rfl ?_
  refine n_bipush (v := 120) dX11_init_365 (by decide) ?_
  refine n_newarr (c9 := 284) (bk := 0) (bs := 0) (N' := 120) (i := 284) dX11_init_367 rfl rfl (by decide) (by decide) (by decide) (by decide) ac_int ?_
  refine n_putR dX11_init_369 fl_X11_147 rfl rfl (x9 := 238) rfl (by decide) (by decide) rfl (fun C T N h => by cases h; rfl) (fun C T N h => by cases h; exact mem_g 1229 (by decide +kernel) rfl) rfl rfl ?_
  refine n_aload_n (x := 238) dX11_init_372 rfl ?_
  refine n_getR (j := 240) dX11_init_373 fl_X11_13 rfl rfl (x9 := 238) rfl (by decide) (fun C T N h => by cases h; exact mem_g 1178 (by decide +kernel) rfl) (by rfl) ?_
  refine n_iconst (v := 3) dX11_init_376 (by decide) ?_
  refine n_bipush (v := 30) dX11_init_377 (by decide) ?_
  refine n_iast (j := 3) dX11_init_379 rfl (x9 := 240) rfl (by decide) (by decide) (by unfold vp_in; decide) ?_
  refine n_aload_n (x := 238) dX11_init_380 rfl ?_
  refine n_callV0 (x9 := 238) (d' := 1) dX11_init_381 mo_X11_fresh0 (mem_g 1164 (by decide +kernel) rfl) rfl (by decide +kernel) rfl (by decide) (Nat.le_of_ble_eq_true rfl) (by decide) (k_fresh0 (x9 := 238) rfl (by decide) (by decide) (by decide) (by decide) (by rfl) (by rfl) (fun q => hz q) (hy 0)) ?_
  exact n_exit ⟨dX11_init_384, rfl, rfl, rfl⟩
end NC2
