section RRE
theorem nI_dn (d : Nat) : nI (d + 1) + Int32.ofInt (-1) = nI d := by
  have h := nI_sub1 d
  rw [Int32.sub_eq_add_neg] at h
  rw [show Int32.ofInt (-1) = -(1 : Int32) by decide]
  exact h
theorem nI_gt0 {d : Nat} (h : 0 < d) (hd : d ≤ 5) : 0 < nI d := (nI_ltI (a := 0) (b := d) (by omega) (by omega)).mpr h
set_option maxHeartbeats 500000 in
set_option maxRecDepth 20000 in
theorem j_add {G : Gt} {M0 M : Mm} {t : Tv} {x : Xv} {L : List Int32} {Q : Option Value → Mm → Prop} {d : Nat} {u3 u4 u5 : Value} (hS : ST M0 M t x L) (hd : d ≤ 5) (S43 : isS t x 43) (k : ∀ M', ST M0 M' t (advX t x) (L ++ [20]) → M'.1 253 = M.1 253 → (∀ k, ¬ k = d → M'.1 254 k = M.1 254 k) → M'.1 254 d = M.1 254 d → Ev G 3 mX11_reads 11 [.ref 238, .int (nI d), .int 1, u3, u4, u5] [] M' Q) : Ev G 3 mX11_reads 11 [.ref 238, .int (nI d), .int 0, u3, u4, u5] [] M (Q) := by
  have hG := hS.1.2.1
  obtain ⟨hx0, hx2, hI, hZ, g4, g5, g6, g7, g8⟩ := id hG
  have hcd := hS.1.2.2.1
  have S40 : ¬ isS t x 40 := fun q => absurd (S43.2.2.symm.trans q.2.2) (by decide)
  have S41 : ¬ isS t x 41 := fun q => absurd (S43.2.2.symm.trans q.2.2) (by decide)
  have S42 : ¬ isS t x 42 := fun q => absurd (S43.2.2.symm.trans q.2.2) (by decide)
  have S45 : ¬ isS t x 45 := fun q => absurd (S43.2.2.symm.trans q.2.2) (by decide)
  have S59 : ¬ isS t x 59 := fun q => absurd (S43.2.2.symm.trans q.2.2) (by decide)
  have S60 : ¬ isS t x 60 := fun q => absurd (S43.2.2.symm.trans q.2.2) (by decide)
  have S61 : ¬ isS t x 61 := fun q => absurd (S43.2.2.symm.trans q.2.2) (by decide)
  have W18 : ¬ isW t x 18 := fun q => absurd (S43.2.1.symm.trans q.2.1) (by decide)
  have W19 : ¬ isW t x 19 := fun q => absurd (S43.2.1.symm.trans q.2.1) (by decide)
  have W20 : ¬ isW t x 20 := fun q => absurd (S43.2.1.symm.trans q.2.1) (by decide)
  have hk : ¬ kdX t x = 0 := by rw [S43.2.1]; decide
  have hlt := hS.lt hk
  refine e_iload_n dX11_reads_11 rfl ?_
  refine e_if_eq (tgt := 179) dX11_reads_12 (by decide) (fun c12 => ?_) (fun c12 => absurd c12 (fun q => q rfl))
  refine e_aload_n dX11_reads_179 rfl ?_
  refine e_bipush (v := 43) dX11_reads_180 (by decide) ?_
  refine cV1r dX11_reads_182 mo_X11_isSign ml_X11_213 sh_m rfl (Nat.le_of_ble_eq_true rfl) (by omega) (r_isSign hG (s := 43)) ?_
  rw [b2i_t S43]
  refine e_if_ne (tgt := 206) dX11_reads_185 (by decide) (fun c185 => ?_) (fun c185 => absurd c185 (by decide))
  refine e_aload_n dX11_reads_206 rfl ?_
  refine e_aload_n dX11_reads_207 rfl ?_
  refine e_bipush (v := 43) dX11_reads_208 (by decide) ?_
  refine cV1r dX11_reads_210 mo_X11_isSign ml_X11_213 sh_m rfl (Nat.le_of_ble_eq_true rfl) (by omega) (r_isSign hG (s := 43)) ?_
  rw [b2i_t S43]
  refine e_if_eq (tgt := 221) dX11_reads_213 (by decide) (fun c213 => absurd c213 (by decide)) (fun c213 => ?_)
  refine e_bipush (v := 20) dX11_reads_216 (by decide) ?_
  refine e_goto (tgt := 237) dX11_reads_218 (by decide) ?_
  refine cV1v dX11_reads_237 mo_X11_puts ml_X11_220 sh_m rfl (Nat.le_of_ble_eq_true rfl) (by omega) (r_puts (n := 1000 + L.length) hcd (by omega)) ?_
  have hP := hS.put (c := 20) hk
  refine e_iconst (v := 1) dX11_reads_240 (by decide) ?_
  refine e_istore_n (ls' := [_, _, _, _, _, _]) dX11_reads_241 (by decide) rfl ?_
  refine e_goto (tgt := 424) dX11_reads_242 (by decide) ?_
  refine e_aload_n dX11_reads_424 rfl ?_
  refine cV0x dX11_reads_425 mo_X11_nextToken ml_X11_224 sh_m rfl (Nat.le_of_ble_eq_true rfl) (by omega) (c_nt hP.1.2.1 OF.rfl' rfl) ?_
  rintro r M2 ⟨rfl, hN, hG2⟩
  dsimp only [Option.toList, List.cons_append, List.nil_append]
  refine e_goto (tgt := 11) dX11_reads_428 (by decide) ?_
  refine k M2 (hP.next hN hG2) (by rw [hN.1 253 (by decide)]; funext z; rw [setI_n (by decide), setI_n (by decide)]) (fun z _ => by rw [hN.1 254 (by decide), setI_n (by decide), setI_n (by decide)]) (by rw [hN.1 254 (by decide), setI_n (by decide), setI_n (by decide)])
set_option maxHeartbeats 500000 in
set_option maxRecDepth 20000 in
theorem j_sub {G : Gt} {M0 M : Mm} {t : Tv} {x : Xv} {L : List Int32} {Q : Option Value → Mm → Prop} {d : Nat} {u3 u4 u5 : Value} (hS : ST M0 M t x L) (hd : d ≤ 5) (S45 : isS t x 45) (k : ∀ M', ST M0 M' t (advX t x) (L ++ [21]) → M'.1 253 = M.1 253 → (∀ k, ¬ k = d → M'.1 254 k = M.1 254 k) → M'.1 254 d = M.1 254 d → Ev G 3 mX11_reads 11 [.ref 238, .int (nI d), .int 1, u3, u4, u5] [] M' Q) : Ev G 3 mX11_reads 11 [.ref 238, .int (nI d), .int 0, u3, u4, u5] [] M (Q) := by
  have hG := hS.1.2.1
  obtain ⟨hx0, hx2, hI, hZ, g4, g5, g6, g7, g8⟩ := id hG
  have hcd := hS.1.2.2.1
  have S40 : ¬ isS t x 40 := fun q => absurd (S45.2.2.symm.trans q.2.2) (by decide)
  have S41 : ¬ isS t x 41 := fun q => absurd (S45.2.2.symm.trans q.2.2) (by decide)
  have S42 : ¬ isS t x 42 := fun q => absurd (S45.2.2.symm.trans q.2.2) (by decide)
  have S43 : ¬ isS t x 43 := fun q => absurd (S45.2.2.symm.trans q.2.2) (by decide)
  have S59 : ¬ isS t x 59 := fun q => absurd (S45.2.2.symm.trans q.2.2) (by decide)
  have S60 : ¬ isS t x 60 := fun q => absurd (S45.2.2.symm.trans q.2.2) (by decide)
  have S61 : ¬ isS t x 61 := fun q => absurd (S45.2.2.symm.trans q.2.2) (by decide)
  have W18 : ¬ isW t x 18 := fun q => absurd (S45.2.1.symm.trans q.2.1) (by decide)
  have W19 : ¬ isW t x 19 := fun q => absurd (S45.2.1.symm.trans q.2.1) (by decide)
  have W20 : ¬ isW t x 20 := fun q => absurd (S45.2.1.symm.trans q.2.1) (by decide)
  have hk : ¬ kdX t x = 0 := by rw [S45.2.1]; decide
  have hlt := hS.lt hk
  refine e_iload_n dX11_reads_11 rfl ?_
  refine e_if_eq (tgt := 179) dX11_reads_12 (by decide) (fun c12 => ?_) (fun c12 => absurd c12 (fun q => q rfl))
  refine e_aload_n dX11_reads_179 rfl ?_
  refine e_bipush (v := 43) dX11_reads_180 (by decide) ?_
  refine cV1r dX11_reads_182 mo_X11_isSign ml_X11_213 sh_m rfl (Nat.le_of_ble_eq_true rfl) (by omega) (r_isSign hG (s := 43)) ?_
  rw [b2i_f S43]
  refine e_if_ne (tgt := 206) dX11_reads_185 (by decide) (fun c185 => absurd c185 (by decide)) (fun c185 => ?_)
  refine e_aload_n dX11_reads_188 rfl ?_
  refine e_bipush (v := 45) dX11_reads_189 (by decide) ?_
  refine cV1r dX11_reads_191 mo_X11_isSign ml_X11_213 sh_m rfl (Nat.le_of_ble_eq_true rfl) (by omega) (r_isSign hG (s := 45)) ?_
  rw [b2i_t S45]
  refine e_if_ne (tgt := 206) dX11_reads_194 (by decide) (fun c194 => ?_) (fun c194 => absurd c194 (by decide))
  refine e_aload_n dX11_reads_206 rfl ?_
  refine e_aload_n dX11_reads_207 rfl ?_
  refine e_bipush (v := 43) dX11_reads_208 (by decide) ?_
  refine cV1r dX11_reads_210 mo_X11_isSign ml_X11_213 sh_m rfl (Nat.le_of_ble_eq_true rfl) (by omega) (r_isSign hG (s := 43)) ?_
  rw [b2i_f S43]
  refine e_if_eq (tgt := 221) dX11_reads_213 (by decide) (fun c213 => ?_) (fun c213 => absurd c213 (by decide))
  refine e_aload_n dX11_reads_221 rfl ?_
  refine e_bipush (v := 45) dX11_reads_222 (by decide) ?_
  refine cV1r dX11_reads_224 mo_X11_isSign ml_X11_213 sh_m rfl (Nat.le_of_ble_eq_true rfl) (by omega) (r_isSign hG (s := 45)) ?_
  rw [b2i_t S45]
  refine e_if_eq (tgt := 235) dX11_reads_227 (by decide) (fun c227 => absurd c227 (by decide)) (fun c227 => ?_)
  refine e_bipush (v := 21) dX11_reads_230 (by decide) ?_
  refine e_goto (tgt := 237) dX11_reads_232 (by decide) ?_
  refine cV1v dX11_reads_237 mo_X11_puts ml_X11_220 sh_m rfl (Nat.le_of_ble_eq_true rfl) (by omega) (r_puts (n := 1000 + L.length) hcd (by omega)) ?_
  have hP := hS.put (c := 21) hk
  refine e_iconst (v := 1) dX11_reads_240 (by decide) ?_
  refine e_istore_n (ls' := [_, _, _, _, _, _]) dX11_reads_241 (by decide) rfl ?_
  refine e_goto (tgt := 424) dX11_reads_242 (by decide) ?_
  refine e_aload_n dX11_reads_424 rfl ?_
  refine cV0x dX11_reads_425 mo_X11_nextToken ml_X11_224 sh_m rfl (Nat.le_of_ble_eq_true rfl) (by omega) (c_nt hP.1.2.1 OF.rfl' rfl) ?_
  rintro r M2 ⟨rfl, hN, hG2⟩
  dsimp only [Option.toList, List.cons_append, List.nil_append]
  refine e_goto (tgt := 11) dX11_reads_428 (by decide) ?_
  refine k M2 (hP.next hN hG2) (by rw [hN.1 253 (by decide)]; funext z; rw [setI_n (by decide), setI_n (by decide)]) (fun z _ => by rw [hN.1 254 (by decide), setI_n (by decide), setI_n (by decide)]) (by rw [hN.1 254 (by decide), setI_n (by decide), setI_n (by decide)])
set_option maxHeartbeats 500000 in
set_option maxRecDepth 20000 in
theorem j_mul {G : Gt} {M0 M : Mm} {t : Tv} {x : Xv} {L : List Int32} {Q : Option Value → Mm → Prop} {d : Nat} {u3 u4 u5 : Value} (hS : ST M0 M t x L) (hd : d ≤ 5) (S42 : isS t x 42) (k : ∀ M', ST M0 M' t (advX t x) (L ++ [22]) → M'.1 253 = M.1 253 → (∀ k, ¬ k = d → M'.1 254 k = M.1 254 k) → M'.1 254 d = M.1 254 d → Ev G 3 mX11_reads 11 [.ref 238, .int (nI d), .int 1, u3, u4, u5] [] M' Q) : Ev G 3 mX11_reads 11 [.ref 238, .int (nI d), .int 0, u3, u4, u5] [] M (Q) := by
  have hG := hS.1.2.1
  obtain ⟨hx0, hx2, hI, hZ, g4, g5, g6, g7, g8⟩ := id hG
  have hcd := hS.1.2.2.1
  have S40 : ¬ isS t x 40 := fun q => absurd (S42.2.2.symm.trans q.2.2) (by decide)
  have S41 : ¬ isS t x 41 := fun q => absurd (S42.2.2.symm.trans q.2.2) (by decide)
  have S43 : ¬ isS t x 43 := fun q => absurd (S42.2.2.symm.trans q.2.2) (by decide)
  have S45 : ¬ isS t x 45 := fun q => absurd (S42.2.2.symm.trans q.2.2) (by decide)
  have S59 : ¬ isS t x 59 := fun q => absurd (S42.2.2.symm.trans q.2.2) (by decide)
  have S60 : ¬ isS t x 60 := fun q => absurd (S42.2.2.symm.trans q.2.2) (by decide)
  have S61 : ¬ isS t x 61 := fun q => absurd (S42.2.2.symm.trans q.2.2) (by decide)
  have W18 : ¬ isW t x 18 := fun q => absurd (S42.2.1.symm.trans q.2.1) (by decide)
  have W19 : ¬ isW t x 19 := fun q => absurd (S42.2.1.symm.trans q.2.1) (by decide)
  have W20 : ¬ isW t x 20 := fun q => absurd (S42.2.1.symm.trans q.2.1) (by decide)
  have hk : ¬ kdX t x = 0 := by rw [S42.2.1]; decide
  have hlt := hS.lt hk
  refine e_iload_n dX11_reads_11 rfl ?_
  refine e_if_eq (tgt := 179) dX11_reads_12 (by decide) (fun c12 => ?_) (fun c12 => absurd c12 (fun q => q rfl))
  refine e_aload_n dX11_reads_179 rfl ?_
  refine e_bipush (v := 43) dX11_reads_180 (by decide) ?_
  refine cV1r dX11_reads_182 mo_X11_isSign ml_X11_213 sh_m rfl (Nat.le_of_ble_eq_true rfl) (by omega) (r_isSign hG (s := 43)) ?_
  rw [b2i_f S43]
  refine e_if_ne (tgt := 206) dX11_reads_185 (by decide) (fun c185 => absurd c185 (by decide)) (fun c185 => ?_)
  refine e_aload_n dX11_reads_188 rfl ?_
  refine e_bipush (v := 45) dX11_reads_189 (by decide) ?_
  refine cV1r dX11_reads_191 mo_X11_isSign ml_X11_213 sh_m rfl (Nat.le_of_ble_eq_true rfl) (by omega) (r_isSign hG (s := 45)) ?_
  rw [b2i_f S45]
  refine e_if_ne (tgt := 206) dX11_reads_194 (by decide) (fun c194 => absurd c194 (by decide)) (fun c194 => ?_)
  refine e_aload_n dX11_reads_197 rfl ?_
  refine e_bipush (v := 42) dX11_reads_198 (by decide) ?_
  refine cV1r dX11_reads_200 mo_X11_isSign ml_X11_213 sh_m rfl (Nat.le_of_ble_eq_true rfl) (by omega) (r_isSign hG (s := 42)) ?_
  rw [b2i_t S42]
  refine e_if_eq (tgt := 245) dX11_reads_203 (by decide) (fun c203 => absurd c203 (by decide)) (fun c203 => ?_)
  refine e_aload_n dX11_reads_206 rfl ?_
  refine e_aload_n dX11_reads_207 rfl ?_
  refine e_bipush (v := 43) dX11_reads_208 (by decide) ?_
  refine cV1r dX11_reads_210 mo_X11_isSign ml_X11_213 sh_m rfl (Nat.le_of_ble_eq_true rfl) (by omega) (r_isSign hG (s := 43)) ?_
  rw [b2i_f S43]
  refine e_if_eq (tgt := 221) dX11_reads_213 (by decide) (fun c213 => ?_) (fun c213 => absurd c213 (by decide))
  refine e_aload_n dX11_reads_221 rfl ?_
  refine e_bipush (v := 45) dX11_reads_222 (by decide) ?_
  refine cV1r dX11_reads_224 mo_X11_isSign ml_X11_213 sh_m rfl (Nat.le_of_ble_eq_true rfl) (by omega) (r_isSign hG (s := 45)) ?_
  rw [b2i_f S45]
  refine e_if_eq (tgt := 235) dX11_reads_227 (by decide) (fun c227 => ?_) (fun c227 => absurd c227 (by decide))
  refine e_bipush (v := 22) dX11_reads_235 (by decide) ?_
  refine cV1v dX11_reads_237 mo_X11_puts ml_X11_220 sh_m rfl (Nat.le_of_ble_eq_true rfl) (by omega) (r_puts (n := 1000 + L.length) hcd (by omega)) ?_
  have hP := hS.put (c := 22) hk
  refine e_iconst (v := 1) dX11_reads_240 (by decide) ?_
  refine e_istore_n (ls' := [_, _, _, _, _, _]) dX11_reads_241 (by decide) rfl ?_
  refine e_goto (tgt := 424) dX11_reads_242 (by decide) ?_
  refine e_aload_n dX11_reads_424 rfl ?_
  refine cV0x dX11_reads_425 mo_X11_nextToken ml_X11_224 sh_m rfl (Nat.le_of_ble_eq_true rfl) (by omega) (c_nt hP.1.2.1 OF.rfl' rfl) ?_
  rintro r M2 ⟨rfl, hN, hG2⟩
  dsimp only [Option.toList, List.cons_append, List.nil_append]
  refine e_goto (tgt := 11) dX11_reads_428 (by decide) ?_
  refine k M2 (hP.next hN hG2) (by rw [hN.1 253 (by decide)]; funext z; rw [setI_n (by decide), setI_n (by decide)]) (fun z _ => by rw [hN.1 254 (by decide), setI_n (by decide), setI_n (by decide)]) (by rw [hN.1 254 (by decide), setI_n (by decide), setI_n (by decide)])
set_option maxHeartbeats 500000 in
set_option maxRecDepth 20000 in
theorem j_lt {G : Gt} {M0 M : Mm} {t : Tv} {x : Xv} {L : List Int32} {Q : Option Value → Mm → Prop} {d : Nat} {u3 u4 u5 : Value} (hS : ST M0 M t x L) (hd : d ≤ 5) (S60 : isS t x 60) (hc0 : M.1 254 d = 0) (k : ∀ M', ST M0 M' t (advX t x) (L ++ [24]) → M'.1 253 = M.1 253 → (∀ k, ¬ k = d → M'.1 254 k = M.1 254 k) → M'.1 254 d = 1 → Ev G 3 mX11_reads 11 [.ref 238, .int (nI d), .int 1, u3, u4, u5] [] M' Q) : Ev G 3 mX11_reads 11 [.ref 238, .int (nI d), .int 0, u3, u4, u5] [] M (Q) := by
  have hG := hS.1.2.1
  obtain ⟨hx0, hx2, hI, hZ, g4, g5, g6, g7, g8⟩ := id hG
  have hcd := hS.1.2.2.1
  have S40 : ¬ isS t x 40 := fun q => absurd (S60.2.2.symm.trans q.2.2) (by decide)
  have S41 : ¬ isS t x 41 := fun q => absurd (S60.2.2.symm.trans q.2.2) (by decide)
  have S42 : ¬ isS t x 42 := fun q => absurd (S60.2.2.symm.trans q.2.2) (by decide)
  have S43 : ¬ isS t x 43 := fun q => absurd (S60.2.2.symm.trans q.2.2) (by decide)
  have S45 : ¬ isS t x 45 := fun q => absurd (S60.2.2.symm.trans q.2.2) (by decide)
  have S59 : ¬ isS t x 59 := fun q => absurd (S60.2.2.symm.trans q.2.2) (by decide)
  have S61 : ¬ isS t x 61 := fun q => absurd (S60.2.2.symm.trans q.2.2) (by decide)
  have W18 : ¬ isW t x 18 := fun q => absurd (S60.2.1.symm.trans q.2.1) (by decide)
  have W19 : ¬ isW t x 19 := fun q => absurd (S60.2.1.symm.trans q.2.1) (by decide)
  have W20 : ¬ isW t x 20 := fun q => absurd (S60.2.1.symm.trans q.2.1) (by decide)
  have hk : ¬ kdX t x = 0 := by rw [S60.2.1]; decide
  have hlt := hS.lt hk
  refine e_iload_n dX11_reads_11 rfl ?_
  refine e_if_eq (tgt := 179) dX11_reads_12 (by decide) (fun c12 => ?_) (fun c12 => absurd c12 (fun q => q rfl))
  refine e_aload_n dX11_reads_179 rfl ?_
  refine e_bipush (v := 43) dX11_reads_180 (by decide) ?_
  refine cV1r dX11_reads_182 mo_X11_isSign ml_X11_213 sh_m rfl (Nat.le_of_ble_eq_true rfl) (by omega) (r_isSign hG (s := 43)) ?_
  rw [b2i_f S43]
  refine e_if_ne (tgt := 206) dX11_reads_185 (by decide) (fun c185 => absurd c185 (by decide)) (fun c185 => ?_)
  refine e_aload_n dX11_reads_188 rfl ?_
  refine e_bipush (v := 45) dX11_reads_189 (by decide) ?_
  refine cV1r dX11_reads_191 mo_X11_isSign ml_X11_213 sh_m rfl (Nat.le_of_ble_eq_true rfl) (by omega) (r_isSign hG (s := 45)) ?_
  rw [b2i_f S45]
  refine e_if_ne (tgt := 206) dX11_reads_194 (by decide) (fun c194 => absurd c194 (by decide)) (fun c194 => ?_)
  refine e_aload_n dX11_reads_197 rfl ?_
  refine e_bipush (v := 42) dX11_reads_198 (by decide) ?_
  refine cV1r dX11_reads_200 mo_X11_isSign ml_X11_213 sh_m rfl (Nat.le_of_ble_eq_true rfl) (by omega) (r_isSign hG (s := 42)) ?_
  rw [b2i_f S42]
  refine e_if_eq (tgt := 245) dX11_reads_203 (by decide) (fun c203 => ?_) (fun c203 => absurd c203 (by decide))
  refine e_aload_n dX11_reads_245 rfl ?_
  refine e_bipush (v := 60) dX11_reads_246 (by decide) ?_
  refine cV1r dX11_reads_248 mo_X11_isSign ml_X11_213 sh_m rfl (Nat.le_of_ble_eq_true rfl) (by omega) (r_isSign hG (s := 60)) ?_
  rw [b2i_t S60]
  refine e_if_ne (tgt := 263) dX11_reads_251 (by decide) (fun c251 => ?_) (fun c251 => absurd c251 (by decide))
  refine e_aload_n dX11_reads_263 rfl ?_
  refine e_getR dX11_reads_264 fl_X11_56 sh_m rfl ?_
  refine e_iload_n dX11_reads_267 rfl ?_
  refine e_zaldN (j := d) dX11_reads_268 (sa_m_compared) (by decide) (by omega) ?_
  rw [hc0]
  refine e_if_ne (tgt := 304) dX11_reads_269 (by decide) (fun c269 => absurd c269 (by decide)) (fun c269 => ?_)
  refine e_aload_n dX11_reads_272 rfl ?_
  refine e_aload_n dX11_reads_273 rfl ?_
  refine e_bipush (v := 60) dX11_reads_274 (by decide) ?_
  refine cV1r dX11_reads_276 mo_X11_isSign ml_X11_213 sh_m rfl (Nat.le_of_ble_eq_true rfl) (by omega) (r_isSign hG (s := 60)) ?_
  rw [b2i_t S60]
  refine e_if_eq (tgt := 287) dX11_reads_279 (by decide) (fun c279 => absurd c279 (by decide)) (fun c279 => ?_)
  refine e_bipush (v := 24) dX11_reads_282 (by decide) ?_
  refine e_goto (tgt := 289) dX11_reads_284 (by decide) ?_
  refine cV1v dX11_reads_289 mo_X11_puts ml_X11_220 sh_m rfl (Nat.le_of_ble_eq_true rfl) (by omega) (r_puts (n := 1000 + L.length) hcd (by omega)) ?_
  have hP := hS.put (c := 24) hk
  refine e_aload_n dX11_reads_292 rfl ?_
  refine e_getR dX11_reads_293 fl_X11_56 sh_m rfl ?_
  refine e_iload_n dX11_reads_296 rfl ?_
  refine e_iconst (v := 1) dX11_reads_297 (by decide) ?_
  refine e_zastN (j := d) dX11_reads_298 (sa_m_compared) (by decide) (by omega) ?_
  have hP := hP.s (c := 254) (k := d) (v := vp_nar .boolean 1) (by decide)
  refine e_iconst (v := 1) dX11_reads_299 (by decide) ?_
  refine e_istore_n (ls' := [_, _, _, _, _, _]) dX11_reads_300 (by decide) rfl ?_
  refine e_goto (tgt := 424) dX11_reads_301 (by decide) ?_
  refine e_aload_n dX11_reads_424 rfl ?_
  refine cV0x dX11_reads_425 mo_X11_nextToken ml_X11_224 sh_m rfl (Nat.le_of_ble_eq_true rfl) (by omega) (c_nt hP.1.2.1 OF.rfl' rfl) ?_
  rintro r M2 ⟨rfl, hN, hG2⟩
  dsimp only [Option.toList, List.cons_append, List.nil_append]
  refine e_goto (tgt := 11) dX11_reads_428 (by decide) ?_
  refine k M2 (hP.next hN hG2) (by rw [hN.1 253 (by decide)]; funext z; rw [setI_n (by decide), setI_n (by decide), setI_n (by decide)]) (fun z q => by rw [hN.1 254 (by decide), setI_1, if_neg (fun y => q y.2), setI_n (by decide), setI_n (by decide)]) (by rw [hN.1 254 (by decide), setI_p]; rfl)
set_option maxHeartbeats 500000 in
set_option maxRecDepth 20000 in
theorem j_eq {G : Gt} {M0 M : Mm} {t : Tv} {x : Xv} {L : List Int32} {Q : Option Value → Mm → Prop} {d : Nat} {u3 u4 u5 : Value} (hS : ST M0 M t x L) (hd : d ≤ 5) (S61 : isS t x 61) (hc0 : M.1 254 d = 0) (k : ∀ M', ST M0 M' t (advX t x) (L ++ [25]) → M'.1 253 = M.1 253 → (∀ k, ¬ k = d → M'.1 254 k = M.1 254 k) → M'.1 254 d = 1 → Ev G 3 mX11_reads 11 [.ref 238, .int (nI d), .int 1, u3, u4, u5] [] M' Q) : Ev G 3 mX11_reads 11 [.ref 238, .int (nI d), .int 0, u3, u4, u5] [] M (Q) := by
  have hG := hS.1.2.1
  obtain ⟨hx0, hx2, hI, hZ, g4, g5, g6, g7, g8⟩ := id hG
  have hcd := hS.1.2.2.1
  have S40 : ¬ isS t x 40 := fun q => absurd (S61.2.2.symm.trans q.2.2) (by decide)
  have S41 : ¬ isS t x 41 := fun q => absurd (S61.2.2.symm.trans q.2.2) (by decide)
  have S42 : ¬ isS t x 42 := fun q => absurd (S61.2.2.symm.trans q.2.2) (by decide)
  have S43 : ¬ isS t x 43 := fun q => absurd (S61.2.2.symm.trans q.2.2) (by decide)
  have S45 : ¬ isS t x 45 := fun q => absurd (S61.2.2.symm.trans q.2.2) (by decide)
  have S59 : ¬ isS t x 59 := fun q => absurd (S61.2.2.symm.trans q.2.2) (by decide)
  have S60 : ¬ isS t x 60 := fun q => absurd (S61.2.2.symm.trans q.2.2) (by decide)
  have W18 : ¬ isW t x 18 := fun q => absurd (S61.2.1.symm.trans q.2.1) (by decide)
  have W19 : ¬ isW t x 19 := fun q => absurd (S61.2.1.symm.trans q.2.1) (by decide)
  have W20 : ¬ isW t x 20 := fun q => absurd (S61.2.1.symm.trans q.2.1) (by decide)
  have hk : ¬ kdX t x = 0 := by rw [S61.2.1]; decide
  have hlt := hS.lt hk
  refine e_iload_n dX11_reads_11 rfl ?_
  refine e_if_eq (tgt := 179) dX11_reads_12 (by decide) (fun c12 => ?_) (fun c12 => absurd c12 (fun q => q rfl))
  refine e_aload_n dX11_reads_179 rfl ?_
  refine e_bipush (v := 43) dX11_reads_180 (by decide) ?_
  refine cV1r dX11_reads_182 mo_X11_isSign ml_X11_213 sh_m rfl (Nat.le_of_ble_eq_true rfl) (by omega) (r_isSign hG (s := 43)) ?_
  rw [b2i_f S43]
  refine e_if_ne (tgt := 206) dX11_reads_185 (by decide) (fun c185 => absurd c185 (by decide)) (fun c185 => ?_)
  refine e_aload_n dX11_reads_188 rfl ?_
  refine e_bipush (v := 45) dX11_reads_189 (by decide) ?_
  refine cV1r dX11_reads_191 mo_X11_isSign ml_X11_213 sh_m rfl (Nat.le_of_ble_eq_true rfl) (by omega) (r_isSign hG (s := 45)) ?_
  rw [b2i_f S45]
  refine e_if_ne (tgt := 206) dX11_reads_194 (by decide) (fun c194 => absurd c194 (by decide)) (fun c194 => ?_)
  refine e_aload_n dX11_reads_197 rfl ?_
  refine e_bipush (v := 42) dX11_reads_198 (by decide) ?_
  refine cV1r dX11_reads_200 mo_X11_isSign ml_X11_213 sh_m rfl (Nat.le_of_ble_eq_true rfl) (by omega) (r_isSign hG (s := 42)) ?_
  rw [b2i_f S42]
  refine e_if_eq (tgt := 245) dX11_reads_203 (by decide) (fun c203 => ?_) (fun c203 => absurd c203 (by decide))
  refine e_aload_n dX11_reads_245 rfl ?_
  refine e_bipush (v := 60) dX11_reads_246 (by decide) ?_
  refine cV1r dX11_reads_248 mo_X11_isSign ml_X11_213 sh_m rfl (Nat.le_of_ble_eq_true rfl) (by omega) (r_isSign hG (s := 60)) ?_
  rw [b2i_f S60]
  refine e_if_ne (tgt := 263) dX11_reads_251 (by decide) (fun c251 => absurd c251 (by decide)) (fun c251 => ?_)
  refine e_aload_n dX11_reads_254 rfl ?_
  refine e_bipush (v := 61) dX11_reads_255 (by decide) ?_
  refine cV1r dX11_reads_257 mo_X11_isSign ml_X11_213 sh_m rfl (Nat.le_of_ble_eq_true rfl) (by omega) (r_isSign hG (s := 61)) ?_
  rw [b2i_t S61]
  refine e_if_eq (tgt := 304) dX11_reads_260 (by decide) (fun c260 => absurd c260 (by decide)) (fun c260 => ?_)
  refine e_aload_n dX11_reads_263 rfl ?_
  refine e_getR dX11_reads_264 fl_X11_56 sh_m rfl ?_
  refine e_iload_n dX11_reads_267 rfl ?_
  refine e_zaldN (j := d) dX11_reads_268 (sa_m_compared) (by decide) (by omega) ?_
  rw [hc0]
  refine e_if_ne (tgt := 304) dX11_reads_269 (by decide) (fun c269 => absurd c269 (by decide)) (fun c269 => ?_)
  refine e_aload_n dX11_reads_272 rfl ?_
  refine e_aload_n dX11_reads_273 rfl ?_
  refine e_bipush (v := 60) dX11_reads_274 (by decide) ?_
  refine cV1r dX11_reads_276 mo_X11_isSign ml_X11_213 sh_m rfl (Nat.le_of_ble_eq_true rfl) (by omega) (r_isSign hG (s := 60)) ?_
  rw [b2i_f S60]
  refine e_if_eq (tgt := 287) dX11_reads_279 (by decide) (fun c279 => ?_) (fun c279 => absurd c279 (by decide))
  refine e_bipush (v := 25) dX11_reads_287 (by decide) ?_
  refine cV1v dX11_reads_289 mo_X11_puts ml_X11_220 sh_m rfl (Nat.le_of_ble_eq_true rfl) (by omega) (r_puts (n := 1000 + L.length) hcd (by omega)) ?_
  have hP := hS.put (c := 25) hk
  refine e_aload_n dX11_reads_292 rfl ?_
  refine e_getR dX11_reads_293 fl_X11_56 sh_m rfl ?_
  refine e_iload_n dX11_reads_296 rfl ?_
  refine e_iconst (v := 1) dX11_reads_297 (by decide) ?_
  refine e_zastN (j := d) dX11_reads_298 (sa_m_compared) (by decide) (by omega) ?_
  have hP := hP.s (c := 254) (k := d) (v := vp_nar .boolean 1) (by decide)
  refine e_iconst (v := 1) dX11_reads_299 (by decide) ?_
  refine e_istore_n (ls' := [_, _, _, _, _, _]) dX11_reads_300 (by decide) rfl ?_
  refine e_goto (tgt := 424) dX11_reads_301 (by decide) ?_
  refine e_aload_n dX11_reads_424 rfl ?_
  refine cV0x dX11_reads_425 mo_X11_nextToken ml_X11_224 sh_m rfl (Nat.le_of_ble_eq_true rfl) (by omega) (c_nt hP.1.2.1 OF.rfl' rfl) ?_
  rintro r M2 ⟨rfl, hN, hG2⟩
  dsimp only [Option.toList, List.cons_append, List.nil_append]
  refine e_goto (tgt := 11) dX11_reads_428 (by decide) ?_
  refine k M2 (hP.next hN hG2) (by rw [hN.1 253 (by decide)]; funext z; rw [setI_n (by decide), setI_n (by decide), setI_n (by decide)]) (fun z q => by rw [hN.1 254 (by decide), setI_1, if_neg (fun y => q y.2), setI_n (by decide), setI_n (by decide)]) (by rw [hN.1 254 (by decide), setI_p]; rfl)
set_option maxHeartbeats 500000 in
set_option maxRecDepth 20000 in
theorem j_and {G : Gt} {M0 M : Mm} {t : Tv} {x : Xv} {L : List Int32} {Q : Option Value → Mm → Prop} {d : Nat} {u3 u4 u5 : Value} (hS : ST M0 M t x L) (hd : d ≤ 5) (W19 : isW t x 19) (k : ∀ M', ST M0 M' t (advX t x) (L ++ [26]) → M'.1 253 = M.1 253 → (∀ k, ¬ k = d → M'.1 254 k = M.1 254 k) → M'.1 254 d = 0 → Ev G 3 mX11_reads 11 [.ref 238, .int (nI d), .int 1, u3, u4, u5] [] M' Q) : Ev G 3 mX11_reads 11 [.ref 238, .int (nI d), .int 0, u3, u4, u5] [] M (Q) := by
  have hG := hS.1.2.1
  obtain ⟨hx0, hx2, hI, hZ, g4, g5, g6, g7, g8⟩ := id hG
  have hcd := hS.1.2.2.1
  have S40 : ¬ isS t x 40 := fun q => absurd (W19.2.1.symm.trans q.2.1) (by decide)
  have S41 : ¬ isS t x 41 := fun q => absurd (W19.2.1.symm.trans q.2.1) (by decide)
  have S42 : ¬ isS t x 42 := fun q => absurd (W19.2.1.symm.trans q.2.1) (by decide)
  have S43 : ¬ isS t x 43 := fun q => absurd (W19.2.1.symm.trans q.2.1) (by decide)
  have S45 : ¬ isS t x 45 := fun q => absurd (W19.2.1.symm.trans q.2.1) (by decide)
  have S59 : ¬ isS t x 59 := fun q => absurd (W19.2.1.symm.trans q.2.1) (by decide)
  have S60 : ¬ isS t x 60 := fun q => absurd (W19.2.1.symm.trans q.2.1) (by decide)
  have S61 : ¬ isS t x 61 := fun q => absurd (W19.2.1.symm.trans q.2.1) (by decide)
  have W18 : ¬ isW t x 18 := fun q => absurd (W19.2.2.symm.trans q.2.2) (by decide)
  have W20 : ¬ isW t x 20 := fun q => absurd (W19.2.2.symm.trans q.2.2) (by decide)
  have hk : ¬ kdX t x = 0 := by rw [W19.2.1]; decide
  have hlt := hS.lt hk
  refine e_iload_n dX11_reads_11 rfl ?_
  refine e_if_eq (tgt := 179) dX11_reads_12 (by decide) (fun c12 => ?_) (fun c12 => absurd c12 (fun q => q rfl))
  refine e_aload_n dX11_reads_179 rfl ?_
  refine e_bipush (v := 43) dX11_reads_180 (by decide) ?_
  refine cV1r dX11_reads_182 mo_X11_isSign ml_X11_213 sh_m rfl (Nat.le_of_ble_eq_true rfl) (by omega) (r_isSign hG (s := 43)) ?_
  rw [b2i_f S43]
  refine e_if_ne (tgt := 206) dX11_reads_185 (by decide) (fun c185 => absurd c185 (by decide)) (fun c185 => ?_)
  refine e_aload_n dX11_reads_188 rfl ?_
  refine e_bipush (v := 45) dX11_reads_189 (by decide) ?_
  refine cV1r dX11_reads_191 mo_X11_isSign ml_X11_213 sh_m rfl (Nat.le_of_ble_eq_true rfl) (by omega) (r_isSign hG (s := 45)) ?_
  rw [b2i_f S45]
  refine e_if_ne (tgt := 206) dX11_reads_194 (by decide) (fun c194 => absurd c194 (by decide)) (fun c194 => ?_)
  refine e_aload_n dX11_reads_197 rfl ?_
  refine e_bipush (v := 42) dX11_reads_198 (by decide) ?_
  refine cV1r dX11_reads_200 mo_X11_isSign ml_X11_213 sh_m rfl (Nat.le_of_ble_eq_true rfl) (by omega) (r_isSign hG (s := 42)) ?_
  rw [b2i_f S42]
  refine e_if_eq (tgt := 245) dX11_reads_203 (by decide) (fun c203 => ?_) (fun c203 => absurd c203 (by decide))
  refine e_aload_n dX11_reads_245 rfl ?_
  refine e_bipush (v := 60) dX11_reads_246 (by decide) ?_
  refine cV1r dX11_reads_248 mo_X11_isSign ml_X11_213 sh_m rfl (Nat.le_of_ble_eq_true rfl) (by omega) (r_isSign hG (s := 60)) ?_
  rw [b2i_f S60]
  refine e_if_ne (tgt := 263) dX11_reads_251 (by decide) (fun c251 => absurd c251 (by decide)) (fun c251 => ?_)
  refine e_aload_n dX11_reads_254 rfl ?_
  refine e_bipush (v := 61) dX11_reads_255 (by decide) ?_
  refine cV1r dX11_reads_257 mo_X11_isSign ml_X11_213 sh_m rfl (Nat.le_of_ble_eq_true rfl) (by omega) (r_isSign hG (s := 61)) ?_
  rw [b2i_f S61]
  refine e_if_eq (tgt := 304) dX11_reads_260 (by decide) (fun c260 => ?_) (fun c260 => absurd c260 (by decide))
  refine e_aload_n dX11_reads_304 rfl ?_
  refine e_ldc2 dX11_reads_305 kl_X11_227 ?_
  refine cV1r dX11_reads_308 mo_X11_isWord ml_X11_209 sh_m rfl (Nat.le_of_ble_eq_true rfl) (by omega) (r_isWord (k := 19) hG (by decide)) ?_
  rw [b2i_t W19]
  refine e_if_ne (tgt := 324) dX11_reads_311 (by decide) (fun c311 => ?_) (fun c311 => absurd c311 (by decide))
  refine e_aload_n dX11_reads_324 rfl ?_
  refine e_aload_n dX11_reads_325 rfl ?_
  refine e_ldc2 dX11_reads_326 kl_X11_227 ?_
  refine cV1r dX11_reads_329 mo_X11_isWord ml_X11_209 sh_m rfl (Nat.le_of_ble_eq_true rfl) (by omega) (r_isWord (k := 19) hG (by decide)) ?_
  rw [b2i_t W19]
  refine e_if_eq (tgt := 340) dX11_reads_332 (by decide) (fun c332 => absurd c332 (by decide)) (fun c332 => ?_)
  refine e_bipush (v := 26) dX11_reads_335 (by decide) ?_
  refine e_goto (tgt := 342) dX11_reads_337 (by decide) ?_
  refine cV1v dX11_reads_342 mo_X11_puts ml_X11_220 sh_m rfl (Nat.le_of_ble_eq_true rfl) (by omega) (r_puts (n := 1000 + L.length) hcd (by omega)) ?_
  have hP := hS.put (c := 26) hk
  refine e_aload_n dX11_reads_345 rfl ?_
  refine e_getR dX11_reads_346 fl_X11_56 sh_m rfl ?_
  refine e_iload_n dX11_reads_349 rfl ?_
  refine e_iconst (v := 0) dX11_reads_350 (by decide) ?_
  refine e_zastN (j := d) dX11_reads_351 (sa_m_compared) (by decide) (by omega) ?_
  have hP := hP.s (c := 254) (k := d) (v := vp_nar .boolean 0) (by decide)
  refine e_iconst (v := 1) dX11_reads_352 (by decide) ?_
  refine e_istore_n (ls' := [_, _, _, _, _, _]) dX11_reads_353 (by decide) rfl ?_
  refine e_goto (tgt := 424) dX11_reads_354 (by decide) ?_
  refine e_aload_n dX11_reads_424 rfl ?_
  refine cV0x dX11_reads_425 mo_X11_nextToken ml_X11_224 sh_m rfl (Nat.le_of_ble_eq_true rfl) (by omega) (c_nt hP.1.2.1 OF.rfl' rfl) ?_
  rintro r M2 ⟨rfl, hN, hG2⟩
  dsimp only [Option.toList, List.cons_append, List.nil_append]
  refine e_goto (tgt := 11) dX11_reads_428 (by decide) ?_
  refine k M2 (hP.next hN hG2) (by rw [hN.1 253 (by decide)]; funext z; rw [setI_n (by decide), setI_n (by decide), setI_n (by decide)]) (fun z q => by rw [hN.1 254 (by decide), setI_1, if_neg (fun y => q y.2), setI_n (by decide), setI_n (by decide)]) (by rw [hN.1 254 (by decide), setI_p]; rfl)
set_option maxHeartbeats 500000 in
set_option maxRecDepth 20000 in
theorem j_or {G : Gt} {M0 M : Mm} {t : Tv} {x : Xv} {L : List Int32} {Q : Option Value → Mm → Prop} {d : Nat} {u3 u4 u5 : Value} (hS : ST M0 M t x L) (hd : d ≤ 5) (W20 : isW t x 20) (k : ∀ M', ST M0 M' t (advX t x) (L ++ [27]) → M'.1 253 = M.1 253 → (∀ k, ¬ k = d → M'.1 254 k = M.1 254 k) → M'.1 254 d = 0 → Ev G 3 mX11_reads 11 [.ref 238, .int (nI d), .int 1, u3, u4, u5] [] M' Q) : Ev G 3 mX11_reads 11 [.ref 238, .int (nI d), .int 0, u3, u4, u5] [] M (Q) := by
  have hG := hS.1.2.1
  obtain ⟨hx0, hx2, hI, hZ, g4, g5, g6, g7, g8⟩ := id hG
  have hcd := hS.1.2.2.1
  have S40 : ¬ isS t x 40 := fun q => absurd (W20.2.1.symm.trans q.2.1) (by decide)
  have S41 : ¬ isS t x 41 := fun q => absurd (W20.2.1.symm.trans q.2.1) (by decide)
  have S42 : ¬ isS t x 42 := fun q => absurd (W20.2.1.symm.trans q.2.1) (by decide)
  have S43 : ¬ isS t x 43 := fun q => absurd (W20.2.1.symm.trans q.2.1) (by decide)
  have S45 : ¬ isS t x 45 := fun q => absurd (W20.2.1.symm.trans q.2.1) (by decide)
  have S59 : ¬ isS t x 59 := fun q => absurd (W20.2.1.symm.trans q.2.1) (by decide)
  have S60 : ¬ isS t x 60 := fun q => absurd (W20.2.1.symm.trans q.2.1) (by decide)
  have S61 : ¬ isS t x 61 := fun q => absurd (W20.2.1.symm.trans q.2.1) (by decide)
  have W18 : ¬ isW t x 18 := fun q => absurd (W20.2.2.symm.trans q.2.2) (by decide)
  have W19 : ¬ isW t x 19 := fun q => absurd (W20.2.2.symm.trans q.2.2) (by decide)
  have hk : ¬ kdX t x = 0 := by rw [W20.2.1]; decide
  have hlt := hS.lt hk
  refine e_iload_n dX11_reads_11 rfl ?_
  refine e_if_eq (tgt := 179) dX11_reads_12 (by decide) (fun c12 => ?_) (fun c12 => absurd c12 (fun q => q rfl))
  refine e_aload_n dX11_reads_179 rfl ?_
  refine e_bipush (v := 43) dX11_reads_180 (by decide) ?_
  refine cV1r dX11_reads_182 mo_X11_isSign ml_X11_213 sh_m rfl (Nat.le_of_ble_eq_true rfl) (by omega) (r_isSign hG (s := 43)) ?_
  rw [b2i_f S43]
  refine e_if_ne (tgt := 206) dX11_reads_185 (by decide) (fun c185 => absurd c185 (by decide)) (fun c185 => ?_)
  refine e_aload_n dX11_reads_188 rfl ?_
  refine e_bipush (v := 45) dX11_reads_189 (by decide) ?_
  refine cV1r dX11_reads_191 mo_X11_isSign ml_X11_213 sh_m rfl (Nat.le_of_ble_eq_true rfl) (by omega) (r_isSign hG (s := 45)) ?_
  rw [b2i_f S45]
  refine e_if_ne (tgt := 206) dX11_reads_194 (by decide) (fun c194 => absurd c194 (by decide)) (fun c194 => ?_)
  refine e_aload_n dX11_reads_197 rfl ?_
  refine e_bipush (v := 42) dX11_reads_198 (by decide) ?_
  refine cV1r dX11_reads_200 mo_X11_isSign ml_X11_213 sh_m rfl (Nat.le_of_ble_eq_true rfl) (by omega) (r_isSign hG (s := 42)) ?_
  rw [b2i_f S42]
  refine e_if_eq (tgt := 245) dX11_reads_203 (by decide) (fun c203 => ?_) (fun c203 => absurd c203 (by decide))
  refine e_aload_n dX11_reads_245 rfl ?_
  refine e_bipush (v := 60) dX11_reads_246 (by decide) ?_
  refine cV1r dX11_reads_248 mo_X11_isSign ml_X11_213 sh_m rfl (Nat.le_of_ble_eq_true rfl) (by omega) (r_isSign hG (s := 60)) ?_
  rw [b2i_f S60]
  refine e_if_ne (tgt := 263) dX11_reads_251 (by decide) (fun c251 => absurd c251 (by decide)) (fun c251 => ?_)
  refine e_aload_n dX11_reads_254 rfl ?_
  refine e_bipush (v := 61) dX11_reads_255 (by decide) ?_
  refine cV1r dX11_reads_257 mo_X11_isSign ml_X11_213 sh_m rfl (Nat.le_of_ble_eq_true rfl) (by omega) (r_isSign hG (s := 61)) ?_
  rw [b2i_f S61]
  refine e_if_eq (tgt := 304) dX11_reads_260 (by decide) (fun c260 => ?_) (fun c260 => absurd c260 (by decide))
  refine e_aload_n dX11_reads_304 rfl ?_
  refine e_ldc2 dX11_reads_305 kl_X11_227 ?_
  refine cV1r dX11_reads_308 mo_X11_isWord ml_X11_209 sh_m rfl (Nat.le_of_ble_eq_true rfl) (by omega) (r_isWord (k := 19) hG (by decide)) ?_
  rw [b2i_f W19]
  refine e_if_ne (tgt := 324) dX11_reads_311 (by decide) (fun c311 => absurd c311 (by decide)) (fun c311 => ?_)
  refine e_aload_n dX11_reads_314 rfl ?_
  refine e_ldc2 dX11_reads_315 kl_X11_229 ?_
  refine cV1r dX11_reads_318 mo_X11_isWord ml_X11_209 sh_m rfl (Nat.le_of_ble_eq_true rfl) (by omega) (r_isWord (k := 20) hG (by decide)) ?_
  rw [b2i_t W20]
  refine e_if_eq (tgt := 357) dX11_reads_321 (by decide) (fun c321 => absurd c321 (by decide)) (fun c321 => ?_)
  refine e_aload_n dX11_reads_324 rfl ?_
  refine e_aload_n dX11_reads_325 rfl ?_
  refine e_ldc2 dX11_reads_326 kl_X11_227 ?_
  refine cV1r dX11_reads_329 mo_X11_isWord ml_X11_209 sh_m rfl (Nat.le_of_ble_eq_true rfl) (by omega) (r_isWord (k := 19) hG (by decide)) ?_
  rw [b2i_f W19]
  refine e_if_eq (tgt := 340) dX11_reads_332 (by decide) (fun c332 => ?_) (fun c332 => absurd c332 (by decide))
  refine e_bipush (v := 27) dX11_reads_340 (by decide) ?_
  refine cV1v dX11_reads_342 mo_X11_puts ml_X11_220 sh_m rfl (Nat.le_of_ble_eq_true rfl) (by omega) (r_puts (n := 1000 + L.length) hcd (by omega)) ?_
  have hP := hS.put (c := 27) hk
  refine e_aload_n dX11_reads_345 rfl ?_
  refine e_getR dX11_reads_346 fl_X11_56 sh_m rfl ?_
  refine e_iload_n dX11_reads_349 rfl ?_
  refine e_iconst (v := 0) dX11_reads_350 (by decide) ?_
  refine e_zastN (j := d) dX11_reads_351 (sa_m_compared) (by decide) (by omega) ?_
  have hP := hP.s (c := 254) (k := d) (v := vp_nar .boolean 0) (by decide)
  refine e_iconst (v := 1) dX11_reads_352 (by decide) ?_
  refine e_istore_n (ls' := [_, _, _, _, _, _]) dX11_reads_353 (by decide) rfl ?_
  refine e_goto (tgt := 424) dX11_reads_354 (by decide) ?_
  refine e_aload_n dX11_reads_424 rfl ?_
  refine cV0x dX11_reads_425 mo_X11_nextToken ml_X11_224 sh_m rfl (Nat.le_of_ble_eq_true rfl) (by omega) (c_nt hP.1.2.1 OF.rfl' rfl) ?_
  rintro r M2 ⟨rfl, hN, hG2⟩
  dsimp only [Option.toList, List.cons_append, List.nil_append]
  refine e_goto (tgt := 11) dX11_reads_428 (by decide) ?_
  refine k M2 (hP.next hN hG2) (by rw [hN.1 253 (by decide)]; funext z; rw [setI_n (by decide), setI_n (by decide), setI_n (by decide)]) (fun z q => by rw [hN.1 254 (by decide), setI_1, if_neg (fun y => q y.2), setI_n (by decide), setI_n (by decide)]) (by rw [hN.1 254 (by decide), setI_p]; rfl)
set_option maxHeartbeats 500000 in
set_option maxRecDepth 20000 in
theorem j_close {G : Gt} {M0 M : Mm} {t : Tv} {x : Xv} {L : List Int32} {Q : Option Value → Mm → Prop} {d : Nat} {u3 u4 u5 : Value} (hS : ST M0 M t x L) (hd : d ≤ 5) (hd4 : d + 1 ≤ 5) (S41 : isS t x 41) (k : ∀ M', SP M0 M' t x (L ++ [29]) → M'.1 253 = M.1 253 → M'.1 254 = M.1 254 → Ev G 3 mX11_reads 379 [.ref 238, .int (nI d), .int 0, u3, u4, u5] [] M' Q) : Ev G 3 mX11_reads 11 [.ref 238, .int (nI (d + 1)), .int 0, u3, u4, u5] [] M (Q) := by
  have hG := hS.1.2.1
  obtain ⟨hx0, hx2, hI, hZ, g4, g5, g6, g7, g8⟩ := id hG
  have hcd := hS.1.2.2.1
  have S40 : ¬ isS t x 40 := fun q => absurd (S41.2.2.symm.trans q.2.2) (by decide)
  have S42 : ¬ isS t x 42 := fun q => absurd (S41.2.2.symm.trans q.2.2) (by decide)
  have S43 : ¬ isS t x 43 := fun q => absurd (S41.2.2.symm.trans q.2.2) (by decide)
  have S45 : ¬ isS t x 45 := fun q => absurd (S41.2.2.symm.trans q.2.2) (by decide)
  have S59 : ¬ isS t x 59 := fun q => absurd (S41.2.2.symm.trans q.2.2) (by decide)
  have S60 : ¬ isS t x 60 := fun q => absurd (S41.2.2.symm.trans q.2.2) (by decide)
  have S61 : ¬ isS t x 61 := fun q => absurd (S41.2.2.symm.trans q.2.2) (by decide)
  have W18 : ¬ isW t x 18 := fun q => absurd (S41.2.1.symm.trans q.2.1) (by decide)
  have W19 : ¬ isW t x 19 := fun q => absurd (S41.2.1.symm.trans q.2.1) (by decide)
  have W20 : ¬ isW t x 20 := fun q => absurd (S41.2.1.symm.trans q.2.1) (by decide)
  have hk : ¬ kdX t x = 0 := by rw [S41.2.1]; decide
  have hlt := hS.lt hk
  refine e_iload_n dX11_reads_11 rfl ?_
  refine e_if_eq (tgt := 179) dX11_reads_12 (by decide) (fun c12 => ?_) (fun c12 => absurd c12 (fun q => q rfl))
  refine e_aload_n dX11_reads_179 rfl ?_
  refine e_bipush (v := 43) dX11_reads_180 (by decide) ?_
  refine cV1r dX11_reads_182 mo_X11_isSign ml_X11_213 sh_m rfl (Nat.le_of_ble_eq_true rfl) (by omega) (r_isSign hG (s := 43)) ?_
  rw [b2i_f S43]
  refine e_if_ne (tgt := 206) dX11_reads_185 (by decide) (fun c185 => absurd c185 (by decide)) (fun c185 => ?_)
  refine e_aload_n dX11_reads_188 rfl ?_
  refine e_bipush (v := 45) dX11_reads_189 (by decide) ?_
  refine cV1r dX11_reads_191 mo_X11_isSign ml_X11_213 sh_m rfl (Nat.le_of_ble_eq_true rfl) (by omega) (r_isSign hG (s := 45)) ?_
  rw [b2i_f S45]
  refine e_if_ne (tgt := 206) dX11_reads_194 (by decide) (fun c194 => absurd c194 (by decide)) (fun c194 => ?_)
  refine e_aload_n dX11_reads_197 rfl ?_
  refine e_bipush (v := 42) dX11_reads_198 (by decide) ?_
  refine cV1r dX11_reads_200 mo_X11_isSign ml_X11_213 sh_m rfl (Nat.le_of_ble_eq_true rfl) (by omega) (r_isSign hG (s := 42)) ?_
  rw [b2i_f S42]
  refine e_if_eq (tgt := 245) dX11_reads_203 (by decide) (fun c203 => ?_) (fun c203 => absurd c203 (by decide))
  refine e_aload_n dX11_reads_245 rfl ?_
  refine e_bipush (v := 60) dX11_reads_246 (by decide) ?_
  refine cV1r dX11_reads_248 mo_X11_isSign ml_X11_213 sh_m rfl (Nat.le_of_ble_eq_true rfl) (by omega) (r_isSign hG (s := 60)) ?_
  rw [b2i_f S60]
  refine e_if_ne (tgt := 263) dX11_reads_251 (by decide) (fun c251 => absurd c251 (by decide)) (fun c251 => ?_)
  refine e_aload_n dX11_reads_254 rfl ?_
  refine e_bipush (v := 61) dX11_reads_255 (by decide) ?_
  refine cV1r dX11_reads_257 mo_X11_isSign ml_X11_213 sh_m rfl (Nat.le_of_ble_eq_true rfl) (by omega) (r_isSign hG (s := 61)) ?_
  rw [b2i_f S61]
  refine e_if_eq (tgt := 304) dX11_reads_260 (by decide) (fun c260 => ?_) (fun c260 => absurd c260 (by decide))
  refine e_aload_n dX11_reads_304 rfl ?_
  refine e_ldc2 dX11_reads_305 kl_X11_227 ?_
  refine cV1r dX11_reads_308 mo_X11_isWord ml_X11_209 sh_m rfl (Nat.le_of_ble_eq_true rfl) (by omega) (r_isWord (k := 19) hG (by decide)) ?_
  rw [b2i_f W19]
  refine e_if_ne (tgt := 324) dX11_reads_311 (by decide) (fun c311 => absurd c311 (by decide)) (fun c311 => ?_)
  refine e_aload_n dX11_reads_314 rfl ?_
  refine e_ldc2 dX11_reads_315 kl_X11_229 ?_
  refine cV1r dX11_reads_318 mo_X11_isWord ml_X11_209 sh_m rfl (Nat.le_of_ble_eq_true rfl) (by omega) (r_isWord (k := 20) hG (by decide)) ?_
  rw [b2i_f W20]
  refine e_if_eq (tgt := 357) dX11_reads_321 (by decide) (fun c321 => ?_) (fun c321 => absurd c321 (by decide))
  refine e_aload_n dX11_reads_357 rfl ?_
  refine e_bipush (v := 41) dX11_reads_358 (by decide) ?_
  refine cV1r dX11_reads_360 mo_X11_isSign ml_X11_213 sh_m rfl (Nat.le_of_ble_eq_true rfl) (by omega) (r_isSign hG (s := 41)) ?_
  rw [b2i_t S41]
  refine e_if_eq (tgt := 399) dX11_reads_363 (by decide) (fun c363 => absurd c363 (by decide)) (fun c363 => ?_)
  refine e_iload_n dX11_reads_366 rfl ?_
  refine e_if_le (tgt := 399) dX11_reads_367 (by decide) (fun c367 => absurd c367 (fun q => q ((nI_ltI (a := 0) (b := d + 1) (by omega) (by omega)).mpr (by omega)))) (fun c367 => ?_)
  refine e_aload_n dX11_reads_370 rfl ?_
  refine e_bipush (v := 29) dX11_reads_371 (by decide) ?_
  refine cV1v dX11_reads_373 mo_X11_puts ml_X11_220 sh_m rfl (Nat.le_of_ble_eq_true rfl) (by omega) (r_puts (n := 1000 + L.length) hcd (by omega)) ?_
  have hP := hS.put (c := 29) hk
  refine e_iinc (ls' := [_, _, _, _, _, _]) dX11_reads_376 rfl (nI_dn d) (by decide) rfl ?_
  exact k _ hP (by funext z; rw [setI_n (by decide), setI_n (by decide)]) (by funext z; rw [setI_n (by decide), setI_n (by decide)])
set_option maxHeartbeats 500000 in
set_option maxRecDepth 20000 in
theorem f_11 {G : Gt} {M0 M : Mm} {t : Tv} {x : Xv} {L : List Int32} {Q : Option Value → Mm → Prop} {d : Nat} {u3 u4 u5 : Value} (hS : ST M0 M t x L) (hd : d ≤ 5) (S43 : ¬ isS t x 43) (S45 : ¬ isS t x 45) (S42 : ¬ isS t x 42) (k : Ev G 3 mX11_reads 245 [.ref 238, .int (nI d), .int 0, u3, u4, u5] [] M Q) : Ev G 3 mX11_reads 11 [.ref 238, .int (nI d), .int 0, u3, u4, u5] [] M (Q) := by
  have hG := hS.1.2.1
  obtain ⟨hx0, hx2, hI, hZ, g4, g5, g6, g7, g8⟩ := id hG
  have hcd := hS.1.2.2.1
  refine e_iload_n dX11_reads_11 rfl ?_
  refine e_if_eq (tgt := 179) dX11_reads_12 (by decide) (fun c12 => ?_) (fun c12 => absurd c12 (fun q => q rfl))
  refine e_aload_n dX11_reads_179 rfl ?_
  refine e_bipush (v := 43) dX11_reads_180 (by decide) ?_
  refine cV1r dX11_reads_182 mo_X11_isSign ml_X11_213 sh_m rfl (Nat.le_of_ble_eq_true rfl) (by omega) (r_isSign hG (s := 43)) ?_
  rw [b2i_f S43]
  refine e_if_ne (tgt := 206) dX11_reads_185 (by decide) (fun c185 => absurd c185 (by decide)) (fun c185 => ?_)
  refine e_aload_n dX11_reads_188 rfl ?_
  refine e_bipush (v := 45) dX11_reads_189 (by decide) ?_
  refine cV1r dX11_reads_191 mo_X11_isSign ml_X11_213 sh_m rfl (Nat.le_of_ble_eq_true rfl) (by omega) (r_isSign hG (s := 45)) ?_
  rw [b2i_f S45]
  refine e_if_ne (tgt := 206) dX11_reads_194 (by decide) (fun c194 => absurd c194 (by decide)) (fun c194 => ?_)
  refine e_aload_n dX11_reads_197 rfl ?_
  refine e_bipush (v := 42) dX11_reads_198 (by decide) ?_
  refine cV1r dX11_reads_200 mo_X11_isSign ml_X11_213 sh_m rfl (Nat.le_of_ble_eq_true rfl) (by omega) (r_isSign hG (s := 42)) ?_
  rw [b2i_f S42]
  refine e_if_eq (tgt := 245) dX11_reads_203 (by decide) (fun c203 => ?_) (fun c203 => absurd c203 (by decide))
  exact k
set_option maxHeartbeats 500000 in
set_option maxRecDepth 20000 in
theorem f_245a {G : Gt} {M0 M : Mm} {t : Tv} {x : Xv} {L : List Int32} {Q : Option Value → Mm → Prop} {d : Nat} {u3 u4 u5 : Value} (hS : ST M0 M t x L) (hd : d ≤ 5) (S60 : ¬ isS t x 60) (S61 : ¬ isS t x 61) (k : Ev G 3 mX11_reads 304 [.ref 238, .int (nI d), .int 0, u3, u4, u5] [] M Q) : Ev G 3 mX11_reads 245 [.ref 238, .int (nI d), .int 0, u3, u4, u5] [] M (Q) := by
  have hG := hS.1.2.1
  obtain ⟨hx0, hx2, hI, hZ, g4, g5, g6, g7, g8⟩ := id hG
  have hcd := hS.1.2.2.1
  refine e_aload_n dX11_reads_245 rfl ?_
  refine e_bipush (v := 60) dX11_reads_246 (by decide) ?_
  refine cV1r dX11_reads_248 mo_X11_isSign ml_X11_213 sh_m rfl (Nat.le_of_ble_eq_true rfl) (by omega) (r_isSign hG (s := 60)) ?_
  rw [b2i_f S60]
  refine e_if_ne (tgt := 263) dX11_reads_251 (by decide) (fun c251 => absurd c251 (by decide)) (fun c251 => ?_)
  refine e_aload_n dX11_reads_254 rfl ?_
  refine e_bipush (v := 61) dX11_reads_255 (by decide) ?_
  refine cV1r dX11_reads_257 mo_X11_isSign ml_X11_213 sh_m rfl (Nat.le_of_ble_eq_true rfl) (by omega) (r_isSign hG (s := 61)) ?_
  rw [b2i_f S61]
  refine e_if_eq (tgt := 304) dX11_reads_260 (by decide) (fun c260 => ?_) (fun c260 => absurd c260 (by decide))
  exact k
set_option maxHeartbeats 500000 in
set_option maxRecDepth 20000 in
theorem f_245b {G : Gt} {M0 M : Mm} {t : Tv} {x : Xv} {L : List Int32} {Q : Option Value → Mm → Prop} {d : Nat} {u3 u4 u5 : Value} (hS : ST M0 M t x L) (hd : d ≤ 5) (S60 : isS t x 60) (hc1 : M.1 254 d = 1) (k : Ev G 3 mX11_reads 304 [.ref 238, .int (nI d), .int 0, u3, u4, u5] [] M Q) : Ev G 3 mX11_reads 245 [.ref 238, .int (nI d), .int 0, u3, u4, u5] [] M (Q) := by
  have hG := hS.1.2.1
  obtain ⟨hx0, hx2, hI, hZ, g4, g5, g6, g7, g8⟩ := id hG
  have hcd := hS.1.2.2.1
  refine e_aload_n dX11_reads_245 rfl ?_
  refine e_bipush (v := 60) dX11_reads_246 (by decide) ?_
  refine cV1r dX11_reads_248 mo_X11_isSign ml_X11_213 sh_m rfl (Nat.le_of_ble_eq_true rfl) (by omega) (r_isSign hG (s := 60)) ?_
  rw [b2i_t S60]
  refine e_if_ne (tgt := 263) dX11_reads_251 (by decide) (fun c251 => ?_) (fun c251 => absurd c251 (by decide))
  refine e_aload_n dX11_reads_263 rfl ?_
  refine e_getR dX11_reads_264 fl_X11_56 sh_m rfl ?_
  refine e_iload_n dX11_reads_267 rfl ?_
  refine e_zaldN (j := d) dX11_reads_268 (sa_m_compared) (by decide) (by omega) ?_
  rw [hc1]
  refine e_if_ne (tgt := 304) dX11_reads_269 (by decide) (fun c269 => ?_) (fun c269 => absurd c269 (by decide))
  exact k
set_option maxHeartbeats 500000 in
set_option maxRecDepth 20000 in
theorem f_245c {G : Gt} {M0 M : Mm} {t : Tv} {x : Xv} {L : List Int32} {Q : Option Value → Mm → Prop} {d : Nat} {u3 u4 u5 : Value} (hS : ST M0 M t x L) (hd : d ≤ 5) (S60 : ¬ isS t x 60) (S61 : isS t x 61) (hc1 : M.1 254 d = 1) (k : Ev G 3 mX11_reads 304 [.ref 238, .int (nI d), .int 0, u3, u4, u5] [] M Q) : Ev G 3 mX11_reads 245 [.ref 238, .int (nI d), .int 0, u3, u4, u5] [] M (Q) := by
  have hG := hS.1.2.1
  obtain ⟨hx0, hx2, hI, hZ, g4, g5, g6, g7, g8⟩ := id hG
  have hcd := hS.1.2.2.1
  refine e_aload_n dX11_reads_245 rfl ?_
  refine e_bipush (v := 60) dX11_reads_246 (by decide) ?_
  refine cV1r dX11_reads_248 mo_X11_isSign ml_X11_213 sh_m rfl (Nat.le_of_ble_eq_true rfl) (by omega) (r_isSign hG (s := 60)) ?_
  rw [b2i_f S60]
  refine e_if_ne (tgt := 263) dX11_reads_251 (by decide) (fun c251 => absurd c251 (by decide)) (fun c251 => ?_)
  refine e_aload_n dX11_reads_254 rfl ?_
  refine e_bipush (v := 61) dX11_reads_255 (by decide) ?_
  refine cV1r dX11_reads_257 mo_X11_isSign ml_X11_213 sh_m rfl (Nat.le_of_ble_eq_true rfl) (by omega) (r_isSign hG (s := 61)) ?_
  rw [b2i_t S61]
  refine e_if_eq (tgt := 304) dX11_reads_260 (by decide) (fun c260 => absurd c260 (by decide)) (fun c260 => ?_)
  refine e_aload_n dX11_reads_263 rfl ?_
  refine e_getR dX11_reads_264 fl_X11_56 sh_m rfl ?_
  refine e_iload_n dX11_reads_267 rfl ?_
  refine e_zaldN (j := d) dX11_reads_268 (sa_m_compared) (by decide) (by omega) ?_
  rw [hc1]
  refine e_if_ne (tgt := 304) dX11_reads_269 (by decide) (fun c269 => ?_) (fun c269 => absurd c269 (by decide))
  exact k
set_option maxHeartbeats 500000 in
set_option maxRecDepth 20000 in
theorem f_304a {G : Gt} {M0 M : Mm} {t : Tv} {x : Xv} {L : List Int32} {Q : Option Value → Mm → Prop} {d : Nat} {u3 u4 u5 : Value} (hS : ST M0 M t x L) (hd : d ≤ 5) (W19 : ¬ isW t x 19) (W20 : ¬ isW t x 20) (S41 : ¬ isS t x 41) (k : Ev G 3 mX11_reads 399 [.ref 238, .int (nI d), .int 0, u3, u4, u5] [] M Q) : Ev G 3 mX11_reads 304 [.ref 238, .int (nI d), .int 0, u3, u4, u5] [] M (Q) := by
  have hG := hS.1.2.1
  obtain ⟨hx0, hx2, hI, hZ, g4, g5, g6, g7, g8⟩ := id hG
  have hcd := hS.1.2.2.1
  refine e_aload_n dX11_reads_304 rfl ?_
  refine e_ldc2 dX11_reads_305 kl_X11_227 ?_
  refine cV1r dX11_reads_308 mo_X11_isWord ml_X11_209 sh_m rfl (Nat.le_of_ble_eq_true rfl) (by omega) (r_isWord (k := 19) hG (by decide)) ?_
  rw [b2i_f W19]
  refine e_if_ne (tgt := 324) dX11_reads_311 (by decide) (fun c311 => absurd c311 (by decide)) (fun c311 => ?_)
  refine e_aload_n dX11_reads_314 rfl ?_
  refine e_ldc2 dX11_reads_315 kl_X11_229 ?_
  refine cV1r dX11_reads_318 mo_X11_isWord ml_X11_209 sh_m rfl (Nat.le_of_ble_eq_true rfl) (by omega) (r_isWord (k := 20) hG (by decide)) ?_
  rw [b2i_f W20]
  refine e_if_eq (tgt := 357) dX11_reads_321 (by decide) (fun c321 => ?_) (fun c321 => absurd c321 (by decide))
  refine e_aload_n dX11_reads_357 rfl ?_
  refine e_bipush (v := 41) dX11_reads_358 (by decide) ?_
  refine cV1r dX11_reads_360 mo_X11_isSign ml_X11_213 sh_m rfl (Nat.le_of_ble_eq_true rfl) (by omega) (r_isSign hG (s := 41)) ?_
  rw [b2i_f S41]
  refine e_if_eq (tgt := 399) dX11_reads_363 (by decide) (fun c363 => ?_) (fun c363 => absurd c363 (by decide))
  exact k
set_option maxHeartbeats 500000 in
set_option maxRecDepth 20000 in
theorem f_304b {G : Gt} {M0 M : Mm} {t : Tv} {x : Xv} {L : List Int32} {Q : Option Value → Mm → Prop} {d : Nat} {u3 u4 u5 : Value} (hS : ST M0 M t x L) (hd : d ≤ 5) (W19 : ¬ isW t x 19) (W20 : ¬ isW t x 20) (S41 : isS t x 41) (h0 : d = 0) (k : Ev G 3 mX11_reads 399 [.ref 238, .int (nI d), .int 0, u3, u4, u5] [] M Q) : Ev G 3 mX11_reads 304 [.ref 238, .int (nI d), .int 0, u3, u4, u5] [] M (Q) := by
  have hG := hS.1.2.1
  obtain ⟨hx0, hx2, hI, hZ, g4, g5, g6, g7, g8⟩ := id hG
  have hcd := hS.1.2.2.1
  refine e_aload_n dX11_reads_304 rfl ?_
  refine e_ldc2 dX11_reads_305 kl_X11_227 ?_
  refine cV1r dX11_reads_308 mo_X11_isWord ml_X11_209 sh_m rfl (Nat.le_of_ble_eq_true rfl) (by omega) (r_isWord (k := 19) hG (by decide)) ?_
  rw [b2i_f W19]
  refine e_if_ne (tgt := 324) dX11_reads_311 (by decide) (fun c311 => absurd c311 (by decide)) (fun c311 => ?_)
  refine e_aload_n dX11_reads_314 rfl ?_
  refine e_ldc2 dX11_reads_315 kl_X11_229 ?_
  refine cV1r dX11_reads_318 mo_X11_isWord ml_X11_209 sh_m rfl (Nat.le_of_ble_eq_true rfl) (by omega) (r_isWord (k := 20) hG (by decide)) ?_
  rw [b2i_f W20]
  refine e_if_eq (tgt := 357) dX11_reads_321 (by decide) (fun c321 => ?_) (fun c321 => absurd c321 (by decide))
  refine e_aload_n dX11_reads_357 rfl ?_
  refine e_bipush (v := 41) dX11_reads_358 (by decide) ?_
  refine cV1r dX11_reads_360 mo_X11_isSign ml_X11_213 sh_m rfl (Nat.le_of_ble_eq_true rfl) (by omega) (r_isSign hG (s := 41)) ?_
  rw [b2i_t S41]
  refine e_if_eq (tgt := 399) dX11_reads_363 (by decide) (fun c363 => absurd c363 (by decide)) (fun c363 => ?_)
  refine e_iload_n dX11_reads_366 rfl ?_
  refine e_if_le (tgt := 399) dX11_reads_367 (by decide) (fun c367 => ?_) (fun c367 => absurd c367 (by rw [h0]; decide))
  exact k
set_option maxHeartbeats 500000 in
set_option maxRecDepth 20000 in
theorem f_399a {G : Gt} {M0 M : Mm} {t : Tv} {x : Xv} {L : List Int32} {Q : Option Value → Mm → Prop} {d : Nat} {u3 u4 u5 : Value} (hS : ST M0 M t x L) (hd : d ≤ 5) (h0 : 0 < d) (kf : ∀ M', OF M M' → M'.1 238 9 = (failX t 1 x).1 → Q (some (.int 0)) M') : Ev G 3 mX11_reads 399 [.ref 238, .int (nI d), .int 0, u3, u4, u5] [] M (Q) := by
  have hG := hS.1.2.1
  obtain ⟨hx0, hx2, hI, hZ, g4, g5, g6, g7, g8⟩ := id hG
  have hcd := hS.1.2.2.1
  refine e_iload_n dX11_reads_399 rfl ?_
  refine e_if_ne (tgt := 418) dX11_reads_400 (by decide) (fun c400 => ?_) (fun c400 => absurd c400 (fun q => by have := nI_injN (a := d) (b := 0) (by omega) (by omega) q; omega))
  refine e_aload_n dX11_reads_418 rfl ?_
  refine e_iconst (v := 1) dX11_reads_419 (by decide) ?_
  refine cV1r dX11_reads_420 mo_X11_fails ml_X11_217 sh_m rfl (Nat.le_of_ble_eq_true rfl) (by omega) (r_fails (k := 1) g5) ?_
  refine e_zret dX11_reads_423 rfl (by first | rfl | exact b2i_nar _) ?_
  exact kf _ of9 (by rw [setI_p, fail0 hx0])
set_option maxHeartbeats 500000 in
set_option maxRecDepth 20000 in
theorem f_399b {G : Gt} {M0 M : Mm} {t : Tv} {x : Xv} {L : List Int32} {Q : Option Value → Mm → Prop} {d : Nat} {u3 u4 u5 : Value} (hS : ST M0 M t x L) (hd : d ≤ 5) (h0 : d = 0) (S59 : ¬ isS t x 59) (kf : ∀ M', OF M M' → M'.1 238 9 = (failX t 1 x).1 → Q (some (.int 0)) M') : Ev G 3 mX11_reads 399 [.ref 238, .int (nI d), .int 0, u3, u4, u5] [] M (Q) := by
  have hG := hS.1.2.1
  obtain ⟨hx0, hx2, hI, hZ, g4, g5, g6, g7, g8⟩ := id hG
  have hcd := hS.1.2.2.1
  refine e_iload_n dX11_reads_399 rfl ?_
  refine e_if_ne (tgt := 418) dX11_reads_400 (by decide) (fun c400 => absurd c400 (fun q => q (by rw [h0]; rfl))) (fun c400 => ?_)
  refine e_aload_n dX11_reads_403 rfl ?_
  refine e_bipush (v := 59) dX11_reads_404 (by decide) ?_
  refine cV1r dX11_reads_406 mo_X11_isSign ml_X11_213 sh_m rfl (Nat.le_of_ble_eq_true rfl) (by omega) (r_isSign hG (s := 59)) ?_
  rw [b2i_f S59]
  refine e_if_eq (tgt := 418) dX11_reads_409 (by decide) (fun c409 => ?_) (fun c409 => absurd c409 (by decide))
  refine e_aload_n dX11_reads_418 rfl ?_
  refine e_iconst (v := 1) dX11_reads_419 (by decide) ?_
  refine cV1r dX11_reads_420 mo_X11_fails ml_X11_217 sh_m rfl (Nat.le_of_ble_eq_true rfl) (by omega) (r_fails (k := 1) g5) ?_
  refine e_zret dX11_reads_423 rfl (by first | rfl | exact b2i_nar _) ?_
  exact kf _ of9 (by rw [setI_p, fail0 hx0])
theorem j_fail {G : Gt} {M0 M : Mm} {t : Tv} {x : Xv} {L : List Int32} {Q : Option Value → Mm → Prop} {d : Nat} {u3 u4 u5 : Value} (hS : ST M0 M t x L) (hd : d ≤ 5) (S43 : ¬ isS t x 43) (S45 : ¬ isS t x 45) (S42 : ¬ isS t x 42) (h1 : (¬ isS t x 60 ∧ ¬ isS t x 61) ∨ M.1 254 d = 1) (W19 : ¬ isW t x 19) (W20 : ¬ isW t x 20) (h41 : ¬ isS t x 41 ∨ d = 0) (h59 : ¬ isS t x 59 ∨ 0 < d) (kf : ∀ M', OF M M' → M'.1 238 9 = (failX t 1 x).1 → Q (some (.int 0)) M') : Ev G 3 mX11_reads 11 [.ref 238, .int (nI d), .int 0, u3, u4, u5] [] M Q := by
  have k399 : Ev G 3 mX11_reads 399 [.ref 238, .int (nI d), .int 0, u3, u4, u5] [] M Q := by
    rcases Nat.eq_zero_or_pos d with h0 | h0
    · exact f_399b hS hd h0 (h59.resolve_right (by omega)) kf
    · exact f_399a hS hd h0 kf
  have k304 : Ev G 3 mX11_reads 304 [.ref 238, .int (nI d), .int 0, u3, u4, u5] [] M Q := by
    by_cases S41 : isS t x 41
    · exact f_304b hS hd W19 W20 S41 (h41.resolve_left (fun q => q S41)) k399
    · exact f_304a hS hd W19 W20 S41 k399
  refine f_11 hS hd S43 S45 S42 ?_
  by_cases S60 : isS t x 60
  · exact f_245b hS hd S60 (h1.resolve_left (fun q => q.1 S60)) k304
  · by_cases S61 : isS t x 61
    · exact f_245c hS hd S60 S61 (h1.resolve_left (fun q => q.2 S61)) k304
    · exact f_245a hS hd S60 S61 k304
set_option maxHeartbeats 500000 in
set_option maxRecDepth 20000 in
theorem j_done {G : Gt} {M0 M : Mm} {t : Tv} {x : Xv} {L : List Int32} {Q : Option Value → Mm → Prop} {u3 u4 u5 : Value} (hS : ST M0 M t x L) (S59 : isS t x 59) (k : ∀ M', ST M0 M' t (advX t x) L → Q (some (.int 1)) M') : Ev G 3 mX11_reads 11 [.ref 238, .int 0, .int 0, u3, u4, u5] [] M (Q) := by
  have hG := hS.1.2.1
  obtain ⟨hx0, hx2, hI, hZ, g4, g5, g6, g7, g8⟩ := id hG
  have hcd := hS.1.2.2.1
  have S40 : ¬ isS t x 40 := fun q => absurd (S59.2.2.symm.trans q.2.2) (by decide)
  have S41 : ¬ isS t x 41 := fun q => absurd (S59.2.2.symm.trans q.2.2) (by decide)
  have S42 : ¬ isS t x 42 := fun q => absurd (S59.2.2.symm.trans q.2.2) (by decide)
  have S43 : ¬ isS t x 43 := fun q => absurd (S59.2.2.symm.trans q.2.2) (by decide)
  have S45 : ¬ isS t x 45 := fun q => absurd (S59.2.2.symm.trans q.2.2) (by decide)
  have S60 : ¬ isS t x 60 := fun q => absurd (S59.2.2.symm.trans q.2.2) (by decide)
  have S61 : ¬ isS t x 61 := fun q => absurd (S59.2.2.symm.trans q.2.2) (by decide)
  have W18 : ¬ isW t x 18 := fun q => absurd (S59.2.1.symm.trans q.2.1) (by decide)
  have W19 : ¬ isW t x 19 := fun q => absurd (S59.2.1.symm.trans q.2.1) (by decide)
  have W20 : ¬ isW t x 20 := fun q => absurd (S59.2.1.symm.trans q.2.1) (by decide)
  have hk : ¬ kdX t x = 0 := by rw [S59.2.1]; decide
  have hlt := hS.lt hk
  refine e_iload_n dX11_reads_11 rfl ?_
  refine e_if_eq (tgt := 179) dX11_reads_12 (by decide) (fun c12 => ?_) (fun c12 => absurd c12 (fun q => q rfl))
  refine e_aload_n dX11_reads_179 rfl ?_
  refine e_bipush (v := 43) dX11_reads_180 (by decide) ?_
  refine cV1r dX11_reads_182 mo_X11_isSign ml_X11_213 sh_m rfl (Nat.le_of_ble_eq_true rfl) (by omega) (r_isSign hG (s := 43)) ?_
  rw [b2i_f S43]
  refine e_if_ne (tgt := 206) dX11_reads_185 (by decide) (fun c185 => absurd c185 (by decide)) (fun c185 => ?_)
  refine e_aload_n dX11_reads_188 rfl ?_
  refine e_bipush (v := 45) dX11_reads_189 (by decide) ?_
  refine cV1r dX11_reads_191 mo_X11_isSign ml_X11_213 sh_m rfl (Nat.le_of_ble_eq_true rfl) (by omega) (r_isSign hG (s := 45)) ?_
  rw [b2i_f S45]
  refine e_if_ne (tgt := 206) dX11_reads_194 (by decide) (fun c194 => absurd c194 (by decide)) (fun c194 => ?_)
  refine e_aload_n dX11_reads_197 rfl ?_
  refine e_bipush (v := 42) dX11_reads_198 (by decide) ?_
  refine cV1r dX11_reads_200 mo_X11_isSign ml_X11_213 sh_m rfl (Nat.le_of_ble_eq_true rfl) (by omega) (r_isSign hG (s := 42)) ?_
  rw [b2i_f S42]
  refine e_if_eq (tgt := 245) dX11_reads_203 (by decide) (fun c203 => ?_) (fun c203 => absurd c203 (by decide))
  refine e_aload_n dX11_reads_245 rfl ?_
  refine e_bipush (v := 60) dX11_reads_246 (by decide) ?_
  refine cV1r dX11_reads_248 mo_X11_isSign ml_X11_213 sh_m rfl (Nat.le_of_ble_eq_true rfl) (by omega) (r_isSign hG (s := 60)) ?_
  rw [b2i_f S60]
  refine e_if_ne (tgt := 263) dX11_reads_251 (by decide) (fun c251 => absurd c251 (by decide)) (fun c251 => ?_)
  refine e_aload_n dX11_reads_254 rfl ?_
  refine e_bipush (v := 61) dX11_reads_255 (by decide) ?_
  refine cV1r dX11_reads_257 mo_X11_isSign ml_X11_213 sh_m rfl (Nat.le_of_ble_eq_true rfl) (by omega) (r_isSign hG (s := 61)) ?_
  rw [b2i_f S61]
  refine e_if_eq (tgt := 304) dX11_reads_260 (by decide) (fun c260 => ?_) (fun c260 => absurd c260 (by decide))
  refine e_aload_n dX11_reads_304 rfl ?_
  refine e_ldc2 dX11_reads_305 kl_X11_227 ?_
  refine cV1r dX11_reads_308 mo_X11_isWord ml_X11_209 sh_m rfl (Nat.le_of_ble_eq_true rfl) (by omega) (r_isWord (k := 19) hG (by decide)) ?_
  rw [b2i_f W19]
  refine e_if_ne (tgt := 324) dX11_reads_311 (by decide) (fun c311 => absurd c311 (by decide)) (fun c311 => ?_)
  refine e_aload_n dX11_reads_314 rfl ?_
  refine e_ldc2 dX11_reads_315 kl_X11_229 ?_
  refine cV1r dX11_reads_318 mo_X11_isWord ml_X11_209 sh_m rfl (Nat.le_of_ble_eq_true rfl) (by omega) (r_isWord (k := 20) hG (by decide)) ?_
  rw [b2i_f W20]
  refine e_if_eq (tgt := 357) dX11_reads_321 (by decide) (fun c321 => ?_) (fun c321 => absurd c321 (by decide))
  refine e_aload_n dX11_reads_357 rfl ?_
  refine e_bipush (v := 41) dX11_reads_358 (by decide) ?_
  refine cV1r dX11_reads_360 mo_X11_isSign ml_X11_213 sh_m rfl (Nat.le_of_ble_eq_true rfl) (by omega) (r_isSign hG (s := 41)) ?_
  rw [b2i_f S41]
  refine e_if_eq (tgt := 399) dX11_reads_363 (by decide) (fun c363 => ?_) (fun c363 => absurd c363 (by decide))
  refine e_iload_n dX11_reads_399 rfl ?_
  refine e_if_ne (tgt := 418) dX11_reads_400 (by decide) (fun c400 => absurd c400 (by decide)) (fun c400 => ?_)
  refine e_aload_n dX11_reads_403 rfl ?_
  refine e_bipush (v := 59) dX11_reads_404 (by decide) ?_
  refine cV1r dX11_reads_406 mo_X11_isSign ml_X11_213 sh_m rfl (Nat.le_of_ble_eq_true rfl) (by omega) (r_isSign hG (s := 59)) ?_
  rw [b2i_t S59]
  refine e_if_eq (tgt := 418) dX11_reads_409 (by decide) (fun c409 => absurd c409 (by decide)) (fun c409 => ?_)
  refine e_aload_n dX11_reads_412 rfl ?_
  refine cV0x dX11_reads_413 mo_X11_nextToken ml_X11_224 sh_m rfl (Nat.le_of_ble_eq_true rfl) (by omega) (c_nt hG OF.rfl' rfl) ?_
  rintro r M2 ⟨rfl, hN, hG2⟩
  dsimp only [Option.toList, List.cons_append, List.nil_append]
  refine e_iconst (v := 1) dX11_reads_416 (by decide) ?_
  refine e_zret dX11_reads_417 rfl (by first | rfl | exact b2i_nar _) ?_
  exact k M2 ⟨⟨hS.1.1.trans hN.of.rf, hG2, (hN.of.2.2.2 23 (by omega)).trans hS.1.2.2.1, by rw [hN.1 252 (by decide)]; exact hS.1.2.2.2⟩, by omega⟩
set_option maxHeartbeats 500000 in
set_option maxRecDepth 20000 in
theorem p_end152a {G : Gt} {M0 M : Mm} {t : Tv} {x : Xv} {L : List Int32} {Q : Option Value → Mm → Prop} {d : Nat} {u3 u4 u5 : Value} (hP : SP M0 M t x L) (hd : d ≤ 5) (h0 : d = 0) (k : ∀ M', ST M0 M' t (advX t x) L → M'.1 253 = M.1 253 → M'.1 254 = M.1 254 → Ev G 3 mX11_reads 11 [.ref 238, .int (nI d), .int 0, u3, u4, u5] [] M' Q) : Ev G 3 mX11_reads 152 [.ref 238, .int (nI d), .int 0, u3, u4, u5] [] M (Q) := by
  have hG := hP.1.2.1
  refine e_iload_n dX11_reads_152 rfl ?_
  refine e_if_le (tgt := 172) dX11_reads_153 (by decide) (fun c153 => ?_) (fun c153 => absurd c153 (by rw [h0]; decide))
  refine e_aload_n dX11_reads_172 rfl ?_
  refine cV0x dX11_reads_173 mo_X11_nextToken ml_X11_224 sh_m rfl (Nat.le_of_ble_eq_true rfl) (by omega) (c_nt hP.1.2.1 OF.rfl' rfl) ?_
  rintro r M2 ⟨rfl, hN, hG2⟩
  dsimp only [Option.toList, List.cons_append, List.nil_append]
  refine e_goto (tgt := 11) dX11_reads_176 (by decide) ?_
  exact k M2 (hP.next hN hG2) (hN.1 253 (by decide)) (hN.1 254 (by decide))
set_option maxHeartbeats 500000 in
set_option maxRecDepth 20000 in
theorem p_end152b {G : Gt} {M0 M : Mm} {t : Tv} {x : Xv} {L : List Int32} {Q : Option Value → Mm → Prop} {d : Nat} {u3 u4 u5 : Value} (hP : SP M0 M t x L) (hd : d ≤ 5) (h0 : 0 < d) (ho : ¬ M.1 253 d = 1) (k : ∀ M', ST M0 M' t (advX t x) L → M'.1 253 = M.1 253 → M'.1 254 = M.1 254 → Ev G 3 mX11_reads 11 [.ref 238, .int (nI d), .int 0, u3, u4, u5] [] M' Q) : Ev G 3 mX11_reads 152 [.ref 238, .int (nI d), .int 0, u3, u4, u5] [] M (Q) := by
  have hG := hP.1.2.1
  refine e_iload_n dX11_reads_152 rfl ?_
  refine e_if_le (tgt := 172) dX11_reads_153 (by decide) (fun c153 => absurd c153 (fun q => q (nI_gt0 h0 hd))) (fun c153 => ?_)
  refine e_aload_n dX11_reads_156 rfl ?_
  refine e_getR dX11_reads_157 fl_X11_53 sh_m rfl ?_
  refine e_iload_n dX11_reads_160 rfl ?_
  refine e_ialdN (j := d) dX11_reads_161 (sa_m_opened) (by decide) (by omega) ?_
  refine e_iconst (v := 1) dX11_reads_162 (by decide) ?_
  refine e_icmp_ne (tgt := 172) dX11_reads_163 (by decide) (fun c163 => ?_) (fun c163 => absurd c163 (fun q => ho q))
  refine e_aload_n dX11_reads_172 rfl ?_
  refine cV0x dX11_reads_173 mo_X11_nextToken ml_X11_224 sh_m rfl (Nat.le_of_ble_eq_true rfl) (by omega) (c_nt hP.1.2.1 OF.rfl' rfl) ?_
  rintro r M2 ⟨rfl, hN, hG2⟩
  dsimp only [Option.toList, List.cons_append, List.nil_append]
  refine e_goto (tgt := 11) dX11_reads_176 (by decide) ?_
  exact k M2 (hP.next hN hG2) (hN.1 253 (by decide)) (hN.1 254 (by decide))
set_option maxHeartbeats 500000 in
set_option maxRecDepth 20000 in
theorem p_pop152 {G : Gt} {M : Mm} {Q : Option Value → Mm → Prop} {d : Nat} {u3 u4 u5 : Value} (hd : d ≤ 4) (ho : M.1 253 (d + 1) = 1) (k : Ev G 3 mX11_reads 152 [.ref 238, .int (nI d), .int 0, u3, u4, u5] [] M Q) : Ev G 3 mX11_reads 152 [.ref 238, .int (nI (d + 1)), .int 0, u3, u4, u5] [] M (Q) := by
  refine e_iload_n dX11_reads_152 rfl ?_
  refine e_if_le (tgt := 172) dX11_reads_153 (by decide) (fun c153 => absurd c153 (fun q => q (nI_gt0 (d := d + 1) (by omega) (by omega)))) (fun c153 => ?_)
  refine e_aload_n dX11_reads_156 rfl ?_
  refine e_getR dX11_reads_157 fl_X11_53 sh_m rfl ?_
  refine e_iload_n dX11_reads_160 rfl ?_
  refine e_ialdN (j := (d + 1)) dX11_reads_161 (sa_m_opened) (by decide) (by omega) ?_
  refine e_iconst (v := 1) dX11_reads_162 (by decide) ?_
  refine e_icmp_ne (tgt := 172) dX11_reads_163 (by decide) (fun c163 => absurd c163 (fun q => q ho)) (fun c163 => ?_)
  refine e_iinc (ls' := [_, _, _, _, _, _]) dX11_reads_166 rfl (nI_dn d) (by decide) rfl ?_
  refine e_goto (tgt := 152) dX11_reads_169 (by decide) ?_
  exact k
set_option maxHeartbeats 500000 in
set_option maxRecDepth 20000 in
theorem p_end379a {G : Gt} {M0 M : Mm} {t : Tv} {x : Xv} {L : List Int32} {Q : Option Value → Mm → Prop} {d : Nat} {u3 u4 u5 : Value} (hP : SP M0 M t x L) (hd : d ≤ 5) (h0 : d = 0) (k : ∀ M', ST M0 M' t (advX t x) L → M'.1 253 = M.1 253 → M'.1 254 = M.1 254 → Ev G 3 mX11_reads 11 [.ref 238, .int (nI d), .int 0, u3, u4, u5] [] M' Q) : Ev G 3 mX11_reads 379 [.ref 238, .int (nI d), .int 0, u3, u4, u5] [] M (Q) := by
  have hG := hP.1.2.1
  refine e_iload_n dX11_reads_379 rfl ?_
  refine e_if_le (tgt := 424) dX11_reads_380 (by decide) (fun c380 => ?_) (fun c380 => absurd c380 (by rw [h0]; decide))
  refine e_aload_n dX11_reads_424 rfl ?_
  refine cV0x dX11_reads_425 mo_X11_nextToken ml_X11_224 sh_m rfl (Nat.le_of_ble_eq_true rfl) (by omega) (c_nt hP.1.2.1 OF.rfl' rfl) ?_
  rintro r M2 ⟨rfl, hN, hG2⟩
  dsimp only [Option.toList, List.cons_append, List.nil_append]
  refine e_goto (tgt := 11) dX11_reads_428 (by decide) ?_
  exact k M2 (hP.next hN hG2) (hN.1 253 (by decide)) (hN.1 254 (by decide))
set_option maxHeartbeats 500000 in
set_option maxRecDepth 20000 in
theorem p_end379b {G : Gt} {M0 M : Mm} {t : Tv} {x : Xv} {L : List Int32} {Q : Option Value → Mm → Prop} {d : Nat} {u3 u4 u5 : Value} (hP : SP M0 M t x L) (hd : d ≤ 5) (h0 : 0 < d) (ho : ¬ M.1 253 d = 1) (k : ∀ M', ST M0 M' t (advX t x) L → M'.1 253 = M.1 253 → M'.1 254 = M.1 254 → Ev G 3 mX11_reads 11 [.ref 238, .int (nI d), .int 0, u3, u4, u5] [] M' Q) : Ev G 3 mX11_reads 379 [.ref 238, .int (nI d), .int 0, u3, u4, u5] [] M (Q) := by
  have hG := hP.1.2.1
  refine e_iload_n dX11_reads_379 rfl ?_
  refine e_if_le (tgt := 424) dX11_reads_380 (by decide) (fun c380 => absurd c380 (fun q => q (nI_gt0 h0 hd))) (fun c380 => ?_)
  refine e_aload_n dX11_reads_383 rfl ?_
  refine e_getR dX11_reads_384 fl_X11_53 sh_m rfl ?_
  refine e_iload_n dX11_reads_387 rfl ?_
  refine e_ialdN (j := d) dX11_reads_388 (sa_m_opened) (by decide) (by omega) ?_
  refine e_iconst (v := 1) dX11_reads_389 (by decide) ?_
  refine e_icmp_ne (tgt := 424) dX11_reads_390 (by decide) (fun c390 => ?_) (fun c390 => absurd c390 (fun q => ho q))
  refine e_aload_n dX11_reads_424 rfl ?_
  refine cV0x dX11_reads_425 mo_X11_nextToken ml_X11_224 sh_m rfl (Nat.le_of_ble_eq_true rfl) (by omega) (c_nt hP.1.2.1 OF.rfl' rfl) ?_
  rintro r M2 ⟨rfl, hN, hG2⟩
  dsimp only [Option.toList, List.cons_append, List.nil_append]
  refine e_goto (tgt := 11) dX11_reads_428 (by decide) ?_
  exact k M2 (hP.next hN hG2) (hN.1 253 (by decide)) (hN.1 254 (by decide))
set_option maxHeartbeats 500000 in
set_option maxRecDepth 20000 in
theorem p_pop379 {G : Gt} {M : Mm} {Q : Option Value → Mm → Prop} {d : Nat} {u3 u4 u5 : Value} (hd : d ≤ 4) (ho : M.1 253 (d + 1) = 1) (k : Ev G 3 mX11_reads 379 [.ref 238, .int (nI d), .int 0, u3, u4, u5] [] M Q) : Ev G 3 mX11_reads 379 [.ref 238, .int (nI (d + 1)), .int 0, u3, u4, u5] [] M (Q) := by
  refine e_iload_n dX11_reads_379 rfl ?_
  refine e_if_le (tgt := 424) dX11_reads_380 (by decide) (fun c380 => absurd c380 (fun q => q (nI_gt0 (d := d + 1) (by omega) (by omega)))) (fun c380 => ?_)
  refine e_aload_n dX11_reads_383 rfl ?_
  refine e_getR dX11_reads_384 fl_X11_53 sh_m rfl ?_
  refine e_iload_n dX11_reads_387 rfl ?_
  refine e_ialdN (j := (d + 1)) dX11_reads_388 (sa_m_opened) (by decide) (by omega) ?_
  refine e_iconst (v := 1) dX11_reads_389 (by decide) ?_
  refine e_icmp_ne (tgt := 424) dX11_reads_390 (by decide) (fun c390 => absurd c390 (fun q => q ho)) (fun c390 => ?_)
  refine e_iinc (ls' := [_, _, _, _, _, _]) dX11_reads_393 rfl (nI_dn d) (by decide) rfl ?_
  refine e_goto (tgt := 379) dX11_reads_396 (by decide) ?_
  exact k
set_option maxHeartbeats 500000 in
set_option maxRecDepth 20000 in
theorem g_f {G : Gt} {M0 M : Mm} {t : Tv} {x : Xv} {L : List Int32} {Q : Option Value → Mm → Prop} {d : Nat} {u3 u4 u5 : Value} (hS : ST M0 M t x L) (hd : d ≤ 5) (F : ¬ fcX t x = 0) (W18 : ¬ isW t x 18) (S40 : ¬ isS t x 40) (k : Ev G 3 mX11_reads 65 [.ref 238, .int (nI d), .int 1, .int (fcX t x), .int 0, .int 0] [] M Q) : Ev G 3 mX11_reads 11 [.ref 238, .int (nI d), .int 1, u3, u4, u5] [] M (Q) := by
  have hG := hS.1.2.1
  obtain ⟨hx0, hx2, hI, hZ, g4, g5, g6, g7, g8⟩ := id hG
  have hcd := hS.1.2.2.1
  refine e_iload_n dX11_reads_11 rfl ?_
  refine e_if_eq (tgt := 179) dX11_reads_12 (by decide) (fun c12 => absurd c12 (by decide)) (fun c12 => ?_)
  refine e_aload_n dX11_reads_15 rfl ?_
  refine cV0r dX11_reads_16 mo_X11_fact ml_X11_203 sh_m rfl (Nat.le_of_ble_eq_true rfl) (by omega) (r_fact hG) ?_
  refine e_istore_n (ls' := [_, _, _, _, _, _]) dX11_reads_19 (by decide) rfl ?_
  refine e_aload_n dX11_reads_20 rfl ?_
  refine e_ldc2 dX11_reads_21 kl_X11_207 ?_
  refine cV1r dX11_reads_24 mo_X11_isWord ml_X11_209 sh_m rfl (Nat.le_of_ble_eq_true rfl) (by omega) (r_isWord (k := 18) hG (by decide)) ?_
  rw [b2i_f W18]
  refine e_istore (ls' := [_, _, _, _, _, _]) dX11_reads_27 (by decide) rfl ?_
  refine e_aload_n dX11_reads_29 rfl ?_
  refine e_bipush (v := 40) dX11_reads_30 (by decide) ?_
  refine cV1r dX11_reads_32 mo_X11_isSign ml_X11_213 sh_m rfl (Nat.le_of_ble_eq_true rfl) (by omega) (r_isSign hG (s := 40)) ?_
  rw [b2i_f S40]
  refine e_istore (ls' := [_, _, _, _, _, _]) dX11_reads_35 (by decide) rfl ?_
  refine e_iload_n dX11_reads_37 rfl ?_
  refine e_if_ne (tgt := 65) dX11_reads_38 (by decide) (fun c38 => ?_) (fun c38 => absurd c38 (fun q => F q))
  exact k
set_option maxHeartbeats 500000 in
set_option maxRecDepth 20000 in
theorem g_n {G : Gt} {M0 M : Mm} {t : Tv} {x : Xv} {L : List Int32} {Q : Option Value → Mm → Prop} {d : Nat} {u3 u4 u5 : Value} (hS : ST M0 M t x L) (hd : d ≤ 5) (F0 : fcX t x = 0) (W18 : isW t x 18) (S40 : ¬ isS t x 40) (k : Ev G 3 mX11_reads 65 [.ref 238, .int (nI d), .int 1, .int 0, .int 1, .int 0] [] M Q) : Ev G 3 mX11_reads 11 [.ref 238, .int (nI d), .int 1, u3, u4, u5] [] M (Q) := by
  have hG := hS.1.2.1
  obtain ⟨hx0, hx2, hI, hZ, g4, g5, g6, g7, g8⟩ := id hG
  have hcd := hS.1.2.2.1
  refine e_iload_n dX11_reads_11 rfl ?_
  refine e_if_eq (tgt := 179) dX11_reads_12 (by decide) (fun c12 => absurd c12 (by decide)) (fun c12 => ?_)
  refine e_aload_n dX11_reads_15 rfl ?_
  refine cV0r dX11_reads_16 mo_X11_fact ml_X11_203 sh_m rfl (Nat.le_of_ble_eq_true rfl) (by omega) (r_fact hG) ?_
  rw [F0]
  refine e_istore_n (ls' := [_, _, _, _, _, _]) dX11_reads_19 (by decide) rfl ?_
  refine e_aload_n dX11_reads_20 rfl ?_
  refine e_ldc2 dX11_reads_21 kl_X11_207 ?_
  refine cV1r dX11_reads_24 mo_X11_isWord ml_X11_209 sh_m rfl (Nat.le_of_ble_eq_true rfl) (by omega) (r_isWord (k := 18) hG (by decide)) ?_
  rw [b2i_t W18]
  refine e_istore (ls' := [_, _, _, _, _, _]) dX11_reads_27 (by decide) rfl ?_
  refine e_aload_n dX11_reads_29 rfl ?_
  refine e_bipush (v := 40) dX11_reads_30 (by decide) ?_
  refine cV1r dX11_reads_32 mo_X11_isSign ml_X11_213 sh_m rfl (Nat.le_of_ble_eq_true rfl) (by omega) (r_isSign hG (s := 40)) ?_
  rw [b2i_f S40]
  refine e_istore (ls' := [_, _, _, _, _, _]) dX11_reads_35 (by decide) rfl ?_
  refine e_iload_n dX11_reads_37 rfl ?_
  refine e_if_ne (tgt := 65) dX11_reads_38 (by decide) (fun c38 => absurd c38 (by decide)) (fun c38 => ?_)
  refine e_iload dX11_reads_41 rfl ?_
  refine e_if_ne (tgt := 65) dX11_reads_43 (by decide) (fun c43 => ?_) (fun c43 => absurd c43 (by decide))
  exact k
set_option maxHeartbeats 500000 in
set_option maxRecDepth 20000 in
theorem g_o {G : Gt} {M0 M : Mm} {t : Tv} {x : Xv} {L : List Int32} {Q : Option Value → Mm → Prop} {d : Nat} {u3 u4 u5 : Value} (hS : ST M0 M t x L) (hd : d ≤ 5) (F0 : fcX t x = 0) (W18 : ¬ isW t x 18) (S40 : isS t x 40) (k : Ev G 3 mX11_reads 65 [.ref 238, .int (nI d), .int 1, .int 0, .int 0, .int 1] [] M Q) : Ev G 3 mX11_reads 11 [.ref 238, .int (nI d), .int 1, u3, u4, u5] [] M (Q) := by
  have hG := hS.1.2.1
  obtain ⟨hx0, hx2, hI, hZ, g4, g5, g6, g7, g8⟩ := id hG
  have hcd := hS.1.2.2.1
  refine e_iload_n dX11_reads_11 rfl ?_
  refine e_if_eq (tgt := 179) dX11_reads_12 (by decide) (fun c12 => absurd c12 (by decide)) (fun c12 => ?_)
  refine e_aload_n dX11_reads_15 rfl ?_
  refine cV0r dX11_reads_16 mo_X11_fact ml_X11_203 sh_m rfl (Nat.le_of_ble_eq_true rfl) (by omega) (r_fact hG) ?_
  rw [F0]
  refine e_istore_n (ls' := [_, _, _, _, _, _]) dX11_reads_19 (by decide) rfl ?_
  refine e_aload_n dX11_reads_20 rfl ?_
  refine e_ldc2 dX11_reads_21 kl_X11_207 ?_
  refine cV1r dX11_reads_24 mo_X11_isWord ml_X11_209 sh_m rfl (Nat.le_of_ble_eq_true rfl) (by omega) (r_isWord (k := 18) hG (by decide)) ?_
  rw [b2i_f W18]
  refine e_istore (ls' := [_, _, _, _, _, _]) dX11_reads_27 (by decide) rfl ?_
  refine e_aload_n dX11_reads_29 rfl ?_
  refine e_bipush (v := 40) dX11_reads_30 (by decide) ?_
  refine cV1r dX11_reads_32 mo_X11_isSign ml_X11_213 sh_m rfl (Nat.le_of_ble_eq_true rfl) (by omega) (r_isSign hG (s := 40)) ?_
  rw [b2i_t S40]
  refine e_istore (ls' := [_, _, _, _, _, _]) dX11_reads_35 (by decide) rfl ?_
  refine e_iload_n dX11_reads_37 rfl ?_
  refine e_if_ne (tgt := 65) dX11_reads_38 (by decide) (fun c38 => absurd c38 (by decide)) (fun c38 => ?_)
  refine e_iload dX11_reads_41 rfl ?_
  refine e_if_ne (tgt := 65) dX11_reads_43 (by decide) (fun c43 => absurd c43 (by decide)) (fun c43 => ?_)
  refine e_iload dX11_reads_46 rfl ?_
  refine e_if_ne (tgt := 65) dX11_reads_48 (by decide) (fun c48 => ?_) (fun c48 => absurd c48 (by decide))
  exact k
set_option maxHeartbeats 500000 in
set_option maxRecDepth 20000 in
theorem g_m {G : Gt} {M0 M : Mm} {t : Tv} {x : Xv} {L : List Int32} {Q : Option Value → Mm → Prop} {d : Nat} {u3 u4 u5 : Value} (hS : ST M0 M t x L) (hd : d ≤ 5) (F0 : fcX t x = 0) (W18 : ¬ isW t x 18) (S40 : ¬ isS t x 40) (hm : kdX t x = 3) (k : Ev G 3 mX11_reads 65 [.ref 238, .int (nI d), .int 1, .int 0, .int 0, .int 0] [] M Q) : Ev G 3 mX11_reads 11 [.ref 238, .int (nI d), .int 1, u3, u4, u5] [] M (Q) := by
  have hG := hS.1.2.1
  obtain ⟨hx0, hx2, hI, hZ, g4, g5, g6, g7, g8⟩ := id hG
  have hcd := hS.1.2.2.1
  refine e_iload_n dX11_reads_11 rfl ?_
  refine e_if_eq (tgt := 179) dX11_reads_12 (by decide) (fun c12 => absurd c12 (by decide)) (fun c12 => ?_)
  refine e_aload_n dX11_reads_15 rfl ?_
  refine cV0r dX11_reads_16 mo_X11_fact ml_X11_203 sh_m rfl (Nat.le_of_ble_eq_true rfl) (by omega) (r_fact hG) ?_
  rw [F0]
  refine e_istore_n (ls' := [_, _, _, _, _, _]) dX11_reads_19 (by decide) rfl ?_
  refine e_aload_n dX11_reads_20 rfl ?_
  refine e_ldc2 dX11_reads_21 kl_X11_207 ?_
  refine cV1r dX11_reads_24 mo_X11_isWord ml_X11_209 sh_m rfl (Nat.le_of_ble_eq_true rfl) (by omega) (r_isWord (k := 18) hG (by decide)) ?_
  rw [b2i_f W18]
  refine e_istore (ls' := [_, _, _, _, _, _]) dX11_reads_27 (by decide) rfl ?_
  refine e_aload_n dX11_reads_29 rfl ?_
  refine e_bipush (v := 40) dX11_reads_30 (by decide) ?_
  refine cV1r dX11_reads_32 mo_X11_isSign ml_X11_213 sh_m rfl (Nat.le_of_ble_eq_true rfl) (by omega) (r_isSign hG (s := 40)) ?_
  rw [b2i_f S40]
  refine e_istore (ls' := [_, _, _, _, _, _]) dX11_reads_35 (by decide) rfl ?_
  refine e_iload_n dX11_reads_37 rfl ?_
  refine e_if_ne (tgt := 65) dX11_reads_38 (by decide) (fun c38 => absurd c38 (by decide)) (fun c38 => ?_)
  refine e_iload dX11_reads_41 rfl ?_
  refine e_if_ne (tgt := 65) dX11_reads_43 (by decide) (fun c43 => absurd c43 (by decide)) (fun c43 => ?_)
  refine e_iload dX11_reads_46 rfl ?_
  refine e_if_ne (tgt := 65) dX11_reads_48 (by decide) (fun c48 => absurd c48 (by decide)) (fun c48 => ?_)
  refine e_aload_n dX11_reads_51 rfl ?_
  refine e_getI dX11_reads_52 fl_X11_178 sh_m rfl ?_
  rw [g6]
  refine e_iconst (v := 2) dX11_reads_55 (by decide) ?_
  refine e_icmp_eq (tgt := 65) dX11_reads_56 (by decide) (fun c56 => ?_) (fun c56 => absurd c56 (fun q => q (kR_2.mpr hm)))
  exact k
set_option maxHeartbeats 500000 in
set_option maxRecDepth 20000 in
theorem g_bad {G : Gt} {M0 M : Mm} {t : Tv} {x : Xv} {L : List Int32} {Q : Option Value → Mm → Prop} {d : Nat} {u3 u4 u5 : Value} (hS : ST M0 M t x L) (hd : d ≤ 5) (F0 : fcX t x = 0) (W18 : ¬ isW t x 18) (S40 : ¬ isS t x 40) (hm : ¬ kdX t x = 3) (kf : ∀ M', OF M M' → M'.1 238 9 = (failX t 1 x).1 → Q (some (.int 0)) M') : Ev G 3 mX11_reads 11 [.ref 238, .int (nI d), .int 1, u3, u4, u5] [] M (Q) := by
  have hG := hS.1.2.1
  obtain ⟨hx0, hx2, hI, hZ, g4, g5, g6, g7, g8⟩ := id hG
  have hcd := hS.1.2.2.1
  refine e_iload_n dX11_reads_11 rfl ?_
  refine e_if_eq (tgt := 179) dX11_reads_12 (by decide) (fun c12 => absurd c12 (by decide)) (fun c12 => ?_)
  refine e_aload_n dX11_reads_15 rfl ?_
  refine cV0r dX11_reads_16 mo_X11_fact ml_X11_203 sh_m rfl (Nat.le_of_ble_eq_true rfl) (by omega) (r_fact hG) ?_
  rw [F0]
  refine e_istore_n (ls' := [_, _, _, _, _, _]) dX11_reads_19 (by decide) rfl ?_
  refine e_aload_n dX11_reads_20 rfl ?_
  refine e_ldc2 dX11_reads_21 kl_X11_207 ?_
  refine cV1r dX11_reads_24 mo_X11_isWord ml_X11_209 sh_m rfl (Nat.le_of_ble_eq_true rfl) (by omega) (r_isWord (k := 18) hG (by decide)) ?_
  rw [b2i_f W18]
  refine e_istore (ls' := [_, _, _, _, _, _]) dX11_reads_27 (by decide) rfl ?_
  refine e_aload_n dX11_reads_29 rfl ?_
  refine e_bipush (v := 40) dX11_reads_30 (by decide) ?_
  refine cV1r dX11_reads_32 mo_X11_isSign ml_X11_213 sh_m rfl (Nat.le_of_ble_eq_true rfl) (by omega) (r_isSign hG (s := 40)) ?_
  rw [b2i_f S40]
  refine e_istore (ls' := [_, _, _, _, _, _]) dX11_reads_35 (by decide) rfl ?_
  refine e_iload_n dX11_reads_37 rfl ?_
  refine e_if_ne (tgt := 65) dX11_reads_38 (by decide) (fun c38 => absurd c38 (by decide)) (fun c38 => ?_)
  refine e_iload dX11_reads_41 rfl ?_
  refine e_if_ne (tgt := 65) dX11_reads_43 (by decide) (fun c43 => absurd c43 (by decide)) (fun c43 => ?_)
  refine e_iload dX11_reads_46 rfl ?_
  refine e_if_ne (tgt := 65) dX11_reads_48 (by decide) (fun c48 => absurd c48 (by decide)) (fun c48 => ?_)
  refine e_aload_n dX11_reads_51 rfl ?_
  refine e_getI dX11_reads_52 fl_X11_178 sh_m rfl ?_
  rw [g6]
  refine e_iconst (v := 2) dX11_reads_55 (by decide) ?_
  refine e_icmp_eq (tgt := 65) dX11_reads_56 (by decide) (fun c56 => absurd c56 (fun q => hm (kR_2.mp q))) (fun c56 => ?_)
  refine e_aload_n dX11_reads_59 rfl ?_
  refine e_iconst (v := 1) dX11_reads_60 (by decide) ?_
  refine cV1r dX11_reads_61 mo_X11_fails ml_X11_217 sh_m rfl (Nat.le_of_ble_eq_true rfl) (by omega) (r_fails (k := 1) g5) ?_
  refine e_zret dX11_reads_64 rfl (by first | rfl | exact b2i_nar _) ?_
  exact kf _ of9 (by rw [setI_p, fail0 hx0])
set_option maxHeartbeats 500000 in
set_option maxRecDepth 20000 in
theorem h_deep {G : Gt} {M0 M : Mm} {t : Tv} {x : Xv} {L : List Int32} {Q : Option Value → Mm → Prop} {d : Nat} {v3 v4 v5 : Int32} (hS : ST M0 M t x L) (hd : d = 5) (kf : ∀ M', OF M M' → M'.1 238 9 = (failX t 5 x).1 → Q (some (.int 0)) M') : Ev G 3 mX11_reads 65 [.ref 238, .int (nI d), .int 1, .int v3, .int v4, .int v5] [] M (Q) := by
  have hG := hS.1.2.1
  obtain ⟨hx0, hx2, hI, hZ, g4, g5, g6, g7, g8⟩ := id hG
  have hcd := hS.1.2.2.1
  refine e_iload_n dX11_reads_65 rfl ?_
  refine e_iconst (v := 5) dX11_reads_66 (by decide) ?_
  refine e_icmp_ne (tgt := 76) dX11_reads_67 (by decide) (fun c67 => absurd c67 (fun q => q (by rw [hd]; rfl))) (fun c67 => ?_)
  refine e_aload_n dX11_reads_70 rfl ?_
  refine e_iconst (v := 5) dX11_reads_71 (by decide) ?_
  refine cV1r dX11_reads_72 mo_X11_fails ml_X11_217 sh_m rfl (Nat.le_of_ble_eq_true rfl) (by omega) (r_fails (k := 5) g5) ?_
  refine e_zret dX11_reads_75 rfl (by first | rfl | exact b2i_nar _) ?_
  exact kf _ of9 (by rw [setI_p, fail0 hx0])
set_option maxHeartbeats 500000 in
set_option maxRecDepth 20000 in
theorem h_n {G : Gt} {M0 M : Mm} {t : Tv} {x : Xv} {L : List Int32} {Q : Option Value → Mm → Prop} {d : Nat} (hS : ST M0 M t x L) (hd : d ≤ 4) (hk : ¬ kdX t x = 0) (k : ∀ M', ST M0 M' t (advX t x) (L ++ [30]) → M'.1 253 (d + 1) = 1 → M'.1 254 (d + 1) = 0 → (∀ k, k ≤ d → M'.1 253 k = M.1 253 k ∧ M'.1 254 k = M.1 254 k) → Ev G 3 mX11_reads 11 [.ref 238, .int (nI (d + 1)), .int 1, .int 0, .int 1, .int 0] [] M' Q) : Ev G 3 mX11_reads 65 [.ref 238, .int (nI d), .int 1, .int 0, .int 1, .int 0] [] M (Q) := by
  have hG := hS.1.2.1
  obtain ⟨hx0, hx2, hI, hZ, g4, g5, g6, g7, g8⟩ := id hG
  have hcd := hS.1.2.2.1
  have hlt := hS.lt hk
  refine e_iload_n dX11_reads_65 rfl ?_
  refine e_iconst (v := 5) dX11_reads_66 (by decide) ?_
  refine e_icmp_ne (tgt := 76) dX11_reads_67 (by decide) (fun c67 => ?_) (fun c67 => absurd c67 (fun q => by have := nI_injN (a := d) (b := 5) (by omega) (by omega) q; omega))
  refine e_iload dX11_reads_76 rfl ?_
  refine e_if_ne (tgt := 86) dX11_reads_78 (by decide) (fun c78 => ?_) (fun c78 => absurd c78 (by decide))
  refine e_aload_n dX11_reads_86 rfl ?_
  refine e_iload dX11_reads_87 rfl ?_
  refine e_if_eq (tgt := 97) dX11_reads_89 (by decide) (fun c89 => absurd c89 (by decide)) (fun c89 => ?_)
  refine e_bipush (v := 30) dX11_reads_92 (by decide) ?_
  refine e_goto (tgt := 99) dX11_reads_94 (by decide) ?_
  refine cV1v dX11_reads_99 mo_X11_puts ml_X11_220 sh_m rfl (Nat.le_of_ble_eq_true rfl) (by omega) (r_puts (n := 1000 + L.length) hcd (by omega)) ?_
  have hP := hS.put (c := 30) hk
  refine e_iinc (ls' := [_, _, _, _, _, _]) dX11_reads_102 rfl (nI_i1 _) (by decide) rfl ?_
  refine e_aload_n dX11_reads_105 rfl ?_
  refine e_getR dX11_reads_106 fl_X11_53 sh_m rfl ?_
  refine e_iload_n dX11_reads_109 rfl ?_
  refine e_iload dX11_reads_110 rfl ?_
  refine e_if_eq (tgt := 119) dX11_reads_112 (by decide) (fun c112 => absurd c112 (by decide)) (fun c112 => ?_)
  refine e_iconst (v := 1) dX11_reads_115 (by decide) ?_
  refine e_goto (tgt := 120) dX11_reads_116 (by decide) ?_
  refine e_iastN (j := (d + 1)) dX11_reads_120 (sa_m_opened) (by decide) (by omega) ?_
  have hP := hP.s (c := 253) (k := d + 1) (v := 1) (by decide)
  refine e_aload_n dX11_reads_121 rfl ?_
  refine e_getR dX11_reads_122 fl_X11_56 sh_m rfl ?_
  refine e_iload_n dX11_reads_125 rfl ?_
  refine e_iconst (v := 0) dX11_reads_126 (by decide) ?_
  refine e_zastN (j := (d + 1)) dX11_reads_127 (sa_m_compared) (by decide) (by omega) ?_
  have hP := hP.s (c := 254) (k := d + 1) (v := vp_nar .boolean 0) (by decide)
  refine e_goto (tgt := 172) dX11_reads_128 (by decide) ?_
  refine e_aload_n dX11_reads_172 rfl ?_
  refine cV0x dX11_reads_173 mo_X11_nextToken ml_X11_224 sh_m rfl (Nat.le_of_ble_eq_true rfl) (by omega) (c_nt hP.1.2.1 OF.rfl' rfl) ?_
  rintro r M2 ⟨rfl, hN, hG2⟩
  dsimp only [Option.toList, List.cons_append, List.nil_append]
  refine e_goto (tgt := 11) dX11_reads_176 (by decide) ?_
  refine k M2 (hP.next hN hG2) (by rw [hN.1 253 (by decide), setI_n (by decide), setI_p]) (by rw [hN.1 254 (by decide), setI_p]; rfl) (fun z hz => ⟨by rw [hN.1 253 (by decide), setI_n (by decide), setI_1, if_neg (by omega), setI_n (by decide), setI_n (by decide)], by rw [hN.1 254 (by decide), setI_1, if_neg (by omega), setI_n (by decide), setI_n (by decide), setI_n (by decide)]⟩)
set_option maxHeartbeats 500000 in
set_option maxRecDepth 20000 in
theorem h_o {G : Gt} {M0 M : Mm} {t : Tv} {x : Xv} {L : List Int32} {Q : Option Value → Mm → Prop} {d : Nat} (hS : ST M0 M t x L) (hd : d ≤ 4) (hk : ¬ kdX t x = 0) (k : ∀ M', ST M0 M' t (advX t x) (L ++ [28]) → M'.1 253 (d + 1) = 2 → M'.1 254 (d + 1) = 0 → (∀ k, k ≤ d → M'.1 253 k = M.1 253 k ∧ M'.1 254 k = M.1 254 k) → Ev G 3 mX11_reads 11 [.ref 238, .int (nI (d + 1)), .int 1, .int 0, .int 0, .int 1] [] M' Q) : Ev G 3 mX11_reads 65 [.ref 238, .int (nI d), .int 1, .int 0, .int 0, .int 1] [] M (Q) := by
  have hG := hS.1.2.1
  obtain ⟨hx0, hx2, hI, hZ, g4, g5, g6, g7, g8⟩ := id hG
  have hcd := hS.1.2.2.1
  have hlt := hS.lt hk
  refine e_iload_n dX11_reads_65 rfl ?_
  refine e_iconst (v := 5) dX11_reads_66 (by decide) ?_
  refine e_icmp_ne (tgt := 76) dX11_reads_67 (by decide) (fun c67 => ?_) (fun c67 => absurd c67 (fun q => by have := nI_injN (a := d) (b := 5) (by omega) (by omega) q; omega))
  refine e_iload dX11_reads_76 rfl ?_
  refine e_if_ne (tgt := 86) dX11_reads_78 (by decide) (fun c78 => absurd c78 (by decide)) (fun c78 => ?_)
  refine e_iload dX11_reads_81 rfl ?_
  refine e_if_eq (tgt := 131) dX11_reads_83 (by decide) (fun c83 => absurd c83 (by decide)) (fun c83 => ?_)
  refine e_aload_n dX11_reads_86 rfl ?_
  refine e_iload dX11_reads_87 rfl ?_
  refine e_if_eq (tgt := 97) dX11_reads_89 (by decide) (fun c89 => ?_) (fun c89 => absurd c89 (by decide))
  refine e_bipush (v := 28) dX11_reads_97 (by decide) ?_
  refine cV1v dX11_reads_99 mo_X11_puts ml_X11_220 sh_m rfl (Nat.le_of_ble_eq_true rfl) (by omega) (r_puts (n := 1000 + L.length) hcd (by omega)) ?_
  have hP := hS.put (c := 28) hk
  refine e_iinc (ls' := [_, _, _, _, _, _]) dX11_reads_102 rfl (nI_i1 _) (by decide) rfl ?_
  refine e_aload_n dX11_reads_105 rfl ?_
  refine e_getR dX11_reads_106 fl_X11_53 sh_m rfl ?_
  refine e_iload_n dX11_reads_109 rfl ?_
  refine e_iload dX11_reads_110 rfl ?_
  refine e_if_eq (tgt := 119) dX11_reads_112 (by decide) (fun c112 => ?_) (fun c112 => absurd c112 (by decide))
  refine e_iconst (v := 2) dX11_reads_119 (by decide) ?_
  refine e_iastN (j := (d + 1)) dX11_reads_120 (sa_m_opened) (by decide) (by omega) ?_
  have hP := hP.s (c := 253) (k := d + 1) (v := 2) (by decide)
  refine e_aload_n dX11_reads_121 rfl ?_
  refine e_getR dX11_reads_122 fl_X11_56 sh_m rfl ?_
  refine e_iload_n dX11_reads_125 rfl ?_
  refine e_iconst (v := 0) dX11_reads_126 (by decide) ?_
  refine e_zastN (j := (d + 1)) dX11_reads_127 (sa_m_compared) (by decide) (by omega) ?_
  have hP := hP.s (c := 254) (k := d + 1) (v := vp_nar .boolean 0) (by decide)
  refine e_goto (tgt := 172) dX11_reads_128 (by decide) ?_
  refine e_aload_n dX11_reads_172 rfl ?_
  refine cV0x dX11_reads_173 mo_X11_nextToken ml_X11_224 sh_m rfl (Nat.le_of_ble_eq_true rfl) (by omega) (c_nt hP.1.2.1 OF.rfl' rfl) ?_
  rintro r M2 ⟨rfl, hN, hG2⟩
  dsimp only [Option.toList, List.cons_append, List.nil_append]
  refine e_goto (tgt := 11) dX11_reads_176 (by decide) ?_
  refine k M2 (hP.next hN hG2) (by rw [hN.1 253 (by decide), setI_n (by decide), setI_p]) (by rw [hN.1 254 (by decide), setI_p]; rfl) (fun z hz => ⟨by rw [hN.1 253 (by decide), setI_n (by decide), setI_1, if_neg (by omega), setI_n (by decide), setI_n (by decide)], by rw [hN.1 254 (by decide), setI_1, if_neg (by omega), setI_n (by decide), setI_n (by decide), setI_n (by decide)]⟩)
set_option maxHeartbeats 500000 in
set_option maxRecDepth 20000 in
theorem h_f {G : Gt} {M0 M : Mm} {t : Tv} {x : Xv} {L : List Int32} {Q : Option Value → Mm → Prop} {d : Nat} (hS : ST M0 M t x L) (hd : d ≤ 4) (F : 0 < fcX t x) (hk : ¬ kdX t x = 0) (k : ∀ M', SP M0 M' t x (L ++ [fcX t x]) → M'.1 253 = M.1 253 → M'.1 254 = M.1 254 → Ev G 3 mX11_reads 152 [.ref 238, .int (nI d), .int 0, .int (fcX t x), .int 0, .int 0] [] M' Q) : Ev G 3 mX11_reads 65 [.ref 238, .int (nI d), .int 1, .int (fcX t x), .int 0, .int 0] [] M (Q) := by
  have hG := hS.1.2.1
  obtain ⟨hx0, hx2, hI, hZ, g4, g5, g6, g7, g8⟩ := id hG
  have hcd := hS.1.2.2.1
  have hlt := hS.lt hk
  refine e_iload_n dX11_reads_65 rfl ?_
  refine e_iconst (v := 5) dX11_reads_66 (by decide) ?_
  refine e_icmp_ne (tgt := 76) dX11_reads_67 (by decide) (fun c67 => ?_) (fun c67 => absurd c67 (fun q => by have := nI_injN (a := d) (b := 5) (by omega) (by omega) q; omega))
  refine e_iload dX11_reads_76 rfl ?_
  refine e_if_ne (tgt := 86) dX11_reads_78 (by decide) (fun c78 => absurd c78 (by decide)) (fun c78 => ?_)
  refine e_iload dX11_reads_81 rfl ?_
  refine e_if_eq (tgt := 131) dX11_reads_83 (by decide) (fun c83 => ?_) (fun c83 => absurd c83 (by decide))
  refine e_aload_n dX11_reads_131 rfl ?_
  refine e_iload_n dX11_reads_132 rfl ?_
  refine e_if_le (tgt := 140) dX11_reads_133 (by decide) (fun c133 => absurd c133 (fun q => q F)) (fun c133 => ?_)
  refine e_iload_n dX11_reads_136 rfl ?_
  refine e_goto (tgt := 147) dX11_reads_137 (by decide) ?_
  refine cV1v dX11_reads_147 mo_X11_puts ml_X11_220 sh_m rfl (Nat.le_of_ble_eq_true rfl) (by omega) (r_puts (n := 1000 + L.length) hcd (by omega)) ?_
  have hP := hS.put (c := fcX t x) hk
  refine e_iconst (v := 0) dX11_reads_150 (by decide) ?_
  refine e_istore_n (ls' := [_, _, _, _, _, _]) dX11_reads_151 (by decide) rfl ?_
  exact k _ hP (by funext z; rw [setI_n (by decide), setI_n (by decide)]) (by funext z; rw [setI_n (by decide), setI_n (by decide)])
set_option maxHeartbeats 500000 in
set_option maxRecDepth 20000 in
theorem h_m {G : Gt} {M0 M : Mm} {t : Tv} {x : Xv} {L : List Int32} {Q : Option Value → Mm → Prop} {d : Nat} (hS : ST M0 M t x L) (hd : d ≤ 4) (hm : kdX t x = 3) (hk : ¬ kdX t x = 0) (k : ∀ M', SP M0 M' t x (L ++ [100 + nmX t x]) → M'.1 253 = M.1 253 → M'.1 254 = M.1 254 → Ev G 3 mX11_reads 152 [.ref 238, .int (nI d), .int 0, .int 0, .int 0, .int 0] [] M' Q) : Ev G 3 mX11_reads 65 [.ref 238, .int (nI d), .int 1, .int 0, .int 0, .int 0] [] M (Q) := by
  have hG := hS.1.2.1
  obtain ⟨hx0, hx2, hI, hZ, g4, g5, g6, g7, g8⟩ := id hG
  have hcd := hS.1.2.2.1
  have hlt := hS.lt hk
  refine e_iload_n dX11_reads_65 rfl ?_
  refine e_iconst (v := 5) dX11_reads_66 (by decide) ?_
  refine e_icmp_ne (tgt := 76) dX11_reads_67 (by decide) (fun c67 => ?_) (fun c67 => absurd c67 (fun q => by have := nI_injN (a := d) (b := 5) (by omega) (by omega) q; omega))
  refine e_iload dX11_reads_76 rfl ?_
  refine e_if_ne (tgt := 86) dX11_reads_78 (by decide) (fun c78 => absurd c78 (by decide)) (fun c78 => ?_)
  refine e_iload dX11_reads_81 rfl ?_
  refine e_if_eq (tgt := 131) dX11_reads_83 (by decide) (fun c83 => ?_) (fun c83 => absurd c83 (by decide))
  refine e_aload_n dX11_reads_131 rfl ?_
  refine e_iload_n dX11_reads_132 rfl ?_
  refine e_if_le (tgt := 140) dX11_reads_133 (by decide) (fun c133 => ?_) (fun c133 => absurd c133 (by decide))
  refine e_bipush (v := 100) dX11_reads_140 (by decide) ?_
  refine e_aload_n dX11_reads_142 rfl ?_
  refine e_getI dX11_reads_143 fl_X11_175 sh_m rfl ?_
  rw [g8 hm]
  refine e_iadd dX11_reads_146 ?_
  refine cV1v dX11_reads_147 mo_X11_puts ml_X11_220 sh_m rfl (Nat.le_of_ble_eq_true rfl) (by omega) (r_puts (n := 1000 + L.length) hcd (by omega)) ?_
  have hP := hS.put (c := 100 + nmX t x) hk
  refine e_iconst (v := 0) dX11_reads_150 (by decide) ?_
  refine e_istore_n (ls' := [_, _, _, _, _, _]) dX11_reads_151 (by decide) rfl ?_
  exact k _ hP (by funext z; rw [setI_n (by decide), setI_n (by decide)]) (by funext z; rw [setI_n (by decide), setI_n (by decide)])
end RRE
