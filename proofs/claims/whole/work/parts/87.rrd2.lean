section RRE
set_option maxHeartbeats 500000 in
set_option maxRecDepth 20000 in
theorem j_add {G : Gt} {M0 M : Mm} {t : Tv} {x : Xv} {L : List Int32} {Q : Option Value → Mm → Prop} {d : Nat} {u3 u4 u5 : Value} (hS : ST M0 M t x L) (hd : d ≤ 5) (S43 : isS t x 43) (k : ∀ M', ST M0 M' t (advX t x) (L ++ [20]) → M'.1 253 = M.1 253 → (∀ k, ¬ k = d → M'.1 254 k = M.1 254 k) → M'.1 254 d = M.1 254 d → Ev G 3 mX11_reads 11 [.ref 238, .int (nI d), .int 1, u3, u4, u5] [] M' Q) : Ev G 3 mX11_reads 11 [.ref 238, .int (nI d), .int 0, u3, u4, u5] [] M (Q) := by
  have hG := hS.1.2.1
  obtain ⟨hx0, hx2, hI, hZ, g4, g5, g6, g7, g8⟩ := id hG
  have hcd := hS.1.2.2.1
  have S40 : ¬ isS t x 40 := fun q => absurd (S43.2.2.symm.trans q.2.2) (by decide)
  have S41 : ¬ isS t x 41 := fun q => absurd (S43.2.2.symm.trans q.2.2) (by decide)
  have S42 : ¬ isS t x 42 := fun q => absurd (S43.2.2.symm.trans q.2.2) (by decide)
  have S45 : ¬ isS t x 45 := fun q => absurd (S43.2.2.symm.trans q.2.2) (by decide)
  have S59 : ¬ isS t x 59 := fun q => absurd (S43.2.2.symm.trans q.2.2) (by decide)
  have S60 : ¬ isS t x 60 := fun q => absurd (S43.2.2.symm.trans q.2.2) (by decide)
  have S61 : ¬ isS t x 61 := fun q => absurd (S43.2.2.symm.trans q.2.2) (by decide)
  have W18 : ¬ isW t x 18 := fun q => absurd (S43.2.1.symm.trans q.2.1) (by decide)
  have W19 : ¬ isW t x 19 := fun q => absurd (S43.2.1.symm.trans q.2.1) (by decide)
  have W20 : ¬ isW t x 20 := fun q => absurd (S43.2.1.symm.trans q.2.1) (by decide)
  have hk : ¬ kdX t x = 0 := by rw [S43.2.1]; decide
  have hlt := hS.lt hk
  refine e_iload_n dX11_reads_11 rfl ?_
  refine e_if_eq (tgt := 179) dX11_reads_12 (by decide) (fun c12 => ?_) (fun c12 => absurd c12 (fun q => q rfl))
  refine e_aload_n dX11_reads_179 rfl ?_
  refine e_bipush (v := 43) dX11_reads_180 (by decide) ?_
  refine cV1r dX11_reads_182 mo_X11_isSign ml_X11_213 sh_m rfl (Nat.le_of_ble_eq_true rfl) (by omega) (r_isSign hG (s := 43)) ?_
  rw [b2i_t S43]
  refine e_if_ne (tgt := 206) dX11_reads_185 (by decide) (fun c185 => ?_) (fun c185 => absurd c185 (by decide))
  refine e_aload_n dX11_reads_206 rfl ?_
  refine e_aload_n dX11_reads_207 rfl ?_
  refine e_bipush (v := 43) dX11_reads_208 (by decide) ?_
  refine cV1r dX11_reads_210 mo_X11_isSign ml_X11_213 sh_m rfl (Nat.le_of_ble_eq_true rfl) (by omega) (r_isSign hG (s := 43)) ?_
  rw [b2i_t S43]
  refine e_if_eq (tgt := 221) dX11_reads_213 (by decide) (fun c213 => absurd c213 (by decide)) (fun c213 => ?_)
  refine e_bipush (v := 20) dX11_reads_216 (by decide) ?_
  refine e_goto (tgt := 237) dX11_reads_218 (by decide) ?_
  refine cV1v dX11_reads_237 mo_X11_puts ml_X11_220 sh_m rfl (Nat.le_of_ble_eq_true rfl) (by omega) (r_puts (n := 1000 + L.length) hcd (by omega)) ?_
  have hP := hS.put (c := 20) hk
  refine e_iconst (v := 1) dX11_reads_240 (by decide) ?_
  refine e_istore_n (ls' := [_, _, _, _, _, _]) dX11_reads_241 (by decide) rfl ?_
  refine e_goto (tgt := 424) dX11_reads_242 (by decide) ?_
  refine e_aload_n dX11_reads_424 rfl ?_
  refine cV0x dX11_reads_425 mo_X11_nextToken ml_X11_224 sh_m rfl (Nat.le_of_ble_eq_true rfl) (by omega) (c_nt hP.1.2.1 OF.rfl' rfl) ?_
  rintro r M2 ⟨rfl, hN, hG2⟩
  dsimp only [Option.toList, List.cons_append, List.nil_append]
  refine e_goto (tgt := 11) dX11_reads_428 (by decide) ?_
  refine k M2 (hP.next hN hG2) (by rw [hN.1 253 (by decide)]; funext z; rw [setI_n (by decide), setI_n (by decide)]) (fun z _ => by rw [hN.1 254 (by decide), setI_n (by decide), setI_n (by decide)]) (by rw [hN.1 254 (by decide), setI_n (by decide), setI_n (by decide)])
set_option maxHeartbeats 500000 in
set_option maxRecDepth 20000 in
theorem j_sub {G : Gt} {M0 M : Mm} {t : Tv} {x : Xv} {L : List Int32} {Q : Option Value → Mm → Prop} {d : Nat} {u3 u4 u5 : Value} (hS : ST M0 M t x L) (hd : d ≤ 5) (S45 : isS t x 45) (k : ∀ M', ST M0 M' t (advX t x) (L ++ [21]) → M'.1 253 = M.1 253 → (∀ k, ¬ k = d → M'.1 254 k = M.1 254 k) → M'.1 254 d = M.1 254 d → Ev G 3 mX11_reads 11 [.ref 238, .int (nI d), .int 1, u3, u4, u5] [] M' Q) : Ev G 3 mX11_reads 11 [.ref 238, .int (nI d), .int 0, u3, u4, u5] [] M (Q) := by
  have hG := hS.1.2.1
  obtain ⟨hx0, hx2, hI, hZ, g4, g5, g6, g7, g8⟩ := id hG
  have hcd := hS.1.2.2.1
  have S40 : ¬ isS t x 40 := fun q => absurd (S45.2.2.symm.trans q.2.2) (by decide)
  have S41 : ¬ isS t x 41 := fun q => absurd (S45.2.2.symm.trans q.2.2) (by decide)
  have S42 : ¬ isS t x 42 := fun q => absurd (S45.2.2.symm.trans q.2.2) (by decide)
  have S43 : ¬ isS t x 43 := fun q => absurd (S45.2.2.symm.trans q.2.2) (by decide)
  have S59 : ¬ isS t x 59 := fun q => absurd (S45.2.2.symm.trans q.2.2) (by decide)
  have S60 : ¬ isS t x 60 := fun q => absurd (S45.2.2.symm.trans q.2.2) (by decide)
  have S61 : ¬ isS t x 61 := fun q => absurd (S45.2.2.symm.trans q.2.2) (by decide)
  have W18 : ¬ isW t x 18 := fun q => absurd (S45.2.1.symm.trans q.2.1) (by decide)
  have W19 : ¬ isW t x 19 := fun q => absurd (S45.2.1.symm.trans q.2.1) (by decide)
  have W20 : ¬ isW t x 20 := fun q => absurd (S45.2.1.symm.trans q.2.1) (by decide)
  have hk : ¬ kdX t x = 0 := by rw [S45.2.1]; decide
  have hlt := hS.lt hk
  refine e_iload_n dX11_reads_11 rfl ?_
  refine e_if_eq (tgt := 179) dX11_reads_12 (by decide) (fun c12 => ?_) (fun c12 => absurd c12 (fun q => q rfl))
  refine e_aload_n dX11_reads_179 rfl ?_
  refine e_bipush (v := 43) dX11_reads_180 (by decide) ?_
  refine cV1r dX11_reads_182 mo_X11_isSign ml_X11_213 sh_m rfl (Nat.le_of_ble_eq_true rfl) (by omega) (r_isSign hG (s := 43)) ?_
  rw [b2i_f S43]
  refine e_if_ne (tgt := 206) dX11_reads_185 (by decide) (fun c185 => absurd c185 (by decide)) (fun c185 => ?_)
  refine e_aload_n dX11_reads_188 rfl ?_
  refine e_bipush (v := 45) dX11_reads_189 (by decide) ?_
  refine cV1r dX11_reads_191 mo_X11_isSign ml_X11_213 sh_m rfl (Nat.le_of_ble_eq_true rfl) (by omega) (r_isSign hG (s := 45)) ?_
  rw [b2i_t S45]
  refine e_if_ne (tgt := 206) dX11_reads_194 (by decide) (fun c194 => ?_) (fun c194 => absurd c194 (by decide))
  refine e_aload_n dX11_reads_206 rfl ?_
  refine e_aload_n dX11_reads_207 rfl ?_
  refine e_bipush (v := 43) dX11_reads_208 (by decide) ?_
  refine cV1r dX11_reads_210 mo_X11_isSign ml_X11_213 sh_m rfl (Nat.le_of_ble_eq_true rfl) (by omega) (r_isSign hG (s := 43)) ?_
  rw [b2i_f S43]
  refine e_if_eq (tgt := 221) dX11_reads_213 (by decide) (fun c213 => ?_) (fun c213 => absurd c213 (by decide))
  refine e_aload_n dX11_reads_221 rfl ?_
  refine e_bipush (v := 45) dX11_reads_222 (by decide) ?_
  refine cV1r dX11_reads_224 mo_X11_isSign ml_X11_213 sh_m rfl (Nat.le_of_ble_eq_true rfl) (by omega) (r_isSign hG (s := 45)) ?_
  rw [b2i_t S45]
  refine e_if_eq (tgt := 235) dX11_reads_227 (by decide) (fun c227 => absurd c227 (by decide)) (fun c227 => ?_)
  refine e_bipush (v := 21) dX11_reads_230 (by decide) ?_
  refine e_goto (tgt := 237) dX11_reads_232 (by decide) ?_
  refine cV1v dX11_reads_237 mo_X11_puts ml_X11_220 sh_m rfl (Nat.le_of_ble_eq_true rfl) (by omega) (r_puts (n := 1000 + L.length) hcd (by omega)) ?_
  have hP := hS.put (c := 21) hk
  refine e_iconst (v := 1) dX11_reads_240 (by decide) ?_
  refine e_istore_n (ls' := [_, _, _, _, _, _]) dX11_reads_241 (by decide) rfl ?_
  refine e_goto (tgt := 424) dX11_reads_242 (by decide) ?_
  refine e_aload_n dX11_reads_424 rfl ?_
  refine cV0x dX11_reads_425 mo_X11_nextToken ml_X11_224 sh_m rfl (Nat.le_of_ble_eq_true rfl) (by omega) (c_nt hP.1.2.1 OF.rfl' rfl) ?_
  rintro r M2 ⟨rfl, hN, hG2⟩
  dsimp only [Option.toList, List.cons_append, List.nil_append]
  refine e_goto (tgt := 11) dX11_reads_428 (by decide) ?_
  refine k M2 (hP.next hN hG2) (by rw [hN.1 253 (by decide)]; funext z; rw [setI_n (by decide), setI_n (by decide)]) (fun z _ => by rw [hN.1 254 (by decide), setI_n (by decide), setI_n (by decide)]) (by rw [hN.1 254 (by decide), setI_n (by decide), setI_n (by decide)])
set_option maxHeartbeats 500000 in
set_option maxRecDepth 20000 in
theorem j_mul {G : Gt} {M0 M : Mm} {t : Tv} {x : Xv} {L : List Int32} {Q : Option Value → Mm → Prop} {d : Nat} {u3 u4 u5 : Value} (hS : ST M0 M t x L) (hd : d ≤ 5) (S42 : isS t x 42) (k : ∀ M', ST M0 M' t (advX t x) (L ++ [22]) → M'.1 253 = M.1 253 → (∀ k, ¬ k = d → M'.1 254 k = M.1 254 k) → M'.1 254 d = M.1 254 d → Ev G 3 mX11_reads 11 [.ref 238, .int (nI d), .int 1, u3, u4, u5] [] M' Q) : Ev G 3 mX11_reads 11 [.ref 238, .int (nI d), .int 0, u3, u4, u5] [] M (Q) := by
  have hG := hS.1.2.1
  obtain ⟨hx0, hx2, hI, hZ, g4, g5, g6, g7, g8⟩ := id hG
  have hcd := hS.1.2.2.1
  have S40 : ¬ isS t x 40 := fun q => absurd (S42.2.2.symm.trans q.2.2) (by decide)
  have S41 : ¬ isS t x 41 := fun q => absurd (S42.2.2.symm.trans q.2.2) (by decide)
  have S43 : ¬ isS t x 43 := fun q => absurd (S42.2.2.symm.trans q.2.2) (by decide)
  have S45 : ¬ isS t x 45 := fun q => absurd (S42.2.2.symm.trans q.2.2) (by decide)
  have S59 : ¬ isS t x 59 := fun q => absurd (S42.2.2.symm.trans q.2.2) (by decide)
  have S60 : ¬ isS t x 60 := fun q => absurd (S42.2.2.symm.trans q.2.2) (by decide)
  have S61 : ¬ isS t x 61 := fun q => absurd (S42.2.2.symm.trans q.2.2) (by decide)
  have W18 : ¬ isW t x 18 := fun q => absurd (S42.2.1.symm.trans q.2.1) (by decide)
  have W19 : ¬ isW t x 19 := fun q => absurd (S42.2.1.symm.trans q.2.1) (by decide)
  have W20 : ¬ isW t x 20 := fun q => absurd (S42.2.1.symm.trans q.2.1) (by decide)
  have hk : ¬ kdX t x = 0 := by rw [S42.2.1]; decide
  have hlt := hS.lt hk
  refine e_iload_n dX11_reads_11 rfl ?_
  refine e_if_eq (tgt := 179) dX11_reads_12 (by decide) (fun c12 => ?_) (fun c12 => absurd c12 (fun q => q rfl))
  refine e_aload_n dX11_reads_179 rfl ?_
  refine e_bipush (v := 43) dX11_reads_180 (by decide) ?_
  refine cV1r dX11_reads_182 mo_X11_isSign ml_X11_213 sh_m rfl (Nat.le_of_ble_eq_true rfl) (by omega) (r_isSign hG (s := 43)) ?_
  rw [b2i_f S43]
  refine e_if_ne (tgt := 206) dX11_reads_185 (by decide) (fun c185 => absurd c185 (by decide)) (fun c185 => ?_)
  refine e_aload_n dX11_reads_188 rfl ?_
  refine e_bipush (v := 45) dX11_reads_189 (by decide) ?_
  refine cV1r dX11_reads_191 mo_X11_isSign ml_X11_213 sh_m rfl (Nat.le_of_ble_eq_true rfl) (by omega) (r_isSign hG (s := 45)) ?_
  rw [b2i_f S45]
  refine e_if_ne (tgt := 206) dX11_reads_194 (by decide) (fun c194 => absurd c194 (by decide)) (fun c194 => ?_)
  refine e_aload_n dX11_reads_197 rfl ?_
  refine e_bipush (v := 42) dX11_reads_198 (by decide) ?_
  refine cV1r dX11_reads_200 mo_X11_isSign ml_X11_213 sh_m rfl (Nat.le_of_ble_eq_true rfl) (by omega) (r_isSign hG (s := 42)) ?_
  rw [b2i_t S42]
  refine e_if_eq (tgt := 245) dX11_reads_203 (by decide) (fun c203 => absurd c203 (by decide)) (fun c203 => ?_)
  refine e_aload_n dX11_reads_206 rfl ?_
  refine e_aload_n dX11_reads_207 rfl ?_
  refine e_bipush (v := 43) dX11_reads_208 (by decide) ?_
  refine cV1r dX11_reads_210 mo_X11_isSign ml_X11_213 sh_m rfl (Nat.le_of_ble_eq_true rfl) (by omega) (r_isSign hG (s := 43)) ?_
  rw [b2i_f S43]
  refine e_if_eq (tgt := 221) dX11_reads_213 (by decide) (fun c213 => ?_) (fun c213 => absurd c213 (by decide))
  refine e_aload_n dX11_reads_221 rfl ?_
  refine e_bipush (v := 45) dX11_reads_222 (by decide) ?_
  refine cV1r dX11_reads_224 mo_X11_isSign ml_X11_213 sh_m rfl (Nat.le_of_ble_eq_true rfl) (by omega) (r_isSign hG (s := 45)) ?_
  rw [b2i_f S45]
  refine e_if_eq (tgt := 235) dX11_reads_227 (by decide) (fun c227 => ?_) (fun c227 => absurd c227 (by decide))
  refine e_bipush (v := 22) dX11_reads_235 (by decide) ?_
  refine cV1v dX11_reads_237 mo_X11_puts ml_X11_220 sh_m rfl (Nat.le_of_ble_eq_true rfl) (by omega) (r_puts (n := 1000 + L.length) hcd (by omega)) ?_
  have hP := hS.put (c := 22) hk
  refine e_iconst (v := 1) dX11_reads_240 (by decide) ?_
  refine e_istore_n (ls' := [_, _, _, _, _, _]) dX11_reads_241 (by decide) rfl ?_
  refine e_goto (tgt := 424) dX11_reads_242 (by decide) ?_
  refine e_aload_n dX11_reads_424 rfl ?_
  refine cV0x dX11_reads_425 mo_X11_nextToken ml_X11_224 sh_m rfl (Nat.le_of_ble_eq_true rfl) (by omega) (c_nt hP.1.2.1 OF.rfl' rfl) ?_
  rintro r M2 ⟨rfl, hN, hG2⟩
  dsimp only [Option.toList, List.cons_append, List.nil_append]
  refine e_goto (tgt := 11) dX11_reads_428 (by decide) ?_
  refine k M2 (hP.next hN hG2) (by rw [hN.1 253 (by decide)]; funext z; rw [setI_n (by decide), setI_n (by decide)]) (fun z _ => by rw [hN.1 254 (by decide), setI_n (by decide), setI_n (by decide)]) (by rw [hN.1 254 (by decide), setI_n (by decide), setI_n (by decide)])
set_option maxHeartbeats 500000 in
set_option maxRecDepth 20000 in
theorem j_lt {G : Gt} {M0 M : Mm} {t : Tv} {x : Xv} {L : List Int32} {Q : Option Value → Mm → Prop} {d : Nat} {u3 u4 u5 : Value} (hS : ST M0 M t x L) (hd : d ≤ 5) (S60 : isS t x 60) (hc0 : M.1 254 d = 0) (k : ∀ M', ST M0 M' t (advX t x) (L ++ [24]) → M'.1 253 = M.1 253 → (∀ k, ¬ k = d → M'.1 254 k = M.1 254 k) → M'.1 254 d = 1 → Ev G 3 mX11_reads 11 [.ref 238, .int (nI d), .int 1, u3, u4, u5] [] M' Q) : Ev G 3 mX11_reads 11 [.ref 238, .int (nI d), .int 0, u3, u4, u5] [] M (Q) := by
  have hG := hS.1.2.1
  obtain ⟨hx0, hx2, hI, hZ, g4, g5, g6, g7, g8⟩ := id hG
  have hcd := hS.1.2.2.1
  have S40 : ¬ isS t x 40 := fun q => absurd (S60.2.2.symm.trans q.2.2) (by decide)
  have S41 : ¬ isS t x 41 := fun q => absurd (S60.2.2.symm.trans q.2.2) (by decide)
  have S42 : ¬ isS t x 42 := fun q => absurd (S60.2.2.symm.trans q.2.2) (by decide)
  have S43 : ¬ isS t x 43 := fun q => absurd (S60.2.2.symm.trans q.2.2) (by decide)
  have S45 : ¬ isS t x 45 := fun q => absurd (S60.2.2.symm.trans q.2.2) (by decide)
  have S59 : ¬ isS t x 59 := fun q => absurd (S60.2.2.symm.trans q.2.2) (by decide)
  have S61 : ¬ isS t x 61 := fun q => absurd (S60.2.2.symm.trans q.2.2) (by decide)
  have W18 : ¬ isW t x 18 := fun q => absurd (S60.2.1.symm.trans q.2.1) (by decide)
  have W19 : ¬ isW t x 19 := fun q => absurd (S60.2.1.symm.trans q.2.1) (by decide)
  have W20 : ¬ isW t x 20 := fun q => absurd (S60.2.1.symm.trans q.2.1) (by decide)
  have hk : ¬ kdX t x = 0 := by rw [S60.2.1]; decide
  have hlt := hS.lt hk
  refine e_iload_n dX11_reads_11 rfl ?_
  refine e_if_eq (tgt := 179) dX11_reads_12 (by decide) (fun c12 => ?_) (fun c12 => absurd c12 (fun q => q rfl))
  refine e_aload_n dX11_reads_179 rfl ?_
  refine e_bipush (v := 43) dX11_reads_180 (by decide) ?_
  refine cV1r dX11_reads_182 mo_X11_isSign ml_X11_213 sh_m rfl (Nat.le_of_ble_eq_true rfl) (by omega) (r_isSign hG (s := 43)) ?_
  rw [b2i_f S43]
  refine e_if_ne (tgt := 206) dX11_reads_185 (by decide) (fun c185 => absurd c185 (by decide)) (fun c185 => ?_)
  refine e_aload_n dX11_reads_188 rfl ?_
  refine e_bipush (v := 45) dX11_reads_189 (by decide) ?_
  refine cV1r dX11_reads_191 mo_X11_isSign ml_X11_213 sh_m rfl (Nat.le_of_ble_eq_true rfl) (by omega) (r_isSign hG (s := 45)) ?_
  rw [b2i_f S45]
  refine e_if_ne (tgt := 206) dX11_reads_194 (by decide) (fun c194 => absurd c194 (by decide)) (fun c194 => ?_)
  refine e_aload_n dX11_reads_197 rfl ?_
  refine e_bipush (v := 42) dX11_reads_198 (by decide) ?_
  refine cV1r dX11_reads_200 mo_X11_isSign ml_X11_213 sh_m rfl (Nat.le_of_ble_eq_true rfl) (by omega) (r_isSign hG (s := 42)) ?_
  rw [b2i_f S42]
  refine e_if_eq (tgt := 245) dX11_reads_203 (by decide) (fun c203 => ?_) (fun c203 => absurd c203 (by decide))
  refine e_aload_n dX11_reads_245 rfl ?_
  refine e_bipush (v := 60) dX11_reads_246 (by decide) ?_
  refine cV1r dX11_reads_248 mo_X11_isSign ml_X11_213 sh_m rfl (Nat.le_of_ble_eq_true rfl) (by omega) (r_isSign hG (s := 60)) ?_
  rw [b2i_t S60]
  refine e_if_ne (tgt := 263) dX11_reads_251 (by decide) (fun c251 => ?_) (fun c251 => absurd c251 (by decide))
  refine e_aload_n dX11_reads_263 rfl ?_
  refine e_getR dX11_reads_264 fl_X11_56 sh_m rfl ?_
  refine e_iload_n dX11_reads_267 rfl ?_
  refine e_zaldN (j := d) dX11_reads_268 (sa_m_compared) (by decide) (by omega) ?_
  rw [hc0]
  refine e_if_ne (tgt := 304) dX11_reads_269 (by decide) (fun c269 => absurd c269 (by decide)) (fun c269 => ?_)
  refine e_aload_n dX11_reads_272 rfl ?_
  refine e_aload_n dX11_reads_273 rfl ?_
  refine e_bipush (v := 60) dX11_reads_274 (by decide) ?_
  refine cV1r dX11_reads_276 mo_X11_isSign ml_X11_213 sh_m rfl (Nat.le_of_ble_eq_true rfl) (by omega) (r_isSign hG (s := 60)) ?_
  rw [b2i_t S60]
  refine e_if_eq (tgt := 287) dX11_reads_279 (by decide) (fun c279 => absurd c279 (by decide)) (fun c279 => ?_)
  refine e_bipush (v := 24) dX11_reads_282 (by decide) ?_
  refine e_goto (tgt := 289) dX11_reads_284 (by decide) ?_
  refine cV1v dX11_reads_289 mo_X11_puts ml_X11_220 sh_m rfl (Nat.le_of_ble_eq_true rfl) (by omega) (r_puts (n := 1000 + L.length) hcd (by omega)) ?_
  have hP := hS.put (c := 24) hk
  refine e_aload_n dX11_reads_292 rfl ?_
  refine e_getR dX11_reads_293 fl_X11_56 sh_m rfl ?_
  refine e_iload_n dX11_reads_296 rfl ?_
  refine e_iconst (v := 1) dX11_reads_297 (by decide) ?_
  refine e_zastN (j := d) dX11_reads_298 (sa_m_compared) (by decide) (by omega) ?_
  have hP := hP.s (c := 254) (k := d) (v := vp_nar .boolean 1) (by decide)
  refine e_iconst (v := 1) dX11_reads_299 (by decide) ?_
  refine e_istore_n (ls' := [_, _, _, _, _, _]) dX11_reads_300 (by decide) rfl ?_
  refine e_goto (tgt := 424) dX11_reads_301 (by decide) ?_
  refine e_aload_n dX11_reads_424 rfl ?_
  refine cV0x dX11_reads_425 mo_X11_nextToken ml_X11_224 sh_m rfl (Nat.le_of_ble_eq_true rfl) (by omega) (c_nt hP.1.2.1 OF.rfl' rfl) ?_
  rintro r M2 ⟨rfl, hN, hG2⟩
  dsimp only [Option.toList, List.cons_append, List.nil_append]
  refine e_goto (tgt := 11) dX11_reads_428 (by decide) ?_
  refine k M2 (hP.next hN hG2) (by rw [hN.1 253 (by decide)]; funext z; rw [setI_n (by decide), setI_n (by decide), setI_n (by decide)]) (fun z q => by rw [hN.1 254 (by decide), setI_1, if_neg (fun y => q y.2), setI_n (by decide), setI_n (by decide)]) (by rw [hN.1 254 (by decide), setI_p]; rfl)
set_option maxHeartbeats 500000 in
set_option maxRecDepth 20000 in
theorem j_eq {G : Gt} {M0 M : Mm} {t : Tv} {x : Xv} {L : List Int32} {Q : Option Value → Mm → Prop} {d : Nat} {u3 u4 u5 : Value} (hS : ST M0 M t x L) (hd : d ≤ 5) (S61 : isS t x 61) (hc0 : M.1 254 d = 0) (k : ∀ M', ST M0 M' t (advX t x) (L ++ [25]) → M'.1 253 = M.1 253 → (∀ k, ¬ k = d → M'.1 254 k = M.1 254 k) → M'.1 254 d = 1 → Ev G 3 mX11_reads 11 [.ref 238, .int (nI d), .int 1, u3, u4, u5] [] M' Q) : Ev G 3 mX11_reads 11 [.ref 238, .int (nI d), .int 0, u3, u4, u5] [] M (Q) := by
  have hG := hS.1.2.1
  obtain ⟨hx0, hx2, hI, hZ, g4, g5, g6, g7, g8⟩ := id hG
  have hcd := hS.1.2.2.1
  have S40 : ¬ isS t x 40 := fun q => absurd (S61.2.2.symm.trans q.2.2) (by decide)
  have S41 : ¬ isS t x 41 := fun q => absurd (S61.2.2.symm.trans q.2.2) (by decide)
  have S42 : ¬ isS t x 42 := fun q => absurd (S61.2.2.symm.trans q.2.2) (by decide)
  have S43 : ¬ isS t x 43 := fun q => absurd (S61.2.2.symm.trans q.2.2) (by decide)
  have S45 : ¬ isS t x 45 := fun q => absurd (S61.2.2.symm.trans q.2.2) (by decide)
  have S59 : ¬ isS t x 59 := fun q => absurd (S61.2.2.symm.trans q.2.2) (by decide)
  have S60 : ¬ isS t x 60 := fun q => absurd (S61.2.2.symm.trans q.2.2) (by decide)
  have W18 : ¬ isW t x 18 := fun q => absurd (S61.2.1.symm.trans q.2.1) (by decide)
  have W19 : ¬ isW t x 19 := fun q => absurd (S61.2.1.symm.trans q.2.1) (by decide)
  have W20 : ¬ isW t x 20 := fun q => absurd (S61.2.1.symm.trans q.2.1) (by decide)
  have hk : ¬ kdX t x = 0 := by rw [S61.2.1]; decide
  have hlt := hS.lt hk
  refine e_iload_n dX11_reads_11 rfl ?_
  refine e_if_eq (tgt := 179) dX11_reads_12 (by decide) (fun c12 => ?_) (fun c12 => absurd c12 (fun q => q rfl))
  refine e_aload_n dX11_reads_179 rfl ?_
  refine e_bipush (v := 43) dX11_reads_180 (by decide) ?_
  refine cV1r dX11_reads_182 mo_X11_isSign ml_X11_213 sh_m rfl (Nat.le_of_ble_eq_true rfl) (by omega) (r_isSign hG (s := 43)) ?_
  rw [b2i_f S43]
  refine e_if_ne (tgt := 206) dX11_reads_185 (by decide) (fun c185 => absurd c185 (by decide)) (fun c185 => ?_)
  refine e_aload_n dX11_reads_188 rfl ?_
  refine e_bipush (v := 45) dX11_reads_189 (by decide) ?_
  refine cV1r dX11_reads_191 mo_X11_isSign ml_X11_213 sh_m rfl (Nat.le_of_ble_eq_true rfl) (by omega) (r_isSign hG (s := 45)) ?_
  rw [b2i_f S45]
  refine e_if_ne (tgt := 206) dX11_reads_194 (by decide) (fun c194 => absurd c194 (by decide)) (fun c194 => ?_)
  refine e_aload_n dX11_reads_197 rfl ?_
  refine e_bipush (v := 42) dX11_reads_198 (by decide) ?_
  refine cV1r dX11_reads_200 mo_X11_isSign ml_X11_213 sh_m rfl (Nat.le_of_ble_eq_true rfl) (by omega) (r_isSign hG (s := 42)) ?_
  rw [b2i_f S42]
  refine e_if_eq (tgt := 245) dX11_reads_203 (by decide) (fun c203 => ?_) (fun c203 => absurd c203 (by decide))
  refine e_aload_n dX11_reads_245 rfl ?_
  refine e_bipush (v := 60) dX11_reads_246 (by decide) ?_
  refine cV1r dX11_reads_248 mo_X11_isSign ml_X11_213 sh_m rfl (Nat.le_of_ble_eq_true rfl) (by omega) (r_isSign hG (s := 60)) ?_
  rw [b2i_f S60]
  refine e_if_ne (tgt := 263) dX11_reads_251 (by decide) (fun c251 => absurd c251 (by decide)) (fun c251 => ?_)
  refine e_aload_n dX11_reads_254 rfl ?_
  refine e_bipush (v := 61) dX11_reads_255 (by decide) ?_
  refine cV1r dX11_reads_257 mo_X11_isSign ml_X11_213 sh_m rfl (Nat.le_of_ble_eq_true rfl) (by omega) (r_isSign hG (s := 61)) ?_
  rw [b2i_t S61]
  refine e_if_eq (tgt := 304) dX11_reads_260 (by decide) (fun c260 => absurd c260 (by decide)) (fun c260 => ?_)
  refine e_aload_n dX11_reads_263 rfl ?_
  refine e_getR dX11_reads_264 fl_X11_56 sh_m rfl ?_
  refine e_iload_n dX11_reads_267 rfl ?_
  refine e_zaldN (j := d) dX11_reads_268 (sa_m_compared) (by decide) (by omega) ?_
  rw [hc0]
  refine e_if_ne (tgt := 304) dX11_reads_269 (by decide) (fun c269 => absurd c269 (by decide)) (fun c269 => ?_)
  refine e_aload_n dX11_reads_272 rfl ?_
  refine e_aload_n dX11_reads_273 rfl ?_
  refine e_bipush (v := 60) dX11_reads_274 (by decide) ?_
  refine cV1r dX11_reads_276 mo_X11_isSign ml_X11_213 sh_m rfl (Nat.le_of_ble_eq_true rfl) (by omega) (r_isSign hG (s := 60)) ?_
  rw [b2i_f S60]
  refine e_if_eq (tgt := 287) dX11_reads_279 (by decide) (fun c279 => ?_) (fun c279 => absurd c279 (by decide))
  refine e_bipush (v := 25) dX11_reads_287 (by decide) ?_
  refine cV1v dX11_reads_289 mo_X11_puts ml_X11_220 sh_m rfl (Nat.le_of_ble_eq_true rfl) (by omega) (r_puts (n := 1000 + L.length) hcd (by omega)) ?_
  have hP := hS.put (c := 25) hk
  refine e_aload_n dX11_reads_292 rfl ?_
  refine e_getR dX11_reads_293 fl_X11_56 sh_m rfl ?_
  refine e_iload_n dX11_reads_296 rfl ?_
  refine e_iconst (v := 1) dX11_reads_297 (by decide) ?_
  refine e_zastN (j := d) dX11_reads_298 (sa_m_compared) (by decide) (by omega) ?_
  have hP := hP.s (c := 254) (k := d) (v := vp_nar .boolean 1) (by decide)
  refine e_iconst (v := 1) dX11_reads_299 (by decide) ?_
  refine e_istore_n (ls' := [_, _, _, _, _, _]) dX11_reads_300 (by decide) rfl ?_
  refine e_goto (tgt := 424) dX11_reads_301 (by decide) ?_
  refine e_aload_n dX11_reads_424 rfl ?_
  refine cV0x dX11_reads_425 mo_X11_nextToken ml_X11_224 sh_m rfl (Nat.le_of_ble_eq_true rfl) (by omega) (c_nt hP.1.2.1 OF.rfl' rfl) ?_
  rintro r M2 ⟨rfl, hN, hG2⟩
  dsimp only [Option.toList, List.cons_append, List.nil_append]
  refine e_goto (tgt := 11) dX11_reads_428 (by decide) ?_
  refine k M2 (hP.next hN hG2) (by rw [hN.1 253 (by decide)]; funext z; rw [setI_n (by decide), setI_n (by decide), setI_n (by decide)]) (fun z q => by rw [hN.1 254 (by decide), setI_1, if_neg (fun y => q y.2), setI_n (by decide), setI_n (by decide)]) (by rw [hN.1 254 (by decide), setI_p]; rfl)
set_option maxHeartbeats 500000 in
set_option maxRecDepth 20000 in
theorem j_and {G : Gt} {M0 M : Mm} {t : Tv} {x : Xv} {L : List Int32} {Q : Option Value → Mm → Prop} {d : Nat} {u3 u4 u5 : Value} (hS : ST M0 M t x L) (hd : d ≤ 5) (W19 : isW t x 19) (k : ∀ M', ST M0 M' t (advX t x) (L ++ [26]) → M'.1 253 = M.1 253 → (∀ k, ¬ k = d → M'.1 254 k = M.1 254 k) → M'.1 254 d = 0 → Ev G 3 mX11_reads 11 [.ref 238, .int (nI d), .int 1, u3, u4, u5] [] M' Q) : Ev G 3 mX11_reads 11 [.ref 238, .int (nI d), .int 0, u3, u4, u5] [] M (Q) := by
  have hG := hS.1.2.1
  obtain ⟨hx0, hx2, hI, hZ, g4, g5, g6, g7, g8⟩ := id hG
  have hcd := hS.1.2.2.1
  have S40 : ¬ isS t x 40 := fun q => absurd (W19.2.1.symm.trans q.2.1) (by decide)
  have S41 : ¬ isS t x 41 := fun q => absurd (W19.2.1.symm.trans q.2.1) (by decide)
  have S42 : ¬ isS t x 42 := fun q => absurd (W19.2.1.symm.trans q.2.1) (by decide)
  have S43 : ¬ isS t x 43 := fun q => absurd (W19.2.1.symm.trans q.2.1) (by decide)
  have S45 : ¬ isS t x 45 := fun q => absurd (W19.2.1.symm.trans q.2.1) (by decide)
  have S59 : ¬ isS t x 59 := fun q => absurd (W19.2.1.symm.trans q.2.1) (by decide)
  have S60 : ¬ isS t x 60 := fun q => absurd (W19.2.1.symm.trans q.2.1) (by decide)
  have S61 : ¬ isS t x 61 := fun q => absurd (W19.2.1.symm.trans q.2.1) (by decide)
  have W18 : ¬ isW t x 18 := fun q => absurd (W19.2.2.symm.trans q.2.2) (by decide)
  have W20 : ¬ isW t x 20 := fun q => absurd (W19.2.2.symm.trans q.2.2) (by decide)
  have hk : ¬ kdX t x = 0 := by rw [W19.2.1]; decide
  have hlt := hS.lt hk
  refine e_iload_n dX11_reads_11 rfl ?_
  refine e_if_eq (tgt := 179) dX11_reads_12 (by decide) (fun c12 => ?_) (fun c12 => absurd c12 (fun q => q rfl))
  refine e_aload_n dX11_reads_179 rfl ?_
  refine e_bipush (v := 43) dX11_reads_180 (by decide) ?_
  refine cV1r dX11_reads_182 mo_X11_isSign ml_X11_213 sh_m rfl (Nat.le_of_ble_eq_true rfl) (by omega) (r_isSign hG (s := 43)) ?_
  rw [b2i_f S43]
  refine e_if_ne (tgt := 206) dX11_reads_185 (by decide) (fun c185 => absurd c185 (by decide)) (fun c185 => ?_)
  refine e_aload_n dX11_reads_188 rfl ?_
  refine e_bipush (v := 45) dX11_reads_189 (by decide) ?_
  refine cV1r dX11_reads_191 mo_X11_isSign ml_X11_213 sh_m rfl (Nat.le_of_ble_eq_true rfl) (by omega) (r_isSign hG (s := 45)) ?_
  rw [b2i_f S45]
  refine e_if_ne (tgt := 206) dX11_reads_194 (by decide) (fun c194 => absurd c194 (by decide)) (fun c194 => ?_)
  refine e_aload_n dX11_reads_197 rfl ?_
  refine e_bipush (v := 42) dX11_reads_198 (by decide) ?_
  refine cV1r dX11_reads_200 mo_X11_isSign ml_X11_213 sh_m rfl (Nat.le_of_ble_eq_true rfl) (by omega) (r_isSign hG (s := 42)) ?_
  rw [b2i_f S42]
  refine e_if_eq (tgt := 245) dX11_reads_203 (by decide) (fun c203 => ?_) (fun c203 => absurd c203 (by decide))
  refine e_aload_n dX11_reads_245 rfl ?_
  refine e_bipush (v := 60) dX11_reads_246 (by decide) ?_
  refine cV1r dX11_reads_248 mo_X11_isSign ml_X11_213 sh_m rfl (Nat.le_of_ble_eq_true rfl) (by omega) (r_isSign hG (s := 60)) ?_
  rw [b2i_f S60]
  refine e_if_ne (tgt := 263) dX11_reads_251 (by decide) (fun c251 => absurd c251 (by decide)) (fun c251 => ?_)
  refine e_aload_n dX11_reads_254 rfl ?_
  refine e_bipush (v := 61) dX11_reads_255 (by decide) ?_
  refine cV1r dX11_reads_257 mo_X11_isSign ml_X11_213 sh_m rfl (Nat.le_of_ble_eq_true rfl) (by omega) (r_isSign hG (s := 61)) ?_
  rw [b2i_f S61]
  refine e_if_eq (tgt := 304) dX11_reads_260 (by decide) (fun c260 => ?_) (fun c260 => absurd c260 (by decide))
  refine e_aload_n dX11_reads_304 rfl ?_
  refine e_ldc2 dX11_reads_305 kl_X11_227 ?_
  refine cV1r dX11_reads_308 mo_X11_isWord ml_X11_209 sh_m rfl (Nat.le_of_ble_eq_true rfl) (by omega) (r_isWord (k := 19) hG (by decide)) ?_
  rw [b2i_t W19]
  refine e_if_ne (tgt := 324) dX11_reads_311 (by decide) (fun c311 => ?_) (fun c311 => absurd c311 (by decide))
  refine e_aload_n dX11_reads_324 rfl ?_
  refine e_aload_n dX11_reads_325 rfl ?_
  refine e_ldc2 dX11_reads_326 kl_X11_227 ?_
  refine cV1r dX11_reads_329 mo_X11_isWord ml_X11_209 sh_m rfl (Nat.le_of_ble_eq_true rfl) (by omega) (r_isWord (k := 19) hG (by decide)) ?_
  rw [b2i_t W19]
  refine e_if_eq (tgt := 340) dX11_reads_332 (by decide) (fun c332 => absurd c332 (by decide)) (fun c332 => ?_)
  refine e_bipush (v := 26) dX11_reads_335 (by decide) ?_
  refine e_goto (tgt := 342) dX11_reads_337 (by decide) ?_
  refine cV1v dX11_reads_342 mo_X11_puts ml_X11_220 sh_m rfl (Nat.le_of_ble_eq_true rfl) (by omega) (r_puts (n := 1000 + L.length) hcd (by omega)) ?_
  have hP := hS.put (c := 26) hk
  refine e_aload_n dX11_reads_345 rfl ?_
  refine e_getR dX11_reads_346 fl_X11_56 sh_m rfl ?_
  refine e_iload_n dX11_reads_349 rfl ?_
  refine e_iconst (v := 0) dX11_reads_350 (by decide) ?_
  refine e_zastN (j := d) dX11_reads_351 (sa_m_compared) (by decide) (by omega) ?_
  have hP := hP.s (c := 254) (k := d) (v := vp_nar .boolean 0) (by decide)
  refine e_iconst (v := 1) dX11_reads_352 (by decide) ?_
  refine e_istore_n (ls' := [_, _, _, _, _, _]) dX11_reads_353 (by decide) rfl ?_
  refine e_goto (tgt := 424) dX11_reads_354 (by decide) ?_
  refine e_aload_n dX11_reads_424 rfl ?_
  refine cV0x dX11_reads_425 mo_X11_nextToken ml_X11_224 sh_m rfl (Nat.le_of_ble_eq_true rfl) (by omega) (c_nt hP.1.2.1 OF.rfl' rfl) ?_
  rintro r M2 ⟨rfl, hN, hG2⟩
  dsimp only [Option.toList, List.cons_append, List.nil_append]
  refine e_goto (tgt := 11) dX11_reads_428 (by decide) ?_
  refine k M2 (hP.next hN hG2) (by rw [hN.1 253 (by decide)]; funext z; rw [setI_n (by decide), setI_n (by decide), setI_n (by decide)]) (fun z q => by rw [hN.1 254 (by decide), setI_1, if_neg (fun y => q y.2), setI_n (by decide), setI_n (by decide)]) (by rw [hN.1 254 (by decide), setI_p]; rfl)
set_option maxHeartbeats 500000 in
set_option maxRecDepth 20000 in
theorem j_or {G : Gt} {M0 M : Mm} {t : Tv} {x : Xv} {L : List Int32} {Q : Option Value → Mm → Prop} {d : Nat} {u3 u4 u5 : Value} (hS : ST M0 M t x L) (hd : d ≤ 5) (W20 : isW t x 20) (k : ∀ M', ST M0 M' t (advX t x) (L ++ [27]) → M'.1 253 = M.1 253 → (∀ k, ¬ k = d → M'.1 254 k = M.1 254 k) → M'.1 254 d = 0 → Ev G 3 mX11_reads 11 [.ref 238, .int (nI d), .int 1, u3, u4, u5] [] M' Q) : Ev G 3 mX11_reads 11 [.ref 238, .int (nI d), .int 0, u3, u4, u5] [] M (Q) := by
  have hG := hS.1.2.1
  obtain ⟨hx0, hx2, hI, hZ, g4, g5, g6, g7, g8⟩ := id hG
  have hcd := hS.1.2.2.1
  have S40 : ¬ isS t x 40 := fun q => absurd (W20.2.1.symm.trans q.2.1) (by decide)
  have S41 : ¬ isS t x 41 := fun q => absurd (W20.2.1.symm.trans q.2.1) (by decide)
  have S42 : ¬ isS t x 42 := fun q => absurd (W20.2.1.symm.trans q.2.1) (by decide)
  have S43 : ¬ isS t x 43 := fun q => absurd (W20.2.1.symm.trans q.2.1) (by decide)
  have S45 : ¬ isS t x 45 := fun q => absurd (W20.2.1.symm.trans q.2.1) (by decide)
  have S59 : ¬ isS t x 59 := fun q => absurd (W20.2.1.symm.trans q.2.1) (by decide)
  have S60 : ¬ isS t x 60 := fun q => absurd (W20.2.1.symm.trans q.2.1) (by decide)
  have S61 : ¬ isS t x 61 := fun q => absurd (W20.2.1.symm.trans q.2.1) (by decide)
  have W18 : ¬ isW t x 18 := fun q => absurd (W20.2.2.symm.trans q.2.2) (by decide)
  have W19 : ¬ isW t x 19 := fun q => absurd (W20.2.2.symm.trans q.2.2) (by decide)
  have hk : ¬ kdX t x = 0 := by rw [W20.2.1]; decide
  have hlt := hS.lt hk
  refine e_iload_n dX11_reads_11 rfl ?_
  refine e_if_eq (tgt := 179) dX11_reads_12 (by decide) (fun c12 => ?_) (fun c12 => absurd c12 (fun q => q rfl))
  refine e_aload_n dX11_reads_179 rfl ?_
  refine e_bipush (v := 43) dX11_reads_180 (by decide) ?_
  refine cV1r dX11_reads_182 mo_X11_isSign ml_X11_213 sh_m rfl (Nat.le_of_ble_eq_true rfl) (by omega) (r_isSign hG (s := 43)) ?_
  rw [b2i_f S43]
  refine e_if_ne (tgt := 206) dX11_reads_185 (by decide) (fun c185 => absurd c185 (by decide)) (fun c185 => ?_)
  refine e_aload_n dX11_reads_188 rfl ?_
  refine e_bipush (v := 45) dX11_reads_189 (by decide) ?_
  refine cV1r dX11_reads_191 mo_X11_isSign ml_X11_213 sh_m rfl (Nat.le_of_ble_eq_true rfl) (by omega) (r_isSign hG (s := 45)) ?_
  rw [b2i_f S45]
  refine e_if_ne (tgt := 206) dX11_reads_194 (by decide) (fun c194 => absurd c194 (by decide)) (fun c194 => ?_)
  refine e_aload_n dX11_reads_197 rfl ?_
  refine e_bipush (v := 42) dX11_reads_198 (by decide) ?_
  refine cV1r dX11_reads_200 mo_X11_isSign ml_X11_213 sh_m rfl (Nat.le_of_ble_eq_true rfl) (by omega) (r_isSign hG (s := 42)) ?_
  rw [b2i_f S42]
  refine e_if_eq (tgt := 245) dX11_reads_203 (by decide) (fun c203 => ?_) (fun c203 => absurd c203 (by decide))
  refine e_aload_n dX11_reads_245 rfl ?_
  refine e_bipush (v := 60) dX11_reads_246 (by decide) ?_
  refine cV1r dX11_reads_248 mo_X11_isSign ml_X11_213 sh_m rfl (Nat.le_of_ble_eq_true rfl) (by omega) (r_isSign hG (s := 60)) ?_
  rw [b2i_f S60]
  refine e_if_ne (tgt := 263) dX11_reads_251 (by decide) (fun c251 => absurd c251 (by decide)) (fun c251 => ?_)
  refine e_aload_n dX11_reads_254 rfl ?_
  refine e_bipush (v := 61) dX11_reads_255 (by decide) ?_
  refine cV1r dX11_reads_257 mo_X11_isSign ml_X11_213 sh_m rfl (Nat.le_of_ble_eq_true rfl) (by omega) (r_isSign hG (s := 61)) ?_
  rw [b2i_f S61]
  refine e_if_eq (tgt := 304) dX11_reads_260 (by decide) (fun c260 => ?_) (fun c260 => absurd c260 (by decide))
  refine e_aload_n dX11_reads_304 rfl ?_
  refine e_ldc2 dX11_reads_305 kl_X11_227 ?_
  refine cV1r dX11_reads_308 mo_X11_isWord ml_X11_209 sh_m rfl (Nat.le_of_ble_eq_true rfl) (by omega) (r_isWord (k := 19) hG (by decide)) ?_
  rw [b2i_f W19]
  refine e_if_ne (tgt := 324) dX11_reads_311 (by decide) (fun c311 => absurd c311 (by decide)) (fun c311 => ?_)
  refine e_aload_n dX11_reads_314 rfl ?_
  refine e_ldc2 dX11_reads_315 kl_X11_229 ?_
  refine cV1r dX11_reads_318 mo_X11_isWord ml_X11_209 sh_m rfl (Nat.le_of_ble_eq_true rfl) (by omega) (r_isWord (k := 20) hG (by decide)) ?_
  rw [b2i_t W20]
  refine e_if_eq (tgt := 357) dX11_reads_321 (by decide) (fun c321 => absurd c321 (by decide)) (fun c321 => ?_)
  refine e_aload_n dX11_reads_324 rfl ?_
  refine e_aload_n dX11_reads_325 rfl ?_
  refine e_ldc2 dX11_reads_326 kl_X11_227 ?_
  refine cV1r dX11_reads_329 mo_X11_isWord ml_X11_209 sh_m rfl (Nat.le_of_ble_eq_true rfl) (by omega) (r_isWord (k := 19) hG (by decide)) ?_
  rw [b2i_f W19]
  refine e_if_eq (tgt := 340) dX11_reads_332 (by decide) (fun c332 => ?_) (fun c332 => absurd c332 (by decide))
  refine e_bipush (v := 27) dX11_reads_340 (by decide) ?_
  refine cV1v dX11_reads_342 mo_X11_puts ml_X11_220 sh_m rfl (Nat.le_of_ble_eq_true rfl) (by omega) (r_puts (n := 1000 + L.length) hcd (by omega)) ?_
  have hP := hS.put (c := 27) hk
  refine e_aload_n dX11_reads_345 rfl ?_
  refine e_getR dX11_reads_346 fl_X11_56 sh_m rfl ?_
  refine e_iload_n dX11_reads_349 rfl ?_
  refine e_iconst (v := 0) dX11_reads_350 (by decide) ?_
  refine e_zastN (j := d) dX11_reads_351 (sa_m_compared) (by decide) (by omega) ?_
  have hP := hP.s (c := 254) (k := d) (v := vp_nar .boolean 0) (by decide)
  refine e_iconst (v := 1) dX11_reads_352 (by decide) ?_
  refine e_istore_n (ls' := [_, _, _, _, _, _]) dX11_reads_353 (by decide) rfl ?_
  refine e_goto (tgt := 424) dX11_reads_354 (by decide) ?_
  refine e_aload_n dX11_reads_424 rfl ?_
  refine cV0x dX11_reads_425 mo_X11_nextToken ml_X11_224 sh_m rfl (Nat.le_of_ble_eq_true rfl) (by omega) (c_nt hP.1.2.1 OF.rfl' rfl) ?_
  rintro r M2 ⟨rfl, hN, hG2⟩
  dsimp only [Option.toList, List.cons_append, List.nil_append]
  refine e_goto (tgt := 11) dX11_reads_428 (by decide) ?_
  refine k M2 (hP.next hN hG2) (by rw [hN.1 253 (by decide)]; funext z; rw [setI_n (by decide), setI_n (by decide), setI_n (by decide)]) (fun z q => by rw [hN.1 254 (by decide), setI_1, if_neg (fun y => q y.2), setI_n (by decide), setI_n (by decide)]) (by rw [hN.1 254 (by decide), setI_p]; rfl)
end RRE
