section RWS
set_option maxHeartbeats 4000000 in
set_option maxRecDepth 20000 in
theorem s_28 {G : Gt} {M : Mm} {Q : Option Value → Mm → Prop} {d p t : Nat} {u4 u5 : Value} (ht : t ≤ 1000) (hp : p < t) (hto : M.1 251 0 = nI t) (hd : d ≤ 5) (hc : M.1 252 p = 28) (hd2 : d ≤ 4) (k : ∀ a b, Ev G 3 mX11_worked 14 [.ref 238, .int 0, .int (nI (d + 1)), .int (nI (p + 1)), a, b] [] (opM (setI M 263 (d + 1) 0) (d + 1)) Q) : Ev G 3 mX11_worked 14 [.ref 238, .int 0, .int (nI d), .int (nI p), u4, u5] [] M (Q) := by
  refine e_iload_n dX11_worked_14 rfl ?_
  refine e_aload_n dX11_worked_15 rfl ?_
  refine e_getR dX11_worked_16 fl_X11_47 sh_m rfl ?_
  refine e_iload_n dX11_worked_19 rfl ?_
  refine e_ialdN (j := 0) dX11_worked_20 (sa_m_lineTo) (by decide) (by omega) ?_
  rw [hto]
  refine e_icmp_ge (tgt := 335) dX11_worked_21 (by decide) (fun c21 => absurd c21 (fun q => q ((nI_ltI (by omega) (by omega)).mpr hp))) (fun c21 => ?_)
  refine e_aload_n dX11_worked_24 rfl ?_
  refine e_getR dX11_worked_25 fl_X11_50 sh_m rfl ?_
  refine e_iload_n dX11_worked_28 rfl ?_
  refine e_ialdN (j := p) dX11_worked_29 (sa_m_codes) (by decide) (by omega) ?_
  rw [hc]
  refine e_istore (ls' := [_, _, _, _, _, _]) dX11_worked_30 (by decide) rfl ?_
  refine e_iload dX11_worked_32 rfl ?_
  refine e_bipush (v := 28) dX11_worked_34 (by decide) ?_
  refine e_icmp_eq (tgt := 46) dX11_worked_36 (by decide) (fun c36 => ?_) (fun c36 => absurd c36 (by decide))
  refine e_iinc (ls' := [_, _, _, _, _, _]) dX11_worked_46 rfl (nI_i1 _) (by decide) rfl ?_
  refine e_aload_n dX11_worked_49 rfl ?_
  refine e_getR dX11_worked_50 fl_X11_84 sh_m rfl ?_
  refine e_iload_n dX11_worked_53 rfl ?_
  refine e_iload dX11_worked_54 rfl ?_
  refine e_bipush (v := 30) dX11_worked_56 (by decide) ?_
  refine e_icmp_ne (tgt := 65) dX11_worked_58 (by decide) (fun c58 => ?_) (fun c58 => absurd c58 (by decide))
  refine e_iconst (v := 0) dX11_worked_65 (by decide) ?_
  refine e_iastN (j := (d + 1)) dX11_worked_66 (sa_m_byNot) (by decide) (by omega) ?_
  refine e_aload_n dX11_worked_67 rfl ?_
  refine e_iload_n dX11_worked_68 rfl ?_
  refine cV1v dX11_worked_69 mo_X11_opens ml_X11_234 sh_m rfl (Nat.le_of_ble_eq_true rfl) (by omega) (r_opens (by omega)) ?_
  refine e_goto (tgt := 329) dX11_worked_72 (by decide) ?_
  refine e_iinc (ls' := [_, _, _, _, _, _]) dX11_worked_329 rfl (nI_i1 _) (by decide) rfl ?_
  refine e_goto (tgt := 14) dX11_worked_332 (by decide) ?_
  exact k _ _
set_option maxHeartbeats 4000000 in
set_option maxRecDepth 20000 in
theorem s_30 {G : Gt} {M : Mm} {Q : Option Value → Mm → Prop} {d p t : Nat} {u4 u5 : Value} (ht : t ≤ 1000) (hp : p < t) (hto : M.1 251 0 = nI t) (hd : d ≤ 5) (hc : M.1 252 p = 30) (hd2 : d ≤ 4) (k : ∀ a b, Ev G 3 mX11_worked 14 [.ref 238, .int 0, .int (nI (d + 1)), .int (nI (p + 1)), a, b] [] (opM (setI M 263 (d + 1) 1) (d + 1)) Q) : Ev G 3 mX11_worked 14 [.ref 238, .int 0, .int (nI d), .int (nI p), u4, u5] [] M (Q) := by
  refine e_iload_n dX11_worked_14 rfl ?_
  refine e_aload_n dX11_worked_15 rfl ?_
  refine e_getR dX11_worked_16 fl_X11_47 sh_m rfl ?_
  refine e_iload_n dX11_worked_19 rfl ?_
  refine e_ialdN (j := 0) dX11_worked_20 (sa_m_lineTo) (by decide) (by omega) ?_
  rw [hto]
  refine e_icmp_ge (tgt := 335) dX11_worked_21 (by decide) (fun c21 => absurd c21 (fun q => q ((nI_ltI (by omega) (by omega)).mpr hp))) (fun c21 => ?_)
  refine e_aload_n dX11_worked_24 rfl ?_
  refine e_getR dX11_worked_25 fl_X11_50 sh_m rfl ?_
  refine e_iload_n dX11_worked_28 rfl ?_
  refine e_ialdN (j := p) dX11_worked_29 (sa_m_codes) (by decide) (by omega) ?_
  rw [hc]
  refine e_istore (ls' := [_, _, _, _, _, _]) dX11_worked_30 (by decide) rfl ?_
  refine e_iload dX11_worked_32 rfl ?_
  refine e_bipush (v := 28) dX11_worked_34 (by decide) ?_
  refine e_icmp_eq (tgt := 46) dX11_worked_36 (by decide) (fun c36 => absurd c36 (by decide)) (fun c36 => ?_)
  refine e_iload dX11_worked_39 rfl ?_
  refine e_bipush (v := 30) dX11_worked_41 (by decide) ?_
  refine e_icmp_ne (tgt := 75) dX11_worked_43 (by decide) (fun c43 => absurd c43 (by decide)) (fun c43 => ?_)
  refine e_iinc (ls' := [_, _, _, _, _, _]) dX11_worked_46 rfl (nI_i1 _) (by decide) rfl ?_
  refine e_aload_n dX11_worked_49 rfl ?_
  refine e_getR dX11_worked_50 fl_X11_84 sh_m rfl ?_
  refine e_iload_n dX11_worked_53 rfl ?_
  refine e_iload dX11_worked_54 rfl ?_
  refine e_bipush (v := 30) dX11_worked_56 (by decide) ?_
  refine e_icmp_ne (tgt := 65) dX11_worked_58 (by decide) (fun c58 => absurd c58 (by decide)) (fun c58 => ?_)
  refine e_iconst (v := 1) dX11_worked_61 (by decide) ?_
  refine e_goto (tgt := 66) dX11_worked_62 (by decide) ?_
  refine e_iastN (j := (d + 1)) dX11_worked_66 (sa_m_byNot) (by decide) (by omega) ?_
  refine e_aload_n dX11_worked_67 rfl ?_
  refine e_iload_n dX11_worked_68 rfl ?_
  refine cV1v dX11_worked_69 mo_X11_opens ml_X11_234 sh_m rfl (Nat.le_of_ble_eq_true rfl) (by omega) (r_opens (by omega)) ?_
  refine e_goto (tgt := 329) dX11_worked_72 (by decide) ?_
  refine e_iinc (ls' := [_, _, _, _, _, _]) dX11_worked_329 rfl (nI_i1 _) (by decide) rfl ?_
  refine e_goto (tgt := 14) dX11_worked_332 (by decide) ?_
  exact k _ _
set_option maxHeartbeats 4000000 in
set_option maxRecDepth 20000 in
theorem s_20 {G : Gt} {M : Mm} {Q : Option Value → Mm → Prop} {d p t : Nat} {u4 u5 : Value} (ht : t ≤ 1000) (hp : p < t) (hto : M.1 251 0 = nI t) (hd : d ≤ 5) (hc : M.1 252 p = 20)  (k : ∀ a b, Ev G 3 mX11_worked 14 [.ref 238, .int 0, .int (nI d), .int (nI (p + 1)), a, b] [] (setI (smM M d) 260 d 20) Q) : Ev G 3 mX11_worked 14 [.ref 238, .int 0, .int (nI d), .int (nI p), u4, u5] [] M (Q) := by
  refine e_iload_n dX11_worked_14 rfl ?_
  refine e_aload_n dX11_worked_15 rfl ?_
  refine e_getR dX11_worked_16 fl_X11_47 sh_m rfl ?_
  refine e_iload_n dX11_worked_19 rfl ?_
  refine e_ialdN (j := 0) dX11_worked_20 (sa_m_lineTo) (by decide) (by omega) ?_
  rw [hto]
  refine e_icmp_ge (tgt := 335) dX11_worked_21 (by decide) (fun c21 => absurd c21 (fun q => q ((nI_ltI (by omega) (by omega)).mpr hp))) (fun c21 => ?_)
  refine e_aload_n dX11_worked_24 rfl ?_
  refine e_getR dX11_worked_25 fl_X11_50 sh_m rfl ?_
  refine e_iload_n dX11_worked_28 rfl ?_
  refine e_ialdN (j := p) dX11_worked_29 (sa_m_codes) (by decide) (by omega) ?_
  rw [hc]
  refine e_istore (ls' := [_, _, _, _, _, _]) dX11_worked_30 (by decide) rfl ?_
  refine e_iload dX11_worked_32 rfl ?_
  refine e_bipush (v := 28) dX11_worked_34 (by decide) ?_
  refine e_icmp_eq (tgt := 46) dX11_worked_36 (by decide) (fun c36 => absurd c36 (by decide)) (fun c36 => ?_)
  refine e_iload dX11_worked_39 rfl ?_
  refine e_bipush (v := 30) dX11_worked_41 (by decide) ?_
  refine e_icmp_ne (tgt := 75) dX11_worked_43 (by decide) (fun c43 => ?_) (fun c43 => absurd c43 (by decide))
  refine e_iload dX11_worked_75 rfl ?_
  refine e_bipush (v := 20) dX11_worked_77 (by decide) ?_
  refine e_icmp_eq (tgt := 89) dX11_worked_79 (by decide) (fun c79 => ?_) (fun c79 => absurd c79 (by decide))
  refine e_aload_n dX11_worked_89 rfl ?_
  refine e_iload_n dX11_worked_90 rfl ?_
  refine cV1v dX11_worked_91 mo_X11_sums ml_X11_231 sh_m rfl (Nat.le_of_ble_eq_true rfl) (by omega) (r_sums (by omega)) ?_
  refine e_aload_n dX11_worked_94 rfl ?_
  refine e_getR dX11_worked_95 fl_X11_75 sh_m rfl ?_
  refine e_iload_n dX11_worked_98 rfl ?_
  refine e_iload dX11_worked_99 rfl ?_
  refine e_iastN (j := d) dX11_worked_101 (sa_m_sumBy) (by decide) (by omega) ?_
  refine e_goto (tgt := 329) dX11_worked_102 (by decide) ?_
  refine e_iinc (ls' := [_, _, _, _, _, _]) dX11_worked_329 rfl (nI_i1 _) (by decide) rfl ?_
  refine e_goto (tgt := 14) dX11_worked_332 (by decide) ?_
  exact k _ _
set_option maxHeartbeats 4000000 in
set_option maxRecDepth 20000 in
theorem s_21 {G : Gt} {M : Mm} {Q : Option Value → Mm → Prop} {d p t : Nat} {u4 u5 : Value} (ht : t ≤ 1000) (hp : p < t) (hto : M.1 251 0 = nI t) (hd : d ≤ 5) (hc : M.1 252 p = 21)  (k : ∀ a b, Ev G 3 mX11_worked 14 [.ref 238, .int 0, .int (nI d), .int (nI (p + 1)), a, b] [] (setI (smM M d) 260 d 21) Q) : Ev G 3 mX11_worked 14 [.ref 238, .int 0, .int (nI d), .int (nI p), u4, u5] [] M (Q) := by
  refine e_iload_n dX11_worked_14 rfl ?_
  refine e_aload_n dX11_worked_15 rfl ?_
  refine e_getR dX11_worked_16 fl_X11_47 sh_m rfl ?_
  refine e_iload_n dX11_worked_19 rfl ?_
  refine e_ialdN (j := 0) dX11_worked_20 (sa_m_lineTo) (by decide) (by omega) ?_
  rw [hto]
  refine e_icmp_ge (tgt := 335) dX11_worked_21 (by decide) (fun c21 => absurd c21 (fun q => q ((nI_ltI (by omega) (by omega)).mpr hp))) (fun c21 => ?_)
  refine e_aload_n dX11_worked_24 rfl ?_
  refine e_getR dX11_worked_25 fl_X11_50 sh_m rfl ?_
  refine e_iload_n dX11_worked_28 rfl ?_
  refine e_ialdN (j := p) dX11_worked_29 (sa_m_codes) (by decide) (by omega) ?_
  rw [hc]
  refine e_istore (ls' := [_, _, _, _, _, _]) dX11_worked_30 (by decide) rfl ?_
  refine e_iload dX11_worked_32 rfl ?_
  refine e_bipush (v := 28) dX11_worked_34 (by decide) ?_
  refine e_icmp_eq (tgt := 46) dX11_worked_36 (by decide) (fun c36 => absurd c36 (by decide)) (fun c36 => ?_)
  refine e_iload dX11_worked_39 rfl ?_
  refine e_bipush (v := 30) dX11_worked_41 (by decide) ?_
  refine e_icmp_ne (tgt := 75) dX11_worked_43 (by decide) (fun c43 => ?_) (fun c43 => absurd c43 (by decide))
  refine e_iload dX11_worked_75 rfl ?_
  refine e_bipush (v := 20) dX11_worked_77 (by decide) ?_
  refine e_icmp_eq (tgt := 89) dX11_worked_79 (by decide) (fun c79 => absurd c79 (by decide)) (fun c79 => ?_)
  refine e_iload dX11_worked_82 rfl ?_
  refine e_bipush (v := 21) dX11_worked_84 (by decide) ?_
  refine e_icmp_ne (tgt := 105) dX11_worked_86 (by decide) (fun c86 => absurd c86 (by decide)) (fun c86 => ?_)
  refine e_aload_n dX11_worked_89 rfl ?_
  refine e_iload_n dX11_worked_90 rfl ?_
  refine cV1v dX11_worked_91 mo_X11_sums ml_X11_231 sh_m rfl (Nat.le_of_ble_eq_true rfl) (by omega) (r_sums (by omega)) ?_
  refine e_aload_n dX11_worked_94 rfl ?_
  refine e_getR dX11_worked_95 fl_X11_75 sh_m rfl ?_
  refine e_iload_n dX11_worked_98 rfl ?_
  refine e_iload dX11_worked_99 rfl ?_
  refine e_iastN (j := d) dX11_worked_101 (sa_m_sumBy) (by decide) (by omega) ?_
  refine e_goto (tgt := 329) dX11_worked_102 (by decide) ?_
  refine e_iinc (ls' := [_, _, _, _, _, _]) dX11_worked_329 rfl (nI_i1 _) (by decide) rfl ?_
  refine e_goto (tgt := 14) dX11_worked_332 (by decide) ?_
  exact k _ _
set_option maxHeartbeats 4000000 in
set_option maxRecDepth 20000 in
theorem s_22 {G : Gt} {M : Mm} {Q : Option Value → Mm → Prop} {d p t : Nat} {u4 u5 : Value} (ht : t ≤ 1000) (hp : p < t) (hto : M.1 251 0 = nI t) (hd : d ≤ 5) (hc : M.1 252 p = 22)  (k : ∀ a b, Ev G 3 mX11_worked 14 [.ref 238, .int 0, .int (nI d), .int (nI (p + 1)), a, b] [] (setI M 262 d 22) Q) : Ev G 3 mX11_worked 14 [.ref 238, .int 0, .int (nI d), .int (nI p), u4, u5] [] M (Q) := by
  refine e_iload_n dX11_worked_14 rfl ?_
  refine e_aload_n dX11_worked_15 rfl ?_
  refine e_getR dX11_worked_16 fl_X11_47 sh_m rfl ?_
  refine e_iload_n dX11_worked_19 rfl ?_
  refine e_ialdN (j := 0) dX11_worked_20 (sa_m_lineTo) (by decide) (by omega) ?_
  rw [hto]
  refine e_icmp_ge (tgt := 335) dX11_worked_21 (by decide) (fun c21 => absurd c21 (fun q => q ((nI_ltI (by omega) (by omega)).mpr hp))) (fun c21 => ?_)
  refine e_aload_n dX11_worked_24 rfl ?_
  refine e_getR dX11_worked_25 fl_X11_50 sh_m rfl ?_
  refine e_iload_n dX11_worked_28 rfl ?_
  refine e_ialdN (j := p) dX11_worked_29 (sa_m_codes) (by decide) (by omega) ?_
  rw [hc]
  refine e_istore (ls' := [_, _, _, _, _, _]) dX11_worked_30 (by decide) rfl ?_
  refine e_iload dX11_worked_32 rfl ?_
  refine e_bipush (v := 28) dX11_worked_34 (by decide) ?_
  refine e_icmp_eq (tgt := 46) dX11_worked_36 (by decide) (fun c36 => absurd c36 (by decide)) (fun c36 => ?_)
  refine e_iload dX11_worked_39 rfl ?_
  refine e_bipush (v := 30) dX11_worked_41 (by decide) ?_
  refine e_icmp_ne (tgt := 75) dX11_worked_43 (by decide) (fun c43 => ?_) (fun c43 => absurd c43 (by decide))
  refine e_iload dX11_worked_75 rfl ?_
  refine e_bipush (v := 20) dX11_worked_77 (by decide) ?_
  refine e_icmp_eq (tgt := 89) dX11_worked_79 (by decide) (fun c79 => absurd c79 (by decide)) (fun c79 => ?_)
  refine e_iload dX11_worked_82 rfl ?_
  refine e_bipush (v := 21) dX11_worked_84 (by decide) ?_
  refine e_icmp_ne (tgt := 105) dX11_worked_86 (by decide) (fun c86 => ?_) (fun c86 => absurd c86 (by decide))
  refine e_iload dX11_worked_105 rfl ?_
  refine e_bipush (v := 22) dX11_worked_107 (by decide) ?_
  refine e_icmp_ne (tgt := 123) dX11_worked_109 (by decide) (fun c109 => absurd c109 (by decide)) (fun c109 => ?_)
  refine e_aload_n dX11_worked_112 rfl ?_
  refine e_getR dX11_worked_113 fl_X11_81 sh_m rfl ?_
  refine e_iload_n dX11_worked_116 rfl ?_
  refine e_iload dX11_worked_117 rfl ?_
  refine e_iastN (j := d) dX11_worked_119 (sa_m_termBy) (by decide) (by omega) ?_
  refine e_goto (tgt := 329) dX11_worked_120 (by decide) ?_
  refine e_iinc (ls' := [_, _, _, _, _, _]) dX11_worked_329 rfl (nI_i1 _) (by decide) rfl ?_
  refine e_goto (tgt := 14) dX11_worked_332 (by decide) ?_
  exact k _ _
set_option maxHeartbeats 4000000 in
set_option maxRecDepth 20000 in
theorem s_24 {G : Gt} {M : Mm} {Q : Option Value → Mm → Prop} {d p t : Nat} {u4 u5 : Value} (ht : t ≤ 1000) (hp : p < t) (hto : M.1 251 0 = nI t) (hd : d ≤ 5) (hc : M.1 252 p = 24)  (k : ∀ a b, Ev G 3 mX11_worked 14 [.ref 238, .int 0, .int (nI d), .int (nI (p + 1)), a, b] [] (setI (setI (setI (setI (smM M d) 257 d (pnd M d)) 258 d 24) 259 d 0) 260 d 20) Q) : Ev G 3 mX11_worked 14 [.ref 238, .int 0, .int (nI d), .int (nI p), u4, u5] [] M (Q) := by
  refine e_iload_n dX11_worked_14 rfl ?_
  refine e_aload_n dX11_worked_15 rfl ?_
  refine e_getR dX11_worked_16 fl_X11_47 sh_m rfl ?_
  refine e_iload_n dX11_worked_19 rfl ?_
  refine e_ialdN (j := 0) dX11_worked_20 (sa_m_lineTo) (by decide) (by omega) ?_
  rw [hto]
  refine e_icmp_ge (tgt := 335) dX11_worked_21 (by decide) (fun c21 => absurd c21 (fun q => q ((nI_ltI (by omega) (by omega)).mpr hp))) (fun c21 => ?_)
  refine e_aload_n dX11_worked_24 rfl ?_
  refine e_getR dX11_worked_25 fl_X11_50 sh_m rfl ?_
  refine e_iload_n dX11_worked_28 rfl ?_
  refine e_ialdN (j := p) dX11_worked_29 (sa_m_codes) (by decide) (by omega) ?_
  rw [hc]
  refine e_istore (ls' := [_, _, _, _, _, _]) dX11_worked_30 (by decide) rfl ?_
  refine e_iload dX11_worked_32 rfl ?_
  refine e_bipush (v := 28) dX11_worked_34 (by decide) ?_
  refine e_icmp_eq (tgt := 46) dX11_worked_36 (by decide) (fun c36 => absurd c36 (by decide)) (fun c36 => ?_)
  refine e_iload dX11_worked_39 rfl ?_
  refine e_bipush (v := 30) dX11_worked_41 (by decide) ?_
  refine e_icmp_ne (tgt := 75) dX11_worked_43 (by decide) (fun c43 => ?_) (fun c43 => absurd c43 (by decide))
  refine e_iload dX11_worked_75 rfl ?_
  refine e_bipush (v := 20) dX11_worked_77 (by decide) ?_
  refine e_icmp_eq (tgt := 89) dX11_worked_79 (by decide) (fun c79 => absurd c79 (by decide)) (fun c79 => ?_)
  refine e_iload dX11_worked_82 rfl ?_
  refine e_bipush (v := 21) dX11_worked_84 (by decide) ?_
  refine e_icmp_ne (tgt := 105) dX11_worked_86 (by decide) (fun c86 => ?_) (fun c86 => absurd c86 (by decide))
  refine e_iload dX11_worked_105 rfl ?_
  refine e_bipush (v := 22) dX11_worked_107 (by decide) ?_
  refine e_icmp_ne (tgt := 123) dX11_worked_109 (by decide) (fun c109 => ?_) (fun c109 => absurd c109 (by decide))
  refine e_iload dX11_worked_123 rfl ?_
  refine e_bipush (v := 24) dX11_worked_125 (by decide) ?_
  refine e_icmp_eq (tgt := 137) dX11_worked_127 (by decide) (fun c127 => ?_) (fun c127 => absurd c127 (by decide))
  refine e_aload_n dX11_worked_137 rfl ?_
  refine e_iload_n dX11_worked_138 rfl ?_
  refine cV1v dX11_worked_139 mo_X11_sums ml_X11_231 sh_m rfl (Nat.le_of_ble_eq_true rfl) (by omega) (r_sums (by omega)) ?_
  refine e_aload_n dX11_worked_142 rfl ?_
  refine e_getR dX11_worked_143 fl_X11_66 sh_m rfl ?_
  refine e_iload_n dX11_worked_146 rfl ?_
  refine e_aload_n dX11_worked_147 rfl ?_
  refine e_getR dX11_worked_148 fl_X11_72 sh_m rfl ?_
  refine e_iload_n dX11_worked_151 rfl ?_
  refine e_ialdN (j := d) dX11_worked_152 (sa_m_sum) (by decide) (by omega) ?_
  rw [smM_s]
  refine e_iastN (j := d) dX11_worked_153 (sa_m_ahead) (by decide) (by omega) ?_
  refine e_aload_n dX11_worked_154 rfl ?_
  refine e_getR dX11_worked_155 fl_X11_69 sh_m rfl ?_
  refine e_iload_n dX11_worked_158 rfl ?_
  refine e_iload dX11_worked_159 rfl ?_
  refine e_iastN (j := d) dX11_worked_161 (sa_m_against) (by decide) (by omega) ?_
  refine e_aload_n dX11_worked_162 rfl ?_
  refine e_getR dX11_worked_163 fl_X11_72 sh_m rfl ?_
  refine e_iload_n dX11_worked_166 rfl ?_
  refine e_iconst (v := 0) dX11_worked_167 (by decide) ?_
  refine e_iastN (j := d) dX11_worked_168 (sa_m_sum) (by decide) (by omega) ?_
  refine e_aload_n dX11_worked_169 rfl ?_
  refine e_getR dX11_worked_170 fl_X11_75 sh_m rfl ?_
  refine e_iload_n dX11_worked_173 rfl ?_
  refine e_bipush (v := 20) dX11_worked_174 (by decide) ?_
  refine e_iastN (j := d) dX11_worked_176 (sa_m_sumBy) (by decide) (by omega) ?_
  refine e_goto (tgt := 329) dX11_worked_177 (by decide) ?_
  refine e_iinc (ls' := [_, _, _, _, _, _]) dX11_worked_329 rfl (nI_i1 _) (by decide) rfl ?_
  refine e_goto (tgt := 14) dX11_worked_332 (by decide) ?_
  exact k _ _
set_option maxHeartbeats 4000000 in
set_option maxRecDepth 20000 in
theorem s_25 {G : Gt} {M : Mm} {Q : Option Value → Mm → Prop} {d p t : Nat} {u4 u5 : Value} (ht : t ≤ 1000) (hp : p < t) (hto : M.1 251 0 = nI t) (hd : d ≤ 5) (hc : M.1 252 p = 25)  (k : ∀ a b, Ev G 3 mX11_worked 14 [.ref 238, .int 0, .int (nI d), .int (nI (p + 1)), a, b] [] (setI (setI (setI (setI (smM M d) 257 d (pnd M d)) 258 d 25) 259 d 0) 260 d 20) Q) : Ev G 3 mX11_worked 14 [.ref 238, .int 0, .int (nI d), .int (nI p), u4, u5] [] M (Q) := by
  refine e_iload_n dX11_worked_14 rfl ?_
  refine e_aload_n dX11_worked_15 rfl ?_
  refine e_getR dX11_worked_16 fl_X11_47 sh_m rfl ?_
  refine e_iload_n dX11_worked_19 rfl ?_
  refine e_ialdN (j := 0) dX11_worked_20 (sa_m_lineTo) (by decide) (by omega) ?_
  rw [hto]
  refine e_icmp_ge (tgt := 335) dX11_worked_21 (by decide) (fun c21 => absurd c21 (fun q => q ((nI_ltI (by omega) (by omega)).mpr hp))) (fun c21 => ?_)
  refine e_aload_n dX11_worked_24 rfl ?_
  refine e_getR dX11_worked_25 fl_X11_50 sh_m rfl ?_
  refine e_iload_n dX11_worked_28 rfl ?_
  refine e_ialdN (j := p) dX11_worked_29 (sa_m_codes) (by decide) (by omega) ?_
  rw [hc]
  refine e_istore (ls' := [_, _, _, _, _, _]) dX11_worked_30 (by decide) rfl ?_
  refine e_iload dX11_worked_32 rfl ?_
  refine e_bipush (v := 28) dX11_worked_34 (by decide) ?_
  refine e_icmp_eq (tgt := 46) dX11_worked_36 (by decide) (fun c36 => absurd c36 (by decide)) (fun c36 => ?_)
  refine e_iload dX11_worked_39 rfl ?_
  refine e_bipush (v := 30) dX11_worked_41 (by decide) ?_
  refine e_icmp_ne (tgt := 75) dX11_worked_43 (by decide) (fun c43 => ?_) (fun c43 => absurd c43 (by decide))
  refine e_iload dX11_worked_75 rfl ?_
  refine e_bipush (v := 20) dX11_worked_77 (by decide) ?_
  refine e_icmp_eq (tgt := 89) dX11_worked_79 (by decide) (fun c79 => absurd c79 (by decide)) (fun c79 => ?_)
  refine e_iload dX11_worked_82 rfl ?_
  refine e_bipush (v := 21) dX11_worked_84 (by decide) ?_
  refine e_icmp_ne (tgt := 105) dX11_worked_86 (by decide) (fun c86 => ?_) (fun c86 => absurd c86 (by decide))
  refine e_iload dX11_worked_105 rfl ?_
  refine e_bipush (v := 22) dX11_worked_107 (by decide) ?_
  refine e_icmp_ne (tgt := 123) dX11_worked_109 (by decide) (fun c109 => ?_) (fun c109 => absurd c109 (by decide))
  refine e_iload dX11_worked_123 rfl ?_
  refine e_bipush (v := 24) dX11_worked_125 (by decide) ?_
  refine e_icmp_eq (tgt := 137) dX11_worked_127 (by decide) (fun c127 => absurd c127 (by decide)) (fun c127 => ?_)
  refine e_iload dX11_worked_130 rfl ?_
  refine e_bipush (v := 25) dX11_worked_132 (by decide) ?_
  refine e_icmp_ne (tgt := 180) dX11_worked_134 (by decide) (fun c134 => absurd c134 (by decide)) (fun c134 => ?_)
  refine e_aload_n dX11_worked_137 rfl ?_
  refine e_iload_n dX11_worked_138 rfl ?_
  refine cV1v dX11_worked_139 mo_X11_sums ml_X11_231 sh_m rfl (Nat.le_of_ble_eq_true rfl) (by omega) (r_sums (by omega)) ?_
  refine e_aload_n dX11_worked_142 rfl ?_
  refine e_getR dX11_worked_143 fl_X11_66 sh_m rfl ?_
  refine e_iload_n dX11_worked_146 rfl ?_
  refine e_aload_n dX11_worked_147 rfl ?_
  refine e_getR dX11_worked_148 fl_X11_72 sh_m rfl ?_
  refine e_iload_n dX11_worked_151 rfl ?_
  refine e_ialdN (j := d) dX11_worked_152 (sa_m_sum) (by decide) (by omega) ?_
  rw [smM_s]
  refine e_iastN (j := d) dX11_worked_153 (sa_m_ahead) (by decide) (by omega) ?_
  refine e_aload_n dX11_worked_154 rfl ?_
  refine e_getR dX11_worked_155 fl_X11_69 sh_m rfl ?_
  refine e_iload_n dX11_worked_158 rfl ?_
  refine e_iload dX11_worked_159 rfl ?_
  refine e_iastN (j := d) dX11_worked_161 (sa_m_against) (by decide) (by omega) ?_
  refine e_aload_n dX11_worked_162 rfl ?_
  refine e_getR dX11_worked_163 fl_X11_72 sh_m rfl ?_
  refine e_iload_n dX11_worked_166 rfl ?_
  refine e_iconst (v := 0) dX11_worked_167 (by decide) ?_
  refine e_iastN (j := d) dX11_worked_168 (sa_m_sum) (by decide) (by omega) ?_
  refine e_aload_n dX11_worked_169 rfl ?_
  refine e_getR dX11_worked_170 fl_X11_75 sh_m rfl ?_
  refine e_iload_n dX11_worked_173 rfl ?_
  refine e_bipush (v := 20) dX11_worked_174 (by decide) ?_
  refine e_iastN (j := d) dX11_worked_176 (sa_m_sumBy) (by decide) (by omega) ?_
  refine e_goto (tgt := 329) dX11_worked_177 (by decide) ?_
  refine e_iinc (ls' := [_, _, _, _, _, _]) dX11_worked_329 rfl (nI_i1 _) (by decide) rfl ?_
  refine e_goto (tgt := 14) dX11_worked_332 (by decide) ?_
  exact k _ _
set_option maxHeartbeats 4000000 in
set_option maxRecDepth 20000 in
theorem s_26 {G : Gt} {M : Mm} {Q : Option Value → Mm → Prop} {d p t : Nat} {u4 u5 : Value} (ht : t ≤ 1000) (hp : p < t) (hto : M.1 251 0 = nI t) (hd : d ≤ 5) (hc : M.1 252 p = 26)  (k : ∀ a b, Ev G 3 mX11_worked 14 [.ref 238, .int 0, .int (nI d), .int (nI (p + 1)), a, b] [] (setI (teM M d) 256 d 26) Q) : Ev G 3 mX11_worked 14 [.ref 238, .int 0, .int (nI d), .int (nI p), u4, u5] [] M (Q) := by
  refine e_iload_n dX11_worked_14 rfl ?_
  refine e_aload_n dX11_worked_15 rfl ?_
  refine e_getR dX11_worked_16 fl_X11_47 sh_m rfl ?_
  refine e_iload_n dX11_worked_19 rfl ?_
  refine e_ialdN (j := 0) dX11_worked_20 (sa_m_lineTo) (by decide) (by omega) ?_
  rw [hto]
  refine e_icmp_ge (tgt := 335) dX11_worked_21 (by decide) (fun c21 => absurd c21 (fun q => q ((nI_ltI (by omega) (by omega)).mpr hp))) (fun c21 => ?_)
  refine e_aload_n dX11_worked_24 rfl ?_
  refine e_getR dX11_worked_25 fl_X11_50 sh_m rfl ?_
  refine e_iload_n dX11_worked_28 rfl ?_
  refine e_ialdN (j := p) dX11_worked_29 (sa_m_codes) (by decide) (by omega) ?_
  rw [hc]
  refine e_istore (ls' := [_, _, _, _, _, _]) dX11_worked_30 (by decide) rfl ?_
  refine e_iload dX11_worked_32 rfl ?_
  refine e_bipush (v := 28) dX11_worked_34 (by decide) ?_
  refine e_icmp_eq (tgt := 46) dX11_worked_36 (by decide) (fun c36 => absurd c36 (by decide)) (fun c36 => ?_)
  refine e_iload dX11_worked_39 rfl ?_
  refine e_bipush (v := 30) dX11_worked_41 (by decide) ?_
  refine e_icmp_ne (tgt := 75) dX11_worked_43 (by decide) (fun c43 => ?_) (fun c43 => absurd c43 (by decide))
  refine e_iload dX11_worked_75 rfl ?_
  refine e_bipush (v := 20) dX11_worked_77 (by decide) ?_
  refine e_icmp_eq (tgt := 89) dX11_worked_79 (by decide) (fun c79 => absurd c79 (by decide)) (fun c79 => ?_)
  refine e_iload dX11_worked_82 rfl ?_
  refine e_bipush (v := 21) dX11_worked_84 (by decide) ?_
  refine e_icmp_ne (tgt := 105) dX11_worked_86 (by decide) (fun c86 => ?_) (fun c86 => absurd c86 (by decide))
  refine e_iload dX11_worked_105 rfl ?_
  refine e_bipush (v := 22) dX11_worked_107 (by decide) ?_
  refine e_icmp_ne (tgt := 123) dX11_worked_109 (by decide) (fun c109 => ?_) (fun c109 => absurd c109 (by decide))
  refine e_iload dX11_worked_123 rfl ?_
  refine e_bipush (v := 24) dX11_worked_125 (by decide) ?_
  refine e_icmp_eq (tgt := 137) dX11_worked_127 (by decide) (fun c127 => absurd c127 (by decide)) (fun c127 => ?_)
  refine e_iload dX11_worked_130 rfl ?_
  refine e_bipush (v := 25) dX11_worked_132 (by decide) ?_
  refine e_icmp_ne (tgt := 180) dX11_worked_134 (by decide) (fun c134 => ?_) (fun c134 => absurd c134 (by decide))
  refine e_iload dX11_worked_180 rfl ?_
  refine e_bipush (v := 26) dX11_worked_182 (by decide) ?_
  refine e_icmp_eq (tgt := 194) dX11_worked_184 (by decide) (fun c184 => ?_) (fun c184 => absurd c184 (by decide))
  refine e_aload_n dX11_worked_194 rfl ?_
  refine e_iload_n dX11_worked_195 rfl ?_
  refine cV1v dX11_worked_196 mo_X11_tests ml_X11_237 sh_m rfl (Nat.le_of_ble_eq_true rfl) (by omega) (r_tests (by omega)) ?_
  refine e_aload_n dX11_worked_199 rfl ?_
  refine e_getR dX11_worked_200 fl_X11_63 sh_m rfl ?_
  refine e_iload_n dX11_worked_203 rfl ?_
  refine e_iload dX11_worked_204 rfl ?_
  refine e_iastN (j := d) dX11_worked_206 (sa_m_keptBy) (by decide) (by omega) ?_
  refine e_goto (tgt := 329) dX11_worked_207 (by decide) ?_
  refine e_iinc (ls' := [_, _, _, _, _, _]) dX11_worked_329 rfl (nI_i1 _) (by decide) rfl ?_
  refine e_goto (tgt := 14) dX11_worked_332 (by decide) ?_
  exact k _ _
set_option maxHeartbeats 4000000 in
set_option maxRecDepth 20000 in
theorem s_27 {G : Gt} {M : Mm} {Q : Option Value → Mm → Prop} {d p t : Nat} {u4 u5 : Value} (ht : t ≤ 1000) (hp : p < t) (hto : M.1 251 0 = nI t) (hd : d ≤ 5) (hc : M.1 252 p = 27)  (k : ∀ a b, Ev G 3 mX11_worked 14 [.ref 238, .int 0, .int (nI d), .int (nI (p + 1)), a, b] [] (setI (teM M d) 256 d 27) Q) : Ev G 3 mX11_worked 14 [.ref 238, .int 0, .int (nI d), .int (nI p), u4, u5] [] M (Q) := by
  refine e_iload_n dX11_worked_14 rfl ?_
  refine e_aload_n dX11_worked_15 rfl ?_
  refine e_getR dX11_worked_16 fl_X11_47 sh_m rfl ?_
  refine e_iload_n dX11_worked_19 rfl ?_
  refine e_ialdN (j := 0) dX11_worked_20 (sa_m_lineTo) (by decide) (by omega) ?_
  rw [hto]
  refine e_icmp_ge (tgt := 335) dX11_worked_21 (by decide) (fun c21 => absurd c21 (fun q => q ((nI_ltI (by omega) (by omega)).mpr hp))) (fun c21 => ?_)
  refine e_aload_n dX11_worked_24 rfl ?_
  refine e_getR dX11_worked_25 fl_X11_50 sh_m rfl ?_
  refine e_iload_n dX11_worked_28 rfl ?_
  refine e_ialdN (j := p) dX11_worked_29 (sa_m_codes) (by decide) (by omega) ?_
  rw [hc]
  refine e_istore (ls' := [_, _, _, _, _, _]) dX11_worked_30 (by decide) rfl ?_
  refine e_iload dX11_worked_32 rfl ?_
  refine e_bipush (v := 28) dX11_worked_34 (by decide) ?_
  refine e_icmp_eq (tgt := 46) dX11_worked_36 (by decide) (fun c36 => absurd c36 (by decide)) (fun c36 => ?_)
  refine e_iload dX11_worked_39 rfl ?_
  refine e_bipush (v := 30) dX11_worked_41 (by decide) ?_
  refine e_icmp_ne (tgt := 75) dX11_worked_43 (by decide) (fun c43 => ?_) (fun c43 => absurd c43 (by decide))
  refine e_iload dX11_worked_75 rfl ?_
  refine e_bipush (v := 20) dX11_worked_77 (by decide) ?_
  refine e_icmp_eq (tgt := 89) dX11_worked_79 (by decide) (fun c79 => absurd c79 (by decide)) (fun c79 => ?_)
  refine e_iload dX11_worked_82 rfl ?_
  refine e_bipush (v := 21) dX11_worked_84 (by decide) ?_
  refine e_icmp_ne (tgt := 105) dX11_worked_86 (by decide) (fun c86 => ?_) (fun c86 => absurd c86 (by decide))
  refine e_iload dX11_worked_105 rfl ?_
  refine e_bipush (v := 22) dX11_worked_107 (by decide) ?_
  refine e_icmp_ne (tgt := 123) dX11_worked_109 (by decide) (fun c109 => ?_) (fun c109 => absurd c109 (by decide))
  refine e_iload dX11_worked_123 rfl ?_
  refine e_bipush (v := 24) dX11_worked_125 (by decide) ?_
  refine e_icmp_eq (tgt := 137) dX11_worked_127 (by decide) (fun c127 => absurd c127 (by decide)) (fun c127 => ?_)
  refine e_iload dX11_worked_130 rfl ?_
  refine e_bipush (v := 25) dX11_worked_132 (by decide) ?_
  refine e_icmp_ne (tgt := 180) dX11_worked_134 (by decide) (fun c134 => ?_) (fun c134 => absurd c134 (by decide))
  refine e_iload dX11_worked_180 rfl ?_
  refine e_bipush (v := 26) dX11_worked_182 (by decide) ?_
  refine e_icmp_eq (tgt := 194) dX11_worked_184 (by decide) (fun c184 => absurd c184 (by decide)) (fun c184 => ?_)
  refine e_iload dX11_worked_187 rfl ?_
  refine e_bipush (v := 27) dX11_worked_189 (by decide) ?_
  refine e_icmp_ne (tgt := 210) dX11_worked_191 (by decide) (fun c191 => absurd c191 (by decide)) (fun c191 => ?_)
  refine e_aload_n dX11_worked_194 rfl ?_
  refine e_iload_n dX11_worked_195 rfl ?_
  refine cV1v dX11_worked_196 mo_X11_tests ml_X11_237 sh_m rfl (Nat.le_of_ble_eq_true rfl) (by omega) (r_tests (by omega)) ?_
  refine e_aload_n dX11_worked_199 rfl ?_
  refine e_getR dX11_worked_200 fl_X11_63 sh_m rfl ?_
  refine e_iload_n dX11_worked_203 rfl ?_
  refine e_iload dX11_worked_204 rfl ?_
  refine e_iastN (j := d) dX11_worked_206 (sa_m_keptBy) (by decide) (by omega) ?_
  refine e_goto (tgt := 329) dX11_worked_207 (by decide) ?_
  refine e_iinc (ls' := [_, _, _, _, _, _]) dX11_worked_329 rfl (nI_i1 _) (by decide) rfl ?_
  refine e_goto (tgt := 14) dX11_worked_332 (by decide) ?_
  exact k _ _
set_option maxHeartbeats 4000000 in
set_option maxRecDepth 20000 in
theorem s_29 {G : Gt} {M : Mm} {Q : Option Value → Mm → Prop} {d p t : Nat} {u4 u5 : Value} (ht : t ≤ 1000) (hp : p < t) (hto : M.1 251 0 = nI t) (hd : d ≤ 5) (hc : M.1 252 p = 29) (k : ∀ a : Int32, Ev G 3 mX11_worked 268 [.ref 238, .int 0, .int (nI d), .int (nI p), .int a, .int (avl M (d + 1))] [] (teM M (d + 1)) Q) : Ev G 3 mX11_worked 14 [.ref 238, .int 0, .int (nI (d + 1)), .int (nI p), u4, u5] [] M (Q) := by
  refine e_iload_n dX11_worked_14 rfl ?_
  refine e_aload_n dX11_worked_15 rfl ?_
  refine e_getR dX11_worked_16 fl_X11_47 sh_m rfl ?_
  refine e_iload_n dX11_worked_19 rfl ?_
  refine e_ialdN (j := 0) dX11_worked_20 (sa_m_lineTo) (by decide) (by omega) ?_
  rw [hto]
  refine e_icmp_ge (tgt := 335) dX11_worked_21 (by decide) (fun c21 => absurd c21 (fun q => q ((nI_ltI (by omega) (by omega)).mpr hp))) (fun c21 => ?_)
  refine e_aload_n dX11_worked_24 rfl ?_
  refine e_getR dX11_worked_25 fl_X11_50 sh_m rfl ?_
  refine e_iload_n dX11_worked_28 rfl ?_
  refine e_ialdN (j := p) dX11_worked_29 (sa_m_codes) (by decide) (by omega) ?_
  rw [hc]
  refine e_istore (ls' := [_, _, _, _, _, _]) dX11_worked_30 (by decide) rfl ?_
  refine e_iload dX11_worked_32 rfl ?_
  refine e_bipush (v := 28) dX11_worked_34 (by decide) ?_
  refine e_icmp_eq (tgt := 46) dX11_worked_36 (by decide) (fun c36 => absurd c36 (by decide)) (fun c36 => ?_)
  refine e_iload dX11_worked_39 rfl ?_
  refine e_bipush (v := 30) dX11_worked_41 (by decide) ?_
  refine e_icmp_ne (tgt := 75) dX11_worked_43 (by decide) (fun c43 => ?_) (fun c43 => absurd c43 (by decide))
  refine e_iload dX11_worked_75 rfl ?_
  refine e_bipush (v := 20) dX11_worked_77 (by decide) ?_
  refine e_icmp_eq (tgt := 89) dX11_worked_79 (by decide) (fun c79 => absurd c79 (by decide)) (fun c79 => ?_)
  refine e_iload dX11_worked_82 rfl ?_
  refine e_bipush (v := 21) dX11_worked_84 (by decide) ?_
  refine e_icmp_ne (tgt := 105) dX11_worked_86 (by decide) (fun c86 => ?_) (fun c86 => absurd c86 (by decide))
  refine e_iload dX11_worked_105 rfl ?_
  refine e_bipush (v := 22) dX11_worked_107 (by decide) ?_
  refine e_icmp_ne (tgt := 123) dX11_worked_109 (by decide) (fun c109 => ?_) (fun c109 => absurd c109 (by decide))
  refine e_iload dX11_worked_123 rfl ?_
  refine e_bipush (v := 24) dX11_worked_125 (by decide) ?_
  refine e_icmp_eq (tgt := 137) dX11_worked_127 (by decide) (fun c127 => absurd c127 (by decide)) (fun c127 => ?_)
  refine e_iload dX11_worked_130 rfl ?_
  refine e_bipush (v := 25) dX11_worked_132 (by decide) ?_
  refine e_icmp_ne (tgt := 180) dX11_worked_134 (by decide) (fun c134 => ?_) (fun c134 => absurd c134 (by decide))
  refine e_iload dX11_worked_180 rfl ?_
  refine e_bipush (v := 26) dX11_worked_182 (by decide) ?_
  refine e_icmp_eq (tgt := 194) dX11_worked_184 (by decide) (fun c184 => absurd c184 (by decide)) (fun c184 => ?_)
  refine e_iload dX11_worked_187 rfl ?_
  refine e_bipush (v := 27) dX11_worked_189 (by decide) ?_
  refine e_icmp_ne (tgt := 210) dX11_worked_191 (by decide) (fun c191 => ?_) (fun c191 => absurd c191 (by decide))
  refine e_iload dX11_worked_210 rfl ?_
  refine e_bipush (v := 100) dX11_worked_212 (by decide) ?_
  refine e_icmp_lt (tgt := 225) dX11_worked_214 (by decide) (fun c214 => ?_) (fun c214 => absurd c214 (by decide))
  refine e_iload dX11_worked_225 rfl ?_
  refine e_bipush (v := 20) dX11_worked_227 (by decide) ?_
  refine e_icmp_ge (tgt := 242) dX11_worked_229 (by decide) (fun c229 => ?_) (fun c229 => absurd c229 (by decide))
  refine e_iconst (v := 0) dX11_worked_242 (by decide) ?_
  refine e_istore (ls' := [_, _, _, _, _, _]) dX11_worked_243 (by decide) rfl ?_
  refine e_iload dX11_worked_245 rfl ?_
  refine e_bipush (v := 29) dX11_worked_247 (by decide) ?_
  refine e_icmp_ne (tgt := 268) dX11_worked_249 (by decide) (fun c249 => absurd c249 (by decide)) (fun c249 => ?_)
  refine e_aload_n dX11_worked_252 rfl ?_
  refine e_iload_n dX11_worked_253 rfl ?_
  refine cV1v dX11_worked_254 mo_X11_tests ml_X11_237 sh_m rfl (Nat.le_of_ble_eq_true rfl) (by omega) (r_tests (by omega)) ?_
  refine e_aload_n dX11_worked_257 rfl ?_
  refine e_getR dX11_worked_258 fl_X11_60 sh_m rfl ?_
  refine e_iload_n dX11_worked_261 rfl ?_
  refine e_ialdN (j := (d + 1)) dX11_worked_262 (sa_m_kept) (by decide) (by omega) ?_
  rw [teM_k]
  refine e_istore (ls' := [_, _, _, _, _, _]) dX11_worked_263 (by decide) rfl ?_
  refine e_iinc (ls' := [_, _, _, _, _, _]) dX11_worked_265 rfl (nI_dec _) (by decide) rfl ?_
  exact k _
set_option maxHeartbeats 4000000 in
set_option maxRecDepth 20000 in
theorem s_pop {G : Gt} {M : Mm} {Q : Option Value → Mm → Prop} {d p : Nat} {u4 v : Int32} (hd : d ≤ 5) (hb : M.1 263 (d + 1) = 1) (k : ∀ a : Int32, Ev G 3 mX11_worked 268 [.ref 238, .int 0, .int (nI d), .int (nI p), .int a, .int (if v = 0 then 1 else 0)] [] M Q) : Ev G 3 mX11_worked 268 [.ref 238, .int 0, .int (nI (d + 1)), .int (nI p), .int u4, .int v] [] M (Q) := by
  refine e_iload_n dX11_worked_268 rfl ?_
  refine e_if_le (tgt := 300) dX11_worked_269 (by decide) (fun c269 => absurd c269 (fun q => q ((nI_ltI (a := 0) (by omega) (by omega)).mpr (by omega)))) (fun c269 => ?_)
  refine e_aload_n dX11_worked_272 rfl ?_
  refine e_getR dX11_worked_273 fl_X11_84 sh_m rfl ?_
  refine e_iload_n dX11_worked_276 rfl ?_
  refine e_ialdN (j := (d + 1)) dX11_worked_277 (sa_m_byNot) (by decide) (by omega) ?_
  rw [hb]
  refine e_iconst (v := 1) dX11_worked_278 (by decide) ?_
  refine e_icmp_ne (tgt := 300) dX11_worked_279 (by decide) (fun c279 => absurd c279 (by decide)) (fun c279 => ?_)
  refine e_iload dX11_worked_282 rfl ?_
  refine e_if_ne (tgt := 291) dX11_worked_284 (by decide) (fun c284 => ?_) (fun c284 => ?_)
  · -- 284 jumps
    refine e_iconst (v := 0) dX11_worked_291 (by decide) ?_
    refine e_istore (ls' := [_, _, _, _, _, _]) dX11_worked_292 (by decide) rfl ?_
    refine e_iinc (ls' := [_, _, _, _, _, _]) dX11_worked_294 rfl (nI_dec _) (by decide) rfl ?_
    refine e_goto (tgt := 268) dX11_worked_297 (by decide) ?_
    rw [if_neg c284] at k
    exact k _
  · -- 284 goes on
    refine e_iconst (v := 1) dX11_worked_287 (by decide) ?_
    refine e_goto (tgt := 292) dX11_worked_288 (by decide) ?_
    refine e_istore (ls' := [_, _, _, _, _, _]) dX11_worked_292 (by decide) rfl ?_
    refine e_iinc (ls' := [_, _, _, _, _, _]) dX11_worked_294 rfl (nI_dec _) (by decide) rfl ?_
    refine e_goto (tgt := 268) dX11_worked_297 (by decide) ?_
    rw [if_pos c284] at k
    exact k _
set_option maxHeartbeats 4000000 in
set_option maxRecDepth 20000 in
theorem s_term0 {G : Gt} {M : Mm} {Q : Option Value → Mm → Prop} {d p : Nat} {u4 v : Int32} (hd : d ≤ 5) (hz : d = 0) (k : ∀ a b, Ev G 3 mX11_worked 14 [.ref 238, .int 0, .int (nI d), .int (nI (p + 1)), a, b] [] (setI M 261 d (if M.1 262 d = 0 then v else M.1 261 d * v)) Q) : Ev G 3 mX11_worked 268 [.ref 238, .int 0, .int (nI d), .int (nI p), .int u4, .int v] [] M (Q) := by
  refine e_iload_n dX11_worked_268 rfl ?_
  refine e_if_le (tgt := 300) dX11_worked_269 (by decide) (fun c269 => ?_) (fun c269 => absurd c269 (fun q => absurd ((nI_ltI (a := 0) (by omega) (by omega)).mp q) (by omega)))
  refine e_aload_n dX11_worked_300 rfl ?_
  refine e_getR dX11_worked_301 fl_X11_78 sh_m rfl ?_
  refine e_iload_n dX11_worked_304 rfl ?_
  refine e_aload_n dX11_worked_305 rfl ?_
  refine e_getR dX11_worked_306 fl_X11_81 sh_m rfl ?_
  refine e_iload_n dX11_worked_309 rfl ?_
  refine e_ialdN (j := d) dX11_worked_310 (sa_m_termBy) (by decide) (by omega) ?_
  refine e_if_ne (tgt := 319) dX11_worked_311 (by decide) (fun c311 => ?_) (fun c311 => ?_)
  · -- 311 jumps
    refine e_aload_n dX11_worked_319 rfl ?_
    refine e_getR dX11_worked_320 fl_X11_78 sh_m rfl ?_
    refine e_iload_n dX11_worked_323 rfl ?_
    refine e_ialdN (j := d) dX11_worked_324 (sa_m_term) (by decide) (by omega) ?_
    refine e_iload dX11_worked_325 rfl ?_
    refine e_imul dX11_worked_327 ?_
    refine e_iastN (j := d) dX11_worked_328 (sa_m_term) (by decide) (by omega) ?_
    refine e_iinc (ls' := [_, _, _, _, _, _]) dX11_worked_329 rfl (nI_i1 _) (by decide) rfl ?_
    refine e_goto (tgt := 14) dX11_worked_332 (by decide) ?_
    rw [if_neg c311] at k
    exact k _ _
  · -- 311 goes on
    refine e_iload dX11_worked_314 rfl ?_
    refine e_goto (tgt := 328) dX11_worked_316 (by decide) ?_
    refine e_iastN (j := d) dX11_worked_328 (sa_m_term) (by decide) (by omega) ?_
    refine e_iinc (ls' := [_, _, _, _, _, _]) dX11_worked_329 rfl (nI_i1 _) (by decide) rfl ?_
    refine e_goto (tgt := 14) dX11_worked_332 (by decide) ?_
    rw [if_pos c311] at k
    exact k _ _
set_option maxHeartbeats 4000000 in
set_option maxRecDepth 20000 in
theorem s_term1 {G : Gt} {M : Mm} {Q : Option Value → Mm → Prop} {d p : Nat} {u4 v : Int32} (hd : d ≤ 5) (hz : 0 < d) (hb : ¬ M.1 263 d = 1) (k : ∀ a b, Ev G 3 mX11_worked 14 [.ref 238, .int 0, .int (nI d), .int (nI (p + 1)), a, b] [] (setI M 261 d (if M.1 262 d = 0 then v else M.1 261 d * v)) Q) : Ev G 3 mX11_worked 268 [.ref 238, .int 0, .int (nI d), .int (nI p), .int u4, .int v] [] M (Q) := by
  refine e_iload_n dX11_worked_268 rfl ?_
  refine e_if_le (tgt := 300) dX11_worked_269 (by decide) (fun c269 => absurd c269 (fun q => q ((nI_ltI (a := 0) (by omega) (by omega)).mpr hz))) (fun c269 => ?_)
  refine e_aload_n dX11_worked_272 rfl ?_
  refine e_getR dX11_worked_273 fl_X11_84 sh_m rfl ?_
  refine e_iload_n dX11_worked_276 rfl ?_
  refine e_ialdN (j := d) dX11_worked_277 (sa_m_byNot) (by decide) (by omega) ?_
  refine e_iconst (v := 1) dX11_worked_278 (by decide) ?_
  refine e_icmp_ne (tgt := 300) dX11_worked_279 (by decide) (fun c279 => ?_) (fun c279 => absurd c279 hb)
  refine e_aload_n dX11_worked_300 rfl ?_
  refine e_getR dX11_worked_301 fl_X11_78 sh_m rfl ?_
  refine e_iload_n dX11_worked_304 rfl ?_
  refine e_aload_n dX11_worked_305 rfl ?_
  refine e_getR dX11_worked_306 fl_X11_81 sh_m rfl ?_
  refine e_iload_n dX11_worked_309 rfl ?_
  refine e_ialdN (j := d) dX11_worked_310 (sa_m_termBy) (by decide) (by omega) ?_
  refine e_if_ne (tgt := 319) dX11_worked_311 (by decide) (fun c311 => ?_) (fun c311 => ?_)
  · -- 311 jumps
    refine e_aload_n dX11_worked_319 rfl ?_
    refine e_getR dX11_worked_320 fl_X11_78 sh_m rfl ?_
    refine e_iload_n dX11_worked_323 rfl ?_
    refine e_ialdN (j := d) dX11_worked_324 (sa_m_term) (by decide) (by omega) ?_
    refine e_iload dX11_worked_325 rfl ?_
    refine e_imul dX11_worked_327 ?_
    refine e_iastN (j := d) dX11_worked_328 (sa_m_term) (by decide) (by omega) ?_
    refine e_iinc (ls' := [_, _, _, _, _, _]) dX11_worked_329 rfl (nI_i1 _) (by decide) rfl ?_
    refine e_goto (tgt := 14) dX11_worked_332 (by decide) ?_
    rw [if_neg c311] at k
    exact k _ _
  · -- 311 goes on
    refine e_iload dX11_worked_314 rfl ?_
    refine e_goto (tgt := 328) dX11_worked_316 (by decide) ?_
    refine e_iastN (j := d) dX11_worked_328 (sa_m_term) (by decide) (by omega) ?_
    refine e_iinc (ls' := [_, _, _, _, _, _]) dX11_worked_329 rfl (nI_i1 _) (by decide) rfl ?_
    refine e_goto (tgt := 14) dX11_worked_332 (by decide) ?_
    rw [if_pos c311] at k
    exact k _ _
set_option maxHeartbeats 4000000 in
set_option maxRecDepth 20000 in
theorem s_end {G : Gt} {M : Mm} {Q : Option Value → Mm → Prop} {d p t : Nat} {u4 u5 : Value} (ht : t ≤ 1000) (hp : p = t) (hto : M.1 251 0 = nI t) (k : Q (some (.int (avl M 0))) (teM M 0)) : Ev G 3 mX11_worked 14 [.ref 238, .int 0, .int (nI d), .int (nI p), u4, u5] [] M (Q) := by
  refine e_iload_n dX11_worked_14 rfl ?_
  refine e_aload_n dX11_worked_15 rfl ?_
  refine e_getR dX11_worked_16 fl_X11_47 sh_m rfl ?_
  refine e_iload_n dX11_worked_19 rfl ?_
  refine e_ialdN (j := 0) dX11_worked_20 (sa_m_lineTo) (by decide) (by omega) ?_
  rw [hto]
  refine e_icmp_ge (tgt := 335) dX11_worked_21 (by decide) (fun c21 => ?_) (fun c21 => absurd c21 (fun q => absurd ((nI_ltI (by omega) (by omega)).mp q) (by omega)))
  refine e_aload_n dX11_worked_335 rfl ?_
  refine e_iconst (v := 0) dX11_worked_336 (by decide) ?_
  refine cV1v dX11_worked_337 mo_X11_tests ml_X11_237 sh_m rfl (Nat.le_of_ble_eq_true rfl) (by omega) (r_tests (d := 0) (by decide)) ?_
  refine e_aload_n dX11_worked_340 rfl ?_
  refine e_getR dX11_worked_341 fl_X11_60 sh_m rfl ?_
  refine e_iconst (v := 0) dX11_worked_344 (by decide) ?_
  refine e_ialdN (j := 0) dX11_worked_345 (sa_m_kept) (by decide) (by omega) ?_
  rw [teM_k]
  refine e_iret dX11_worked_346 rfl ?_
  exact k
set_option maxHeartbeats 4000000 in
set_option maxRecDepth 20000 in
theorem s_fact {G : Gt} {M : Mm} {Q : Option Value → Mm → Prop} {d p t : Nat} {u4 u5 : Value} (ht : t ≤ 1000) (hp : p < t) (hto : M.1 251 0 = nI t) (hd : d ≤ 5) {z : Nat} (hz : 1 ≤ z ∧ z ≤ 4) (hc : M.1 252 p = nI z) (k : ∀ a : Int32, Ev G 3 mX11_worked 268 [.ref 238, .int 0, .int (nI d), .int (nI p), .int a, .int (M.1 264 z)] [] M Q) : Ev G 3 mX11_worked 14 [.ref 238, .int 0, .int (nI d), .int (nI p), u4, u5] [] M (Q) := by
  refine e_iload_n dX11_worked_14 rfl ?_
  refine e_aload_n dX11_worked_15 rfl ?_
  refine e_getR dX11_worked_16 fl_X11_47 sh_m rfl ?_
  refine e_iload_n dX11_worked_19 rfl ?_
  refine e_ialdN (j := 0) dX11_worked_20 (sa_m_lineTo) (by decide) (by omega) ?_
  rw [hto]
  refine e_icmp_ge (tgt := 335) dX11_worked_21 (by decide) (fun c21 => absurd c21 (fun q => q ((nI_ltI (by omega) (by omega)).mpr hp))) (fun c21 => ?_)
  refine e_aload_n dX11_worked_24 rfl ?_
  refine e_getR dX11_worked_25 fl_X11_50 sh_m rfl ?_
  refine e_iload_n dX11_worked_28 rfl ?_
  refine e_ialdN (j := p) dX11_worked_29 (sa_m_codes) (by decide) (by omega) ?_
  rw [hc]
  refine e_istore (ls' := [_, _, _, _, _, _]) dX11_worked_30 (by decide) rfl ?_
  refine e_iload dX11_worked_32 rfl ?_
  refine e_bipush (v := 28) dX11_worked_34 (by decide) ?_
  refine e_icmp_eq (tgt := 46) dX11_worked_36 (by decide) (fun c36 => absurd c36 (fun q => by have := nI_injN (a := z) (b := 28) (by omega) (by omega) q; omega)) (fun c36 => ?_)
  refine e_iload dX11_worked_39 rfl ?_
  refine e_bipush (v := 30) dX11_worked_41 (by decide) ?_
  refine e_icmp_ne (tgt := 75) dX11_worked_43 (by decide) (fun c43 => ?_) (fun c43 => absurd c43 (fun q => by have := nI_injN (a := z) (b := 30) (by omega) (by omega) q; omega))
  refine e_iload dX11_worked_75 rfl ?_
  refine e_bipush (v := 20) dX11_worked_77 (by decide) ?_
  refine e_icmp_eq (tgt := 89) dX11_worked_79 (by decide) (fun c79 => absurd c79 (fun q => by have := nI_injN (a := z) (b := 20) (by omega) (by omega) q; omega)) (fun c79 => ?_)
  refine e_iload dX11_worked_82 rfl ?_
  refine e_bipush (v := 21) dX11_worked_84 (by decide) ?_
  refine e_icmp_ne (tgt := 105) dX11_worked_86 (by decide) (fun c86 => ?_) (fun c86 => absurd c86 (fun q => by have := nI_injN (a := z) (b := 21) (by omega) (by omega) q; omega))
  refine e_iload dX11_worked_105 rfl ?_
  refine e_bipush (v := 22) dX11_worked_107 (by decide) ?_
  refine e_icmp_ne (tgt := 123) dX11_worked_109 (by decide) (fun c109 => ?_) (fun c109 => absurd c109 (fun q => by have := nI_injN (a := z) (b := 22) (by omega) (by omega) q; omega))
  refine e_iload dX11_worked_123 rfl ?_
  refine e_bipush (v := 24) dX11_worked_125 (by decide) ?_
  refine e_icmp_eq (tgt := 137) dX11_worked_127 (by decide) (fun c127 => absurd c127 (fun q => by have := nI_injN (a := z) (b := 24) (by omega) (by omega) q; omega)) (fun c127 => ?_)
  refine e_iload dX11_worked_130 rfl ?_
  refine e_bipush (v := 25) dX11_worked_132 (by decide) ?_
  refine e_icmp_ne (tgt := 180) dX11_worked_134 (by decide) (fun c134 => ?_) (fun c134 => absurd c134 (fun q => by have := nI_injN (a := z) (b := 25) (by omega) (by omega) q; omega))
  refine e_iload dX11_worked_180 rfl ?_
  refine e_bipush (v := 26) dX11_worked_182 (by decide) ?_
  refine e_icmp_eq (tgt := 194) dX11_worked_184 (by decide) (fun c184 => absurd c184 (fun q => by have := nI_injN (a := z) (b := 26) (by omega) (by omega) q; omega)) (fun c184 => ?_)
  refine e_iload dX11_worked_187 rfl ?_
  refine e_bipush (v := 27) dX11_worked_189 (by decide) ?_
  refine e_icmp_ne (tgt := 210) dX11_worked_191 (by decide) (fun c191 => ?_) (fun c191 => absurd c191 (fun q => by have := nI_injN (a := z) (b := 27) (by omega) (by omega) q; omega))
  refine e_iload dX11_worked_210 rfl ?_
  refine e_bipush (v := 100) dX11_worked_212 (by decide) ?_
  refine e_icmp_lt (tgt := 225) dX11_worked_214 (by decide) (fun c214 => ?_) (fun c214 => absurd c214 (fun q => q ((nI_ltI (b := 100) (by omega) (by omega)).mpr (by omega))))
  refine e_iload dX11_worked_225 rfl ?_
  refine e_bipush (v := 20) dX11_worked_227 (by decide) ?_
  refine e_icmp_ge (tgt := 242) dX11_worked_229 (by decide) (fun c229 => absurd c229 (fun q => q ((nI_ltI (b := 20) (by omega) (by omega)).mpr (by omega)))) (fun c229 => ?_)
  refine e_aload_n dX11_worked_232 rfl ?_
  refine e_getR dX11_worked_233 fl_X11_87 sh_m rfl ?_
  refine e_iload dX11_worked_236 rfl ?_
  refine e_ialdN (j := z) dX11_worked_238 (sa_m_valueOf) (by decide) (by omega) ?_
  refine e_goto (tgt := 243) dX11_worked_239 (by decide) ?_
  refine e_istore (ls' := [_, _, _, _, _, _]) dX11_worked_243 (by decide) rfl ?_
  refine e_iload dX11_worked_245 rfl ?_
  refine e_bipush (v := 29) dX11_worked_247 (by decide) ?_
  refine e_icmp_ne (tgt := 268) dX11_worked_249 (by decide) (fun c249 => ?_) (fun c249 => absurd c249 (fun q => by have := nI_injN (a := z) (b := 29) (by omega) (by omega) q; omega))
  exact k _
set_option maxHeartbeats 4000000 in
set_option maxRecDepth 20000 in
theorem s_num {G : Gt} {M : Mm} {Q : Option Value → Mm → Prop} {d p t : Nat} {u4 u5 : Value} (ht : t ≤ 1000) (hp : p < t) (hto : M.1 251 0 = nI t) (hd : d ≤ 5) {z m : Nat} (hz : z = 100 + m ∧ m ≤ 9999) (hc : M.1 252 p = nI z) (k : ∀ a : Int32, Ev G 3 mX11_worked 268 [.ref 238, .int 0, .int (nI d), .int (nI p), .int a, .int (nI m)] [] M Q) : Ev G 3 mX11_worked 14 [.ref 238, .int 0, .int (nI d), .int (nI p), u4, u5] [] M (Q) := by
  refine e_iload_n dX11_worked_14 rfl ?_
  refine e_aload_n dX11_worked_15 rfl ?_
  refine e_getR dX11_worked_16 fl_X11_47 sh_m rfl ?_
  refine e_iload_n dX11_worked_19 rfl ?_
  refine e_ialdN (j := 0) dX11_worked_20 (sa_m_lineTo) (by decide) (by omega) ?_
  rw [hto]
  refine e_icmp_ge (tgt := 335) dX11_worked_21 (by decide) (fun c21 => absurd c21 (fun q => q ((nI_ltI (by omega) (by omega)).mpr hp))) (fun c21 => ?_)
  refine e_aload_n dX11_worked_24 rfl ?_
  refine e_getR dX11_worked_25 fl_X11_50 sh_m rfl ?_
  refine e_iload_n dX11_worked_28 rfl ?_
  refine e_ialdN (j := p) dX11_worked_29 (sa_m_codes) (by decide) (by omega) ?_
  rw [hc]
  refine e_istore (ls' := [_, _, _, _, _, _]) dX11_worked_30 (by decide) rfl ?_
  refine e_iload dX11_worked_32 rfl ?_
  refine e_bipush (v := 28) dX11_worked_34 (by decide) ?_
  refine e_icmp_eq (tgt := 46) dX11_worked_36 (by decide) (fun c36 => absurd c36 (fun q => by have := nI_injN (a := z) (b := 28) (by omega) (by omega) q; omega)) (fun c36 => ?_)
  refine e_iload dX11_worked_39 rfl ?_
  refine e_bipush (v := 30) dX11_worked_41 (by decide) ?_
  refine e_icmp_ne (tgt := 75) dX11_worked_43 (by decide) (fun c43 => ?_) (fun c43 => absurd c43 (fun q => by have := nI_injN (a := z) (b := 30) (by omega) (by omega) q; omega))
  refine e_iload dX11_worked_75 rfl ?_
  refine e_bipush (v := 20) dX11_worked_77 (by decide) ?_
  refine e_icmp_eq (tgt := 89) dX11_worked_79 (by decide) (fun c79 => absurd c79 (fun q => by have := nI_injN (a := z) (b := 20) (by omega) (by omega) q; omega)) (fun c79 => ?_)
  refine e_iload dX11_worked_82 rfl ?_
  refine e_bipush (v := 21) dX11_worked_84 (by decide) ?_
  refine e_icmp_ne (tgt := 105) dX11_worked_86 (by decide) (fun c86 => ?_) (fun c86 => absurd c86 (fun q => by have := nI_injN (a := z) (b := 21) (by omega) (by omega) q; omega))
  refine e_iload dX11_worked_105 rfl ?_
  refine e_bipush (v := 22) dX11_worked_107 (by decide) ?_
  refine e_icmp_ne (tgt := 123) dX11_worked_109 (by decide) (fun c109 => ?_) (fun c109 => absurd c109 (fun q => by have := nI_injN (a := z) (b := 22) (by omega) (by omega) q; omega))
  refine e_iload dX11_worked_123 rfl ?_
  refine e_bipush (v := 24) dX11_worked_125 (by decide) ?_
  refine e_icmp_eq (tgt := 137) dX11_worked_127 (by decide) (fun c127 => absurd c127 (fun q => by have := nI_injN (a := z) (b := 24) (by omega) (by omega) q; omega)) (fun c127 => ?_)
  refine e_iload dX11_worked_130 rfl ?_
  refine e_bipush (v := 25) dX11_worked_132 (by decide) ?_
  refine e_icmp_ne (tgt := 180) dX11_worked_134 (by decide) (fun c134 => ?_) (fun c134 => absurd c134 (fun q => by have := nI_injN (a := z) (b := 25) (by omega) (by omega) q; omega))
  refine e_iload dX11_worked_180 rfl ?_
  refine e_bipush (v := 26) dX11_worked_182 (by decide) ?_
  refine e_icmp_eq (tgt := 194) dX11_worked_184 (by decide) (fun c184 => absurd c184 (fun q => by have := nI_injN (a := z) (b := 26) (by omega) (by omega) q; omega)) (fun c184 => ?_)
  refine e_iload dX11_worked_187 rfl ?_
  refine e_bipush (v := 27) dX11_worked_189 (by decide) ?_
  refine e_icmp_ne (tgt := 210) dX11_worked_191 (by decide) (fun c191 => ?_) (fun c191 => absurd c191 (fun q => by have := nI_injN (a := z) (b := 27) (by omega) (by omega) q; omega))
  refine e_iload dX11_worked_210 rfl ?_
  refine e_bipush (v := 100) dX11_worked_212 (by decide) ?_
  refine e_icmp_lt (tgt := 225) dX11_worked_214 (by decide) (fun c214 => absurd c214 (fun q => absurd ((nI_ltI (b := 100) (by omega) (by omega)).mp q) (by omega))) (fun c214 => ?_)
  refine e_iload dX11_worked_217 rfl ?_
  refine e_bipush (v := 100) dX11_worked_219 (by decide) ?_
  refine e_isub dX11_worked_221 ?_
  rw [show nI z - 100 = nI m from by rw [hz.1]; exact (nI_subN (a := 100 + m) (b := 100) (by omega)).trans (by rw [Nat.add_sub_cancel_left])]
  refine e_goto (tgt := 243) dX11_worked_222 (by decide) ?_
  refine e_istore (ls' := [_, _, _, _, _, _]) dX11_worked_243 (by decide) rfl ?_
  refine e_iload dX11_worked_245 rfl ?_
  refine e_bipush (v := 29) dX11_worked_247 (by decide) ?_
  refine e_icmp_ne (tgt := 268) dX11_worked_249 (by decide) (fun c249 => ?_) (fun c249 => absurd c249 (fun q => by have := nI_injN (a := z) (b := 29) (by omega) (by omega) q; omega))
  exact k _
end RWS
