section RDR
/-- nights by a set of colds -/
theorem nI_or10 {q : Nat} (hq : q ≤ 10) : (10 : Int32) - nI q = nI (10 - q) := nI_subN (a := 10) hq
set_option maxHeartbeats 4000000 in
set_option maxRecDepth 20000 in
theorem l_rch2 {G : Gt} {M : Mm} {E : Gs} (hJ : RJ M E) {T : Nat} (hI : SI E.Y E.S T) (hTT : T < 2 ^ 30) (hN : NS E.Y) {Q : Option Value → Mm → Prop} {j t q w : Nat} {a b : Int64} (ht : t ≤ 6) (hq : q ≤ 10) (hw : w < 64) (hK : ∀ (Mc : Mm) (u v : Value), TB 275 M Mc E.Y.n (itF E.Y E.S w t) → Ev G 6 mX11_chance 160 [.ref 238, .int (nI j), .int (nI t), .int (nI q), .long a, RA, .long b, RA, .int (nI w), .long (lN (wtN q w t)), RA, u, v] [] Mc Q) : ∀ (k : Nat) (i : Nat) (Mc : Mm) (v : Value), (i ≤ t) → (t < i + k) → (TB 275 M Mc E.Y.n (itF E.Y E.S w i)) → Ev G 6 mX11_chance 94 [.ref 238, .int (nI j), .int (nI t), .int (nI q), .long a, RA, .long b, RA, .int (nI w), .long (lN (wtN q w i)), RA, .int (nI i), v] [] Mc (Q) := by
  intro k
  induction k with
  | zero => intro i Mc v hi hk hT; exact absurd hk (by omega)
  | succ k ih =>
    intro i Mc v hi hk hT
    have hY := hJ.1
    have h6 := hY.1.2
    have hs5 := hY.2.1.2
    have hL := hJ.2.1
    have hS := hJ.2.2.1
    have hYc := hT.1.ry hY
    have hLc := hT.1.rl hL
    have hSc := hT.2.2
    refine e_iload dX11_chance_94 rfl ?_
    refine e_iload_n dX11_chance_96 rfl ?_
    refine e_icmp_ge (tgt := 160) dX11_chance_97 (by decide) (fun c97 => ?_) (fun c97 => ?_)
    · -- 97 jumps
      have hin : i = t := by have := ge_of (i := i) (n := t) (by omega) (by omega) c97; omega
      subst hin
      exact hK Mc _ _ hT
    · -- 97 goes on
      have hlt : i < t := lt_of (i := i) (n := t) (by omega) (by omega) c97
      refine e_iload dX11_chance_100 rfl ?_
      refine e_iload dX11_chance_102 rfl ?_
      refine e_ishr dX11_chance_104 ?_
      refine e_iconst (v := 1) dX11_chance_105 (by decide) ?_
      refine e_iand dX11_chance_106 ?_
      refine e_iconst (v := 1) dX11_chance_107 (by decide) ?_
      refine e_icmp_ne (tgt := 115) dX11_chance_108 (by decide) (fun c108 => ?_) (fun c108 => ?_)
      · -- 108 jumps
        refine e_iconst (v := 0) dX11_chance_115 (by decide) ?_
        refine e_istore (ls' := [_, _, _, _, _, _, _, _, _, _, _, _, _]) dX11_chance_116 (by decide) rfl ?_
        refine e_lload dX11_chance_118 rfl ?_
        refine e_iload dX11_chance_120 rfl ?_
        refine e_if_eq (tgt := 130) dX11_chance_122 (by decide) (fun c122 => ?_) (fun c122 => absurd c122 (by decide))
        refine e_bipush (v := 10) dX11_chance_130 (by decide) ?_
        refine e_iload_n dX11_chance_132 rfl ?_
        refine e_isub dX11_chance_133 ?_
        refine e_i2l dX11_chance_134 ?_
        refine e_lmul dX11_chance_135 ?_
        refine e_lstore (ls' := [_, _, _, _, _, _, _, _, _, _, _, _, _]) dX11_chance_136 (by decide) rfl ?_
        refine e_aload_n dX11_chance_138 rfl ?_
        refine e_iload dX11_chance_139 rfl ?_
        refine e_if_eq (tgt := 149) dX11_chance_141 (by decide) (fun c141 => ?_) (fun c141 => absurd c141 (by decide))
        refine e_iconst (v := 0) dX11_chance_149 (by decide) ?_
        refine cV1x dX11_chance_150 mo_X11_passes ml_X11_391 sh_m rfl (Nat.le_of_ble_eq_true rfl) (by omega) (r_passes hYc hSc hLc hN) ?_
        rintro r M2 ⟨rfl, hp1, hp2, hp3⟩
        dsimp only [Option.toList, List.cons_append, List.nil_append]
        refine e_pop dX11_chance_153 rfl ?_
        refine e_iinc (ls' := [_, _, _, _, _, _, _, _, _, _, _, _, _]) dX11_chance_154 rfl (nI_i1 _) (by decide) rfl ?_
        refine e_goto (tgt := 94) dX11_chance_157 (by decide) ?_
        have hcb : coldB w i = false := decide_eq_false c108
        have e1 : itF E.Y E.S w (i + 1) = passV E.Y (itF E.Y E.S w i) 0 := by rw [itF, hcb]; rfl
        have e2 : wtN q w (i + 1) = wtN q w i * (10 - q) := by rw [wtN, hcb]; rfl
        rw [nI_or10 hq, nI_l (by omega), lN_mul, ← e2]
        exact ih (i + 1) M2 _ (by omega) (by omega) (by rw [e1]; exact hT.pf tx5 hp1 hp2)
      · -- 108 goes on
        refine e_iconst (v := 1) dX11_chance_111 (by decide) ?_
        refine e_goto (tgt := 116) dX11_chance_112 (by decide) ?_
        refine e_istore (ls' := [_, _, _, _, _, _, _, _, _, _, _, _, _]) dX11_chance_116 (by decide) rfl ?_
        refine e_lload dX11_chance_118 rfl ?_
        refine e_iload dX11_chance_120 rfl ?_
        refine e_if_eq (tgt := 130) dX11_chance_122 (by decide) (fun c122 => absurd c122 (by decide)) (fun c122 => ?_)
        refine e_iload_n dX11_chance_125 rfl ?_
        refine e_i2l dX11_chance_126 ?_
        refine e_goto (tgt := 135) dX11_chance_127 (by decide) ?_
        refine e_lmul dX11_chance_135 ?_
        refine e_lstore (ls' := [_, _, _, _, _, _, _, _, _, _, _, _, _]) dX11_chance_136 (by decide) rfl ?_
        refine e_aload_n dX11_chance_138 rfl ?_
        refine e_iload dX11_chance_139 rfl ?_
        refine e_if_eq (tgt := 149) dX11_chance_141 (by decide) (fun c141 => absurd c141 (by decide)) (fun c141 => ?_)
        refine e_bipush (v := 9) dX11_chance_144 (by decide) ?_
        refine e_goto (tgt := 150) dX11_chance_146 (by decide) ?_
        refine cV1x dX11_chance_150 mo_X11_passes ml_X11_391 sh_m rfl (Nat.le_of_ble_eq_true rfl) (by omega) (r_passes hYc hSc hLc hN) ?_
        rintro r M2 ⟨rfl, hp1, hp2, hp3⟩
        dsimp only [Option.toList, List.cons_append, List.nil_append]
        refine e_pop dX11_chance_153 rfl ?_
        refine e_iinc (ls' := [_, _, _, _, _, _, _, _, _, _, _, _, _]) dX11_chance_154 rfl (nI_i1 _) (by decide) rfl ?_
        refine e_goto (tgt := 94) dX11_chance_157 (by decide) ?_
        have hcb : coldB w i = true := decide_eq_true c108
        have e1 : itF E.Y E.S w (i + 1) = passV E.Y (itF E.Y E.S w i) 9 := by rw [itF, hcb]; rfl
        have e2 : wtN q w (i + 1) = wtN q w i * q := by rw [wtN, hcb]; rfl
        rw [nI_l (by omega), lN_mul, ← e2]
        exact ih (i + 1) M2 _ (by omega) (by omega) (by rw [e1]; exact hT.pf tx5 hp1 hp2)
end RDR
