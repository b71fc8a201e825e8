section RRI
theorem wf_up : ∀ (b l d : Nat) (nf : List Int32) (va : (Nat → Int32) → Int32), wfX b l d nf va → wfX (b + 1) l d nf va := by
  intro b
  induction b with
  | zero => intro l d nf va h; exact h.elim
  | succ b ih =>
    intro l d nf va h
    rcases h with ⟨h1, h2, h3⟩ | ⟨h1, h2⟩
    · refine Or.inl ⟨h1, h2, ?_⟩
      rcases h3 with q | q | ⟨nf1, va1, q, e⟩ | ⟨nf1, va1, q, e⟩
      · exact Or.inl q
      · exact Or.inr (Or.inl q)
      · exact Or.inr (Or.inr (Or.inl ⟨nf1, va1, ih _ _ _ _ q, e⟩))
      · exact Or.inr (Or.inr (Or.inr ⟨nf1, va1, ih _ _ _ _ q, e⟩))
    · refine Or.inr ⟨h1, ?_⟩
      rcases h2 with q | ⟨op, nf1, va1, nf2, va2, ho, q1, q2, e⟩
      · exact Or.inl (ih _ _ _ _ q)
      · refine Or.inr ⟨op, nf1, va1, nf2, va2, ho, ?_, ih _ _ _ _ q2, e⟩
        by_cases z : l = 1
        · rw [if_pos z] at q1 ⊢; exact ih _ _ _ _ q1
        · rw [if_neg z] at q1 ⊢; exact ih _ _ _ _ q1
theorem wf_le {b c l d : Nat} {nf : List Int32} {va : (Nat → Int32) → Int32} (h : wfX b l d nf va) (hc : b ≤ c) : wfX c l d nf va := by
  induction hc with
  | refl => exact h
  | step _ ih => exact wf_up _ _ _ _ _ ih
def WF (l d : Nat) (e : Ex) : Prop := ∃ B, wfX B l d e.nf e.va
theorem WF.low {l d : Nat} {e : Ex} (h : WF (l + 1) d e) (hl : l ≤ 3) : WF l d e := by
  obtain ⟨B, h⟩ := h
  exact ⟨B + 1, Or.inr ⟨hl, Or.inl h⟩⟩
theorem WF.bin {l d : Nat} {a c : Ex} {op : Int32} (ha : WF (if l = 1 then 2 else l) d a) (hc : WF (l + 1) d c) (ho : opL l op) (hl : l ≤ 3) : WF l d (exBin op a c) := by
  obtain ⟨A, ha⟩ := ha
  obtain ⟨C, hc⟩ := hc
  refine ⟨A + C + 1, Or.inr ⟨hl, Or.inr ⟨op, a.nf, a.va, c.nf, c.va, ho, ?_, wf_le hc (by omega), rfl, fun _ => rfl⟩⟩⟩
  by_cases z : l = 1
  · rw [if_pos z] at ha ⊢; exact wf_le ha (by omega)
  · rw [if_neg z] at ha ⊢; exact wf_le ha (by omega)
theorem op_L {t : Tv} {x : Xv} {l : Nat} (hl : l ≤ 3) (hj : ¬ jnX t x l = -13) : opL l (jnX t x l) := by
  rcases (by omega : l = 0 ∨ l = 1 ∨ l = 2 ∨ l = 3) with rfl | rfl | rfl | rfl
  · exact Or.inl ⟨rfl, (jn_0 hj).imp (fun q => q.2) (fun q => q.2)⟩
  · exact Or.inr (Or.inl ⟨rfl, (jn_1 hj).imp (fun q => q.2) (fun q => q.2)⟩)
  · exact Or.inr (Or.inr (Or.inl ⟨rfl, (jn_2 hj).imp (fun q => q.2) (fun q => q.2)⟩))
  · exact Or.inr (Or.inr (Or.inr ⟨rfl, (jn_3 hj).2⟩))
theorem pW_wf {t : Tv} {sub : Xv → Rx} {l d : Nat} (hl : l ≤ 3) (hl1 : ¬ l = 1) (hln : ∀ x', x'.2 ≤ t.1 → LN t x' (sub x')) (hs : ∀ x', x'.2 ≤ t.1 → (sub x').1.1 = 0 → WF (l + 1) d (sub x').2) :
    ∀ (n : Nat) (r : Rx), r.1.2 ≤ t.1 → (r.1.1 = 0 → WF l d r.2) → (pW t sub l n r).1.1 = 0 → WF l d (pW t sub l n r).2 := by
  intro n
  induction n with
  | zero => intro r _ h h0; exact h h0
  | succ n ih =>
    intro r hr h h0
    by_cases hj : jnX t r.1 l = -13
    · rw [pW, if_pos hj] at h0 ⊢; exact h h0
    · rw [pW, if_neg hj, if_neg hl1] at h0 ⊢
      have ha := (adv_le (t := t) hr).2
      refine ih _ (hln _ ha).2.1 (fun q => ?_) h0
      exact WF.bin (by rw [if_neg hl1]; exact h (jn_ok hj).1) (hs _ ha q) (op_L hl hj) hl
theorem lf_wf {t : Tv} {x : Xv} {d : Nat} (hd : d ≤ 4) (h : ¬ lfX t x = -13) : WF 4 d (exLeaf (lfX t x)) := by
  refine ⟨1, Or.inl ⟨rfl, hd, ?_⟩⟩
  unfold lfX at h ⊢
  by_cases hN : isN t x
  · rw [if_pos hN]
    obtain ⟨m, hm, em⟩ := nm_lt hN
    have hn := nm_nn hN
    refine Or.inr (Or.inl ⟨m, by omega, ?_, fun fc => ?_⟩)
    · show [if nmX t x = -1 then 1 else if nmX t x = -2 then 2 else if nmX t x = -3 then 3 else if nmX t x = -4 then 4 else 100 + nmX t x] = _
      rw [if_neg (fun q => hn (by rw [q]; decide)), if_neg (fun q => hn (by rw [q]; decide)), if_neg (fun q => hn (by rw [q]; decide)), if_neg (fun q => hn (by rw [q]; decide)), em]
      show [nI 100 + nI m] = [nI (100 + m)]
      rw [nI_add]
    · show (if nmX t x < 0 then fc (-1 - nmX t x).toNatClampNeg else nmX t x) = _
      rw [if_neg hn, em]
  · rw [if_neg hN] at h ⊢
    by_cases a : isW t x 21
    · rw [if_pos a]; exact Or.inl ⟨0, by decide, rfl, fun _ => rfl⟩
    · rw [if_neg a] at h ⊢
      by_cases b : isW t x 22
      · rw [if_pos b]; exact Or.inl ⟨1, by decide, rfl, fun _ => rfl⟩
      · rw [if_neg b] at h ⊢
        by_cases c : isW t x 23
        · rw [if_pos c]; exact Or.inl ⟨2, by decide, rfl, fun _ => rfl⟩
        · rw [if_neg c] at h ⊢
          by_cases e : isW t x 24
          · rw [if_pos e]; exact Or.inl ⟨3, by decide, rfl, fun _ => rfl⟩
          · rw [if_neg e] at h; exact absurd rfl h
/-- what was read is well built -/
theorem pN_wf {t : Tv} (hI : TI t) : ∀ (b l d : Nat) (x : Xv), l ≤ 4 → d ≤ 5 → need l d ≤ b → x.2 ≤ t.1 → (pN t b l d x).1.1 = 0 → WF l d (pN t b l d x).2 := by
  intro b
  induction b with
  | zero => intro l d x hl hd hn; exact absurd hn (by unfold need; omega)
  | succ b ih =>
    intro l d x hl hd hn hx h0
    by_cases h4 : 4 ≤ l
    · have e4 : l = 4 := by omega
      subst e4
      rw [pN, if_pos h4] at h0 ⊢
      rw [pP] at h0 ⊢
      by_cases hb : lfX t x = -13 ∧ ¬ isW t x 18 ∧ ¬ isS t x 40
      · rw [if_pos hb] at h0; exact absurd h0 (fail_nz (k := 1) (by decide) hx hI)
      · rw [if_neg hb] at h0 ⊢
        by_cases h5 : 5 ≤ d
        · rw [if_pos h5] at h0; exact absurd h0 (fail_nz (k := 5) (by decide) hx hI)
        · rw [if_neg h5] at h0 ⊢
          have ha := (adv_le (t := t) hx).2
          by_cases w : isW t x 18
          · rw [if_pos w] at h0 ⊢
            obtain ⟨B, hB⟩ := ih 4 (d + 1) (advX t x) (by decide) (by omega) (by unfold need at hn ⊢; omega) ha h0
            exact ⟨B + 1, Or.inl ⟨rfl, by omega, Or.inr (Or.inr (Or.inl ⟨_, _, hB, rfl, fun _ => rfl⟩))⟩⟩
          · rw [if_neg w] at h0 ⊢
            by_cases s : isS t x 40
            · rw [if_pos s] at h0 ⊢
              have h1 : (pN t b 0 (d + 1) (advX t x)).1.1 = 0 := Classical.byContradiction (fun q => by
                have h2 : (tkS t (pN t b 0 (d + 1) (advX t x)).1 41).1 = 0 := h0
                rw [tkS_1 q] at h2; exact q h2)
              obtain ⟨B, hB⟩ := ih 0 (d + 1) (advX t x) (by decide) (by omega) (by unfold need at hn ⊢; omega) ha h1
              exact ⟨B + 1, Or.inl ⟨rfl, by omega, Or.inr (Or.inr (Or.inr ⟨_, _, hB, rfl, fun _ => rfl⟩))⟩⟩
            · rw [if_neg s]
              exact lf_wf (by omega) (fun q => hb ⟨q, w, s⟩)
    · rw [pN, if_neg h4] at h0 ⊢
      have hn1 : need (l + 1) d ≤ b := by unfold need at hn ⊢; omega
      have hln := pN_ln hI b (l + 1) d (by omega) hd hn1
      have hs : ∀ x', x'.2 ≤ t.1 → (pN t b (l + 1) d x').1.1 = 0 → WF (l + 1) d (pN t b (l + 1) d x').2 := fun x' hx' => ih (l + 1) d x' (by omega) hd hn1 hx'
      by_cases h1 : l = 1
      · subst h1
        rw [pW_1] at h0 ⊢
        by_cases hj : jnX t (pN t b (1 + 1) d x).1 1 = -13
        · rw [if_pos hj] at h0 ⊢; exact (hs x hx h0).low (by decide)
        · rw [if_neg hj] at h0 ⊢
          have ha := (adv_le (t := t) (hln x hx).2.1).2
          exact WF.bin (hs x hx (jn_ok hj).1) (hs _ ha h0) (op_L (by decide) hj) (by decide)
      · exact pW_wf (by omega) h1 hln hs 1000 _ (hln x hx).2.1 (fun q => (hs x hx q).low (by omega)) h0
set_option maxHeartbeats 500000 in
set_option maxRecDepth 20000 in
theorem r_reads {G : Gt} {M : Mm} {t : Tv} {x : Xv} {b : Nat} (hG : GX M t x) (hb : 35 ≤ b) (hc : M.1 238 23 = 1000) : Call G 3 mX11_reads [.ref 238] M (fun r M' => RF M M' ∧ RA1 M' t (tkS t (pN t b 0 0 x).1 59) r ∧ ((tkS t (pN t b 0 0 x).1 59).1 = 0 → M'.1 238 23 = nI (1000 + (pN t b 0 0 x).2.nf.length) ∧ sgm (M'.1 252) 1000 (pN t b 0 0 x).2.nf)) := by
  refine Call.intro rfl (Nat.le_of_ble_eq_true rfl) ?_
  show Ev G _ mX11_reads 0 [.ref 238, RA, RA, RA, RA, RA] [] M _
  refine e_iconst (v := 0) dX11_reads_0 (by decide) ?_
  refine e_istore_n (ls' := [_, _, _, _, _, _]) dX11_reads_1 (by decide) rfl ?_
  refine e_iconst (v := 1) dX11_reads_2 (by decide) ?_
  refine e_istore_n (ls' := [_, _, _, _, _, _]) dX11_reads_3 (by decide) rfl ?_
  refine e_aload_n dX11_reads_4 rfl ?_
  refine e_getR dX11_reads_5 fl_X11_56 sh_m rfl ?_
  refine e_iconst (v := 0) dX11_reads_8 (by decide) ?_
  refine e_iconst (v := 0) dX11_reads_9 (by decide) ?_
  refine e_zastN (j := 0) dX11_reads_10 (sa_m_compared) (by decide) (by omega) ?_
  have hI := hG.2.2.1
  have hS : ST M (setI M 254 0 (vp_nar .boolean 0)) t x [] := ⟨⟨RF.rfl'.s (by omega), hG.s (by omega), by rw [setI_n (by decide)]; exact hc, trivial⟩, Nat.zero_le _⟩
  refine (pr_all hI b).2 0 0 (by decide) (by decide) (by unfold need; omega) x [] _ _ _ _ hS (Or.inl rfl) (fun _ => by rw [setI_p]; rfl) (fun q M9 hR h9 => ?_) (fun q M2 v3 v4 v5 hS2 hK hJ hC => ?_)
  · rw [tkS_1 q]; exact ⟨hR, Or.inr ⟨q, rfl, h9⟩, fun y => absurd y q⟩
  · rw [List.nil_append] at hS2
    by_cases c : isS t (pN t b 0 0 x).1 59
    · have e5 : advX t (pN t b 0 0 x).1 = tkS t (pN t b 0 0 x).1 59 := by unfold tkS; rw [if_pos c]
      refine j_done hS2 c (fun M3 hS3 => ?_)
      rw [e5] at hS3
      exact ⟨hS3.1.1, Or.inl ⟨hS3.1.2.1.1, rfl, hS3.1.2.1⟩, fun _ => ⟨hS3.1.2.2.1, hS3.1.2.2.2⟩⟩
    · have hG2 := hS2.1.2.1
      have hz := fail_nz (t := t) (x := (pN t b 0 0 x).1) (k := 1) (by decide) hG2.2.1 hI
      have e5 : tkS t (pN t b 0 0 x).1 59 = failX t (nI 1) (pN t b 0 0 x).1 := by unfold tkS; rw [if_neg c]; exact fl_adv (by decide) hG2.2.1 hI
      rw [e5]
      have n2 := nj_2 (hJ 2 (by decide) (by decide) (by decide))
      have n0 := nj_0 (hJ 0 (by decide) (by decide) (by decide))
      exact j_fail hS2 (by decide) n2.1 n2.2 (nj_3 (hJ 3 (by decide) (by decide) (by decide))) ((hC (by decide)).imp (fun z => z.2) id) n0.1 n0.2 (Or.inr rfl) (Or.inl c) (fun M' hO h9 => ⟨hS2.1.1.trans hO.rf, Or.inr ⟨hz, rfl, h9⟩, fun y => absurd y hz⟩)
end RRI
