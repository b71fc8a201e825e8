section RRH
set_option maxHeartbeats 500000
section
variable {G : Gt} {M0 : Mm} {t : Tv} {Q : Option Value → Mm → Prop} {d : Nat}
theorem pW_1 {sub : Xv → Rx} {r : Rx} : pW t sub 1 1000 r = if jnX t r.1 1 = -13 then r else ((sub (advX t r.1)).1, exBin (jnX t r.1 1) r.2 (sub (advX t r.1)).2) := by
  show pW t sub 1 (999 + 1) r = _
  rw [pW]
  by_cases h : jnX t r.1 1 = -13
  · rw [if_pos h, if_pos h]
  · rw [if_neg h, if_neg h, if_pos rfl]
theorem exB_nf {L : List Int32} {c : Int32} {a b : Ex} : L ++ (exBin c a b).nf = L ++ a.nf ++ [opC c] ++ b.nf := by
  show L ++ (a.nf ++ (opC c :: b.nf)) = _
  simp
/-- a level whose joiners may come again -/
theorem pr_lev {l : Nat} {sub : Xv → Rx} (hd : d ≤ 5) (hl : l ≤ 3) (hl1 : ¬ l = 1) (hln : ∀ x', x'.2 ≤ t.1 → LN t x' (sub x'))
    (hsub : ∀ (x : Xv) (L : List Int32) (M : Mm) (u3 u4 u5 : Value), ST M0 M t x L → (d = 0 ∨ ¬ M.1 253 d = 1) → (l = 0 → M.1 254 d = 0) → (¬ (sub x).1.1 = 0 → ∀ M', RF M0 M' → M'.1 238 9 = (sub x).1.1 → Q (some (.int 0)) M') →
      ((sub x).1.1 = 0 → ∀ (M' : Mm) (v3 v4 v5 : Value), ST M0 M' t (sub x).1 (L ++ (sub x).2.nf) → KOC (l + 1) d M M' → NJ (l + 1) t (sub x).1 → (l = 0 → CP M' t (sub x).1 d) → Ev G 3 mX11_reads 11 [.ref 238, .int (nI d), .int 0, v3, v4, v5] [] M' Q) →
      Ev G 3 mX11_reads 11 [.ref 238, .int (nI d), .int 1, u3, u4, u5] [] M Q) : PRL G Q M0 t l (fun x => pW t sub l 1000 (sub x)) d := by
  intro x L M u3 u4 u5 hS ho hc kf ks
  refine hsub x L M u3 u4 u5 hS ho (fun q => hc (by omega)) (fun q => ?_) (fun q M' v3 v4 v5 hS' hK hJ hC => ?_)
  · have e : pW t sub l 1000 (sub x) = sub x := pW_f 1000 _ q
    have kf' : ¬ (pW t sub l 1000 (sub x)).1.1 = 0 → ∀ M', RF M0 M' → M'.1 238 9 = (pW t sub l 1000 (sub x)).1.1 → Q (some (.int 0)) M' := kf
    rw [e] at kf'
    exact kf' q
  · have h1 := (hln x hS.1.2.1.2.1).2.2 q
    have h2 := hS.1.2.1.2.2.2.1.2.1
    refine pr_loop hd hl hl1 hln hsub 1000 (sub x) L M' v3 v4 v5 hS' (by omega) (ho.imp id (fun z => by rw [(hK d (Nat.le_refl _)).1]; exact z)) hJ hC kf (fun z M2 w3 w4 w5 a b c e => ks z M2 w3 w4 w5 a ((hK.mono (by omega)).trans b) c (fun y => e (by omega)))
theorem pr_one {sub : Xv → Rx} (hd : d ≤ 5) (hln : ∀ x', x'.2 ≤ t.1 → LN t x' (sub x')) (hsub : PRL G Q M0 t 2 sub d) : PRL G Q M0 t 1 (fun x => pW t sub 1 1000 (sub x)) d := by
  intro x L M u3 u4 u5 hS ho hc kf ks
  have kf' : ¬ (pW t sub 1 1000 (sub x)).1.1 = 0 → ∀ M', RF M0 M' → M'.1 238 9 = (pW t sub 1 1000 (sub x)).1.1 → Q (some (.int 0)) M' := kf
  have ks' : (pW t sub 1 1000 (sub x)).1.1 = 0 → ∀ (M' : Mm) (v3 v4 v5 : Value), ST M0 M' t (pW t sub 1 1000 (sub x)).1 (L ++ (pW t sub 1 1000 (sub x)).2.nf) → KOC 1 d M M' → NJ 1 t (pW t sub 1 1000 (sub x)).1 → (1 ≤ 1 → CP M' t (pW t sub 1 1000 (sub x)).1 d) → Ev G 3 mX11_reads 11 [.ref 238, .int (nI d), .int 0, v3, v4, v5] [] M' Q := ks
  rw [pW_1] at kf' ks'
  refine hsub x L M u3 u4 u5 hS ho (fun q => absurd q (by decide)) (fun q => ?_) (fun q M' v3 v4 v5 hS' hK hJ hC => ?_)
  · rw [if_pos (jn_f q)] at kf'
    exact kf' q
  · have hc0 : M'.1 254 d = 0 := ((hK d (Nat.le_refl _)).2 (Or.inr (by decide))).trans (hc (by decide))
    have ho' : d = 0 ∨ ¬ M'.1 253 d = 1 := ho.imp id (fun z => by rw [(hK d (Nat.le_refl _)).1]; exact z)
    by_cases hj : jnX t (sub x).1 1 = -13
    · rw [if_pos hj] at ks'
      exact ks' q M' v3 v4 v5 hS' (hK.mono (by decide)) (hJ.low (Or.inl rfl)) (fun _ => Or.inl ⟨hc0, nj_1 hj⟩)
    · rw [if_neg hj] at ks' kf'
      refine j_all hS' hd (by decide) hj (fun _ => hc0) (fun M1 hS1 e1 e2 e3 => ?_)
      have hK1 : KOC 1 d M' M1 := kc_j e1 e2 e3
      refine hsub (advX t (sub x).1) _ M1 v3 v4 v5 hS1 (ho'.imp id (fun z => by rw [e1]; exact z)) (fun q => absurd q (by decide)) kf' (fun z M2 w3 w4 w5 hS2 hK2 hJ2 _ => ?_)
      refine ks' z M2 w3 w4 w5 ?_ (((hK.mono (by decide)).trans hK1).trans (hK2.mono (by decide))) (hJ2.low (Or.inl rfl)) (fun _ => Or.inr ?_)
      · show ST M0 M2 t (sub (advX t (sub x).1)).1 (L ++ (exBin (jnX t (sub x).1 1) (sub x).2 (sub (advX t (sub x).1)).2).nf)
        rw [exB_nf]; exact hS2
      · rw [(hK2 d (Nat.le_refl _)).2 (Or.inr (by decide)), e3, if_neg (by decide), if_pos rfl]
/-- what a part may start with -/
theorem lf_cases {M : Mm} {x : Xv} (hG : GX M t x) : (kdX t x = 3 ∧ fcX t x = 0 ∧ (exLeaf (lfX t x)).nf = [100 + nmX t x] ∧ ¬ lfX t x = -13) ∨ (kdX t x = 2 ∧ 0 < fcX t x ∧ (exLeaf (lfX t x)).nf = [fcX t x] ∧ ¬ lfX t x = -13 ∧ ¬ isW t x 18) ∨ (lfX t x = -13 ∧ fcX t x = 0 ∧ ¬ kdX t x = 3) := by
  by_cases hN : isN t x
  · have e : lfX t x = nmX t x := by unfold lfX; rw [if_pos hN]
    obtain ⟨m, hm, em⟩ := nm_lt hN
    have w : ∀ k, ¬ isW t x k := fun k q => absurd (hN.2.symm.trans q.2.1) (by decide)
    refine Or.inl ⟨hN.2, by unfold fcX; rw [if_neg (w _), if_neg (w _), if_neg (w _), if_neg (w _)], ?_, ?_⟩
    · rw [e]
      have hn := nm_nn hN
      show [if nmX t x = -1 then 1 else if nmX t x = -2 then 2 else if nmX t x = -3 then 3 else if nmX t x = -4 then 4 else 100 + nmX t x] = _
      rw [if_neg (fun q => hn (by rw [q]; decide)), if_neg (fun q => hn (by rw [q]; decide)), if_neg (fun q => hn (by rw [q]; decide)), if_neg (fun q => hn (by rw [q]; decide))]
    · rw [e]; exact fun q => nm_nn hN (by rw [q]; decide)
  · have hk : ¬ kdX t x = 3 := fun q => hN ⟨hG.1, q⟩
    have n18 : ∀ {k}, ¬ k = 18 → isW t x k → ¬ isW t x 18 := fun hk q z => hk (q.2.2.symm.trans z.2.2)
    unfold lfX fcX
    rw [if_neg hN]
    by_cases a : isW t x 21
    · rw [if_pos a, if_pos a]; exact Or.inr (Or.inl ⟨a.2.1, by decide, rfl, by decide, n18 (by decide) a⟩)
    · rw [if_neg a, if_neg a]
      by_cases b : isW t x 22
      · rw [if_pos b, if_pos b]; exact Or.inr (Or.inl ⟨b.2.1, by decide, rfl, by decide, n18 (by decide) b⟩)
      · rw [if_neg b, if_neg b]
        by_cases c : isW t x 23
        · rw [if_pos c, if_pos c]; exact Or.inr (Or.inl ⟨c.2.1, by decide, rfl, by decide, n18 (by decide) c⟩)
        · rw [if_neg c, if_neg c]
          by_cases e : isW t x 24
          · rw [if_pos e, if_pos e]; exact Or.inr (Or.inl ⟨e.2.1, by decide, rfl, by decide, n18 (by decide) e⟩)
          · rw [if_neg e, if_neg e]; exact Or.inr (Or.inr ⟨rfl, rfl, hk⟩)
theorem pr_part {rec : Nat → Nat → Xv → Rx} (hd : d ≤ 5) (h4 : d < 5 → PR4 G Q M0 t (rec 4 (d + 1)) (d + 1)) (h0 : d < 5 → PRL G Q M0 t 0 (rec 0 (d + 1)) (d + 1)) : PR4 G Q M0 t (pP t rec d) d := by
  intro x L M u3 u4 u5 hS kf ks
  have hG := hS.1.2.1
  have hI := hG.2.2.1
  have hlf := lf_cases hG
  rw [pP] at kf ks
  by_cases hb : lfX t x = -13 ∧ ¬ isW t x 18 ∧ ¬ isS t x 40
  · rw [if_pos hb] at kf ks
    have hz := fail_nz (t := t) (x := x) (k := 1) (by decide) hG.2.1 hI
    obtain ⟨F0, hm⟩ : fcX t x = 0 ∧ ¬ kdX t x = 3 := by
      rcases hlf with q | q | q
      · exact absurd hb.1 q.2.2.2
      · exact absurd hb.1 q.2.2.2.1
      · exact q.2
    exact g_bad hS hd F0 hb.2.1 hb.2.2 hm (fun M' hO h9 => kf hz M' (hS.1.1.trans hO.rf) h9)
  · rw [if_neg hb] at kf ks
    have to65 : (∀ v3 v4 v5 : Int32, Ev G 3 mX11_reads 65 [.ref 238, .int (nI d), .int 1, .int v3, .int v4, .int v5] [] M Q) → Ev G 3 mX11_reads 11 [.ref 238, .int (nI d), .int 1, u3, u4, u5] [] M Q := by
      intro k
      rcases hlf with q | q | q
      · exact g_m hS hd q.2.1 (fun z => absurd (q.1.symm.trans z.2.1) (by decide)) (fun z => absurd (q.1.symm.trans z.2.1) (by decide)) q.1 (k _ _ _)
      · exact g_f hS hd (fun z => by rw [z] at q; exact absurd q.2.1 (by decide)) q.2.2.2.2 (fun z => absurd (q.1.symm.trans z.2.1) (by decide)) (k _ _ _)
      · by_cases w : isW t x 18
        · exact g_n hS hd q.2.1 w (fun z => absurd (w.2.1.symm.trans z.2.1) (by decide)) (k _ _ _)
        · by_cases s : isS t x 40
          · exact g_o hS hd q.2.1 w s (k _ _ _)
          · exact absurd ⟨q.1, w, s⟩ hb
    by_cases h5 : 5 ≤ d
    · rw [if_pos h5] at kf ks
      have hz := fail_nz (t := t) (x := x) (k := 5) (by decide) hG.2.1 hI
      exact to65 (fun v3 v4 v5 => h_deep hS (by omega) (fun M' hO h9 => kf hz M' (hS.1.1.trans hO.rf) h9))
    · rw [if_neg h5] at kf ks
      have hd4 : d ≤ 4 := by omega
      by_cases w : isW t x 18
      · rw [if_pos w] at kf ks
        have hk : ¬ kdX t x = 0 := by rw [w.2.1]; decide
        have F0 : fcX t x = 0 := by
          rcases hlf with q | q | q
          · exact q.2.1
          · exact absurd w q.2.2.2.2
          · exact q.2.1
        refine g_n hS hd F0 w (fun z => absurd (w.2.1.symm.trans z.2.1) (by decide)) (h_n hS hd4 hk (fun M1 hS1 e1 e2 e3 => ?_))
        refine h4 (by omega) (advX t x) _ M1 _ _ _ hS1 kf (fun q pc M2 y v3 v4 v5 hpc hP hy hK => ?_)
        refine p_pop hd4 hpc (((hK (d + 1) (Nat.le_refl _)).1).trans e1) (ks q pc M2 y v3 v4 v5 hpc ?_ hy ((show KOC 4 d M M1 from fun z hz => ⟨(e3 z hz).1, fun _ => (e3 z hz).2⟩).trans hK.up))
        have e : L ++ (exNot (rec 4 (d + 1) (advX t x)).2).nf = L ++ [30] ++ (rec 4 (d + 1) (advX t x)).2.nf := by
          show L ++ (30 :: (rec 4 (d + 1) (advX t x)).2.nf) = _
          simp
        show SP M0 M2 t y (L ++ (exNot (rec 4 (d + 1) (advX t x)).2).nf)
        rw [e]; exact hP
      · rw [if_neg w] at kf ks
        by_cases s : isS t x 40
        · rw [if_pos s] at kf ks
          have hk : ¬ kdX t x = 0 := by rw [s.2.1]; decide
          have F0 : fcX t x = 0 := by
            rcases hlf with q | q | q
            · exact q.2.1
            · exact absurd (q.1.symm.trans s.2.1) (by decide)
            · exact q.2.1
          refine g_o hS hd F0 w s (h_o hS hd4 hk (fun M1 hS1 e1 e2 e3 => ?_))
          refine h0 (by omega) (advX t x) _ M1 _ _ _ hS1 (Or.inr (by rw [e1]; decide)) (fun _ => e2) (fun q => ?_) (fun q M2 v3 v4 v5 hS2 hK hJ hC => ?_)
          · have kf' : ¬ (tkS t (rec 0 (d + 1) (advX t x)).1 41).1 = 0 → ∀ M', RF M0 M' → M'.1 238 9 = (tkS t (rec 0 (d + 1) (advX t x)).1 41).1 → Q (some (.int 0)) M' := kf
            rw [tkS_1 q] at kf'
            exact kf' q
          · by_cases c : isS t (rec 0 (d + 1) (advX t x)).1 41
            · refine j_close hS2 hd (by omega) c (fun M3 hP3 f1 f2 => ?_)
              have e5 : advX t (rec 0 (d + 1) (advX t x)).1 = tkS t (rec 0 (d + 1) (advX t x)).1 41 := by unfold tkS; rw [if_pos c]
              refine ks (show (tkS t (rec 0 (d + 1) (advX t x)).1 41).1 = 0 by rw [← e5, adv_1]; exact q) 379 M3 (rec 0 (d + 1) (advX t x)).1 v3 v4 v5 (Or.inr rfl) ?_ e5 (((show KOC 4 d M M1 from fun z hz => ⟨(e3 z hz).1, fun _ => (e3 z hz).2⟩).trans hK.up).trans (KOC.eq f1 f2))
              have e : L ++ (exPar (rec 0 (d + 1) (advX t x)).2).nf = L ++ [28] ++ (rec 0 (d + 1) (advX t x)).2.nf ++ [29] := by
                show L ++ (28 :: ((rec 0 (d + 1) (advX t x)).2.nf ++ [29])) = _
                simp
              show SP M0 M3 t _ (L ++ (exPar (rec 0 (d + 1) (advX t x)).2).nf)
              rw [e]; exact hP3
            · have hG2 := hS2.1.2.1
              have hz := fail_nz (t := t) (x := (rec 0 (d + 1) (advX t x)).1) (k := 1) (by decide) hG2.2.1 hI
              have e5 : tkS t (rec 0 (d + 1) (advX t x)).1 41 = failX t (nI 1) (rec 0 (d + 1) (advX t x)).1 := by unfold tkS; rw [if_neg c]; exact fl_adv (by decide) hG2.2.1 hI
              have kf' : ¬ (tkS t (rec 0 (d + 1) (advX t x)).1 41).1 = 0 → ∀ M', RF M0 M' → M'.1 238 9 = (tkS t (rec 0 (d + 1) (advX t x)).1 41).1 → Q (some (.int 0)) M' := kf
              rw [e5] at kf'
              have n2 := nj_2 (hJ 2 (by decide) (by decide) (by decide))
              have n0 := nj_0 (hJ 0 (by decide) (by decide) (by decide))
              exact j_fail hS2 (by omega) n2.1 n2.2 (nj_3 (hJ 3 (by decide) (by decide) (by decide))) ((hC (by decide)).imp (fun z => z.2) id) n0.1 n0.2 (Or.inl c) (Or.inr (by omega)) (fun M' hO h9 => kf' hz M' (hS2.1.1.trans hO.rf) h9)
        · rw [if_neg s] at kf ks
          rcases hlf with q | q | q
          · have hk : ¬ kdX t x = 0 := by rw [q.1]; decide
            refine g_m hS hd q.2.1 w s q.1 (h_m hS hd4 q.1 hk (fun M' hP e1 e2 => ?_))
            refine ks (by show (advX t x).1 = 0; rw [adv_1]; exact hG.1) 152 M' x _ _ _ (Or.inl rfl) ?_ rfl (KOC.eq e1 e2)
            show SP M0 M' t x (L ++ (exLeaf (lfX t x)).nf)
            rw [q.2.2.1]; exact hP
          · have hk : ¬ kdX t x = 0 := by rw [q.1]; decide
            refine g_f hS hd (fun z => by rw [z] at q; exact absurd q.2.1 (by decide)) w s (h_f hS hd4 q.2.1 hk (fun M' hP e1 e2 => ?_))
            refine ks (by show (advX t x).1 = 0; rw [adv_1]; exact hG.1) 152 M' x _ _ _ (Or.inl rfl) ?_ rfl (KOC.eq e1 e2)
            show SP M0 M' t x (L ++ (exLeaf (lfX t x)).nf)
            rw [q.2.2.1]; exact hP
          · exact absurd ⟨q.1, w, s⟩ hb
/-- the whole grammar -/
theorem pr_all (hI : TI t) : ∀ b, (∀ d, d ≤ 5 → need 4 d ≤ b → PR4 G Q M0 t (pN t b 4 d) d) ∧ (∀ l d, l ≤ 3 → d ≤ 5 → need l d ≤ b → PRL G Q M0 t l (pN t b l d) d) := by
  intro b
  induction b with
  | zero => exact ⟨fun d hd h => absurd h (by unfold need; omega), fun l d hl hd h => absurd h (by unfold need; omega)⟩
  | succ b ih =>
    refine ⟨fun d hd h => ?_, fun l d hl hd h => ?_⟩
    · have e : pN t (b + 1) 4 d = pP t (pN t b) d := by funext x; rw [pN, if_pos (by decide)]
      rw [e]
      exact pr_part hd (fun q => ih.1 (d + 1) (by omega) (by unfold need at h ⊢; omega)) (fun q => ih.2 0 (d + 1) (by decide) (by omega) (by unfold need at h ⊢; omega))
    · have e : pN t (b + 1) l d = fun x => pW t (pN t b (l + 1) d) l 1000 (pN t b (l + 1) d x) := by funext x; rw [pN, if_neg (by omega)]
      rw [e]
      have hn : need (l + 1) d ≤ b := by unfold need at h ⊢; omega
      have hln : ∀ x', x'.2 ≤ t.1 → LN t x' (pN t b (l + 1) d x') := pN_ln hI b (l + 1) d (by omega) hd hn
      by_cases h1 : l = 1
      · subst h1
        exact pr_one hd hln (ih.2 2 d (by decide) hd hn)
      · refine pr_lev hd hl h1 hln ?_
        by_cases h3 : l = 3
        · subst h3
          intro x L M u3 u4 u5 hS ho _ kf ks
          exact pr_4 hd (ih.1 d hd hn) x L M u3 u4 u5 hS ho kf (fun q M' v3 v4 v5 a c => ks q M' v3 v4 v5 a c (fun k z1 z2 _ => absurd z1 (by omega)) (fun z => absurd z (by decide)))
        · intro x L M u3 u4 u5 hS ho hc kf ks
          exact ih.2 (l + 1) d (by omega) hd hn x L M u3 u4 u5 hS ho (fun q => hc (by omega)) kf (fun q M' v3 v4 v5 a c e g => ks q M' v3 v4 v5 a c e (fun z => g (by omega)))
end
end RRH
