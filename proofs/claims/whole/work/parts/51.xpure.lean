section XPU
theorem adv_p {t : Tv} {x z : Xv} (h : x.2 ≤ t.1) (hz : z.2 = x.2) : (advX t z).2 ≤ t.1 := (adv_le (by rw [hz]; exact h)).2
theorem tkW_p {t : Tv} {x : Xv} {k : Nat} (h : x.2 ≤ t.1) : (tkW t x k).2 ≤ t.1 := adv_p h (by split <;> first | rfl | exact fail_2)
theorem tkN_p {t : Tv} {x : Xv} {a b : Int32} (h : x.2 ≤ t.1) : (tkN t x a b).2 ≤ t.1 := adv_p h (by split <;> first | exact fail_2 | (split <;> first | rfl | exact fail_2))
theorem tkM_p {t : Tv} {x : Xv} {Y : Yv} (h : x.2 ≤ t.1) : (tkM t x Y).2 ≤ t.1 := adv_p h (by split <;> first | exact fail_2 | (split <;> first | rfl | exact fail_2))
theorem tkK_p {t : Tv} {x : Xv} (h : x.2 ≤ t.1) : (tkK t x).2 ≤ t.1 := adv_p h (by split <;> first | rfl | exact fail_2)
theorem shH_p {t : Tv} {x : Xv} {Y : Yv} (h : x.2 ≤ t.1) : (shH t x Y).2 ≤ t.1 := by
  have : (shH t x Y).2 = x.2 := by
    unfold shH
    split <;> first | exact fail_2 | (split <;> first | rfl | exact fail_2)
  rw [this]; exact h
theorem if_p {t : Tv} {c : Prop} [Decidable c] {a b : Xv} (ha : a.2 ≤ t.1) (hb : b.2 ≤ t.1) : (if c then a else b).2 ≤ t.1 := by split <;> assumption
theorem fail_p {t : Tv} {x : Xv} {k : Int32} (h : x.2 ≤ t.1) : (failX t k x).2 ≤ t.1 := by rw [fail_2]; exact h
theorem adv_q {t : Tv} {x : Xv} (h : x.2 ≤ t.1) : (advX t x).2 ≤ t.1 := (adv_le h).2
theorem frL_p {t : Tv} : ∀ (k : Nat) (r : Xv × Yv), r.1.2 ≤ t.1 → (frL t k r).1.2 ≤ t.1 := by
  intro k
  induction k with
  | zero => intro r h; exact h
  | succ k ih =>
    intro r h
    rw [frL]
    split
    · exact ih _ (tkN_p (if_p (fail_p h) h))
    · exact h
/-- no law, or one that runs to its value -/
def lawQ (e : Ex) : Prop := e.po.length = 0 ∨ PO 25 e
theorem rdLine_p {b : Nat} {t : Tv} {r : Xv × Pv} (hb : 35 ≤ b) (hI : TI t) (h : r.1.2 ≤ t.1) : (rdLine b t r).1.2 ≤ t.1 := by
  unfold rdLine
  split
  · rw [rdS_1]; exact tkN_p (tkW_p (tkN_p (tkW_p (tkK_p (tkM_p (adv_q (if_p h (fail_p h))))))))
  · split
    · rw [rdNr_1]
      have h4 : (rn4 t r.1 r.2).2 ≤ t.1 := shH_p (adv_q (shH_p (adv_q h)))
      exact adv_q (if_p (fail_p h4) h4)
    · split
      · rw [rdG_1]; exact tkN_p (tkW_p (tkN_p (tkW_p (tkM_p (adv_q (if_p h (fail_p h)))))))
      · split
        · rw [rdF_1]; exact frL_p 12 _ (tkN_p (adv_q (if_p (fail_p h) h)))
        · split
          · rw [rdR_1]; exact tkN_p (adv_q (if_p (fail_p h) h))
          · split
            · rw [rdL_1]; exact (pN_ln hI b 0 0 (by decide) (by decide) (by unfold need; omega) _ (adv_q (if_p (fail_p h) h))).2.1
            · exact fail_p h
theorem rdLine_l {b : Nat} {t : Tv} {r : Xv × Pv} (hb : 35 ≤ b) (hI : TI t) (h : r.1.2 ≤ t.1) (hl : lawQ r.2.2) (h0 : (rdLine b t r).1.1 = 0) : lawQ (rdLine b t r).2.2 := by
  unfold rdLine at h0 ⊢
  split
  · rw [rdS_2]; exact hl
  · rename_i q1
    rw [if_neg q1] at h0
    split
    · rw [rdNr_2]; exact hl
    · rename_i q2
      rw [if_neg q2] at h0
      split
      · rw [rdG_2]; exact hl
      · rename_i q3
        rw [if_neg q3] at h0
        split
        · rw [rdF_2]; exact hl
        · rename_i q4
          rw [if_neg q4] at h0
          split
          · rw [rdR_2]; exact hl
          · rename_i q5
            rw [if_neg q5] at h0
            split
            · rename_i q6
              rw [if_pos q6, rdL_1] at h0
              rw [rdL_2]
              exact Or.inr ((pN_po hI (fun x q => nm_nn q) b 0 0 (by decide) (by decide) (by unfold need; omega) _ (adv_q (if_p (fail_p h) h)) h0).2.mono (by decide))
            · exact hl
theorem rdB_l {b : Nat} {t : Tv} (hb : 35 ≤ b) (hI : TI t) : ∀ (n : Nat) (r : Xv × Pv), r.1.2 ≤ t.1 → (r.1.1 = 0 → lawQ r.2.2) → (rdB b t n r).1.1 = 0 → lawQ (rdB b t n r).2.2 := by
  intro n
  induction n with
  | zero => intro r _ hl h0; exact hl h0
  | succ n ih =>
    intro r hx hl h0
    rw [rdB] at h0 ⊢
    split
    · rename_i hg
      rw [if_pos hg] at h0
      have hp := rdLine_p (b := b) hb hI hx
      refine ih _ ?_ (fun q => ?_) h0
      · exact (tkS_le hp).2
      · exact rdLine_l hb hI hx (hl hg.1) (tkS_0 q hp hI).1
    · rename_i hg
      rw [if_neg hg] at h0
      exact hl h0
theorem po_W : PO 25 exW := ⟨by decide, fun fc st hs => by
  show (match pstep fc (-1) st with | some st' => runP fc [] st' | none => none) = _
  unfold pstep
  rw [if_neg (by decide), if_neg (by decide), if_pos (by omega)]
  rfl⟩
theorem fillP_l {P : Pv} (h : lawQ P.2) : PO 25 (fillP P).2 := by
  show PO 25 (if P.2.po.length = 0 then exW else P.2)
  split
  · exact po_W
  · rename_i q
    exact h.resolve_left q
/-- the law as the yard holds it -/
def laidY (P : Pv) : Yv := (P.1.n, P.1.ns, P.1.nf, P.1.roof, P.1.2.2.2.2.1, P.1.2.2.2.2.2.1, fun a b c d => P.2.va (fc4 a b c d))
theorem YX_laid {M : Mm} {y : Nat} {P : Pv} (hP : YP M y P) (hL : LX M (y + 10) P.2.po) (h : PO 25 P.2) : YX M y (laidY P) := by
  obtain ⟨a, b, c, d, e, g, k⟩ := hP
  refine ⟨a, b, c, d, e, g, k, fun _ => ⟨P.2.po.length, hL.2.1, ?_, hL.1, fun a b c d => ?_⟩⟩
  · rcases Nat.eq_zero_or_pos P.2.po.length with q | q
    · exfalso
      have h1 := h.2 (fun _ => 0) [] (by decide)
      rw [List.eq_nil_of_length_eq_zero q] at h1
      cases h1
    · exact q
  · rw [pst_run hL.2.2 _ (Nat.le_refl _), List.take_length, h.2 _ [] (by decide)]
    rfl
end XPU
