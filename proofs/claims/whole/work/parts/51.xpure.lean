section XPU
theorem adv_p {t : Tv} {x z : Xv} (h : x.2 ≤ t.1) (hz : z.2 = x.2) : (advX t z).2 ≤ t.1 := (adv_le (by rw [hz]; exact h)).2
theorem tkW_p {t : Tv} {x : Xv} {k : Nat} (h : x.2 ≤ t.1) : (tkW t x k).2 ≤ t.1 := adv_p h (by split <;> first | rfl | exact fail_2)
theorem tkN_p {t : Tv} {x : Xv} {a b : Int32} (h : x.2 ≤ t.1) : (tkN t x a b).2 ≤ t.1 := adv_p h (by split <;> first | exact fail_2 | (split <;> first | rfl | exact fail_2))
theorem tkM_p {t : Tv} {x : Xv} {Y : Yv} (h : x.2 ≤ t.1) : (tkM t x Y).2 ≤ t.1 := adv_p h (by split <;> first | exact fail_2 | (split <;> first | rfl | exact fail_2))
theorem tkK_p {t : Tv} {x : Xv} (h : x.2 ≤ t.1) : (tkK t x).2 ≤ t.1 := adv_p h (by split <;> first | rfl | exact fail_2)
theorem shH_p {t : Tv} {x : Xv} {Y : Yv} (h : x.2 ≤ t.1) : (shH t x Y).2 ≤ t.1 := by
  have : (shH t x Y).2 = x.2 := by
    unfold shH
    split <;> first | exact fail_2 | (split <;> first | rfl | exact fail_2)
  rw [this]; exact h
theorem if_p {t : Tv} {c : Prop} [Decidable c] {a b : Xv} (ha : a.2 ≤ t.1) (hb : b.2 ≤ t.1) : (if c then a else b).2 ≤ t.1 := by split <;> assumption
theorem fail_p {t : Tv} {x : Xv} {k : Int32} (h : x.2 ≤ t.1) : (failX t k x).2 ≤ t.1 := by rw [fail_2]; exact h
theorem adv_q {t : Tv} {x : Xv} (h : x.2 ≤ t.1) : (advX t x).2 ≤ t.1 := (adv_le h).2
theorem frL_p {t : Tv} : ∀ (k : Nat) (r : Xv × Yv), r.1.2 ≤ t.1 → (frL t k r).1.2 ≤ t.1 := by
  intro k
  induction k with
  | zero => intro r h; exact h
  | succ k ih =>
    intro r h
    rw [frL]
    split
    · exact ih _ (tkN_p (if_p (fail_p h) h))
    · exact h
/-- no law, or one that runs to its value -/
def lawQ (e : Ex) : Prop := e.po.length = 0 ∨ PO 25 e
theorem rdLine_p {b : Nat} {t : Tv} {r : Xv × Pv} (hb : 35 ≤ b) (hI : TI t) (h : r.1.2 ≤ t.1) : (rdLine b t r).1.2 ≤ t.1 := by
  unfold rdLine
  split
  · rw [rdS_1]; exact tkN_p (tkW_p (tkN_p (tkW_p (tkK_p (tkM_p (adv_q (if_p h (fail_p h))))))))
  · split
    · rw [rdNr_1]
      have h4 : (rn4 t r.1 r.2).2 ≤ t.1 := shH_p (adv_q (shH_p (adv_q h)))
      exact adv_q (if_p (fail_p h4) h4)
    · split
      · rw [rdG_1]; exact tkN_p (tkW_p (tkN_p (tkW_p (tkM_p (adv_q (if_p h (fail_p h)))))))
      · split
        · rw [rdF_1]; exact frL_p 12 _ (tkN_p (adv_q (if_p (fail_p h) h)))
        · split
          · rw [rdR_1]; exact tkN_p (adv_q (if_p (fail_p h) h))
          · split
            · rw [rdL_1]; exact (pN_ln hI b 0 0 (by decide) (by decide) (by unfold need; omega) _ (adv_q (if_p (fail_p h) h))).2.1
            · exact fail_p h
end XPU
