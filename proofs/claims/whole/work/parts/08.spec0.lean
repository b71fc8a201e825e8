section SP0
def b2i (p : Prop) [Decidable p] : Int32 := if p then 1 else 0
theorem b2i_t {p : Prop} [Decidable p] (h : p) : b2i p = 1 := if_pos h
theorem b2i_f {p : Prop} [Decidable p] (h : ¬ p) : b2i p = 0 := if_neg h
theorem b2i_eq0 {p : Prop} [Decidable p] : b2i p = 0 ↔ ¬ p := by
  unfold b2i; split <;> simp_all
theorem b2i_eq1 {p : Prop} [Decidable p] : b2i p = 1 ↔ p := by
  unfold b2i; split <;> simp_all
theorem b2i_nar (p : Prop) [Decidable p] : narrow .boolean (.int (b2i p)) = .int (b2i p) := by
  unfold b2i; split <;> rfl
end SP0
