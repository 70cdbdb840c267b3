/-! the reference: what telling leaves -/
def my_same (y y' : Nat → Int32) : Prop := ∀ k, k ≠ 15 → k ≠ 16 → k ≠ 21 → y' k = y k
theorem my_rf (y : Nat → Int32) : my_same y y := fun _ _ _ _ => rfl
theorem my_tr {a b c : Nat → Int32} (h1 : my_same a b) (h2 : my_same b c) : my_same a c := fun k a1 a2 a3 => (h2 k a1 a2 a3).trans (h1 k a1 a2 a3)
theorem my_tell {y : Nat → Int32} {v1 v2 v3 : Int32} : my_same y (upd (upd (upd y 21 v1) 15 v2) 16 v3) := fun k h1 h2 h3 => by
  unfold upd
  rw [if_neg h2, if_neg h1, if_neg h3]
