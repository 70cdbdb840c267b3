/-! the reference: rows whose first four numbers stay -/
def mrow (rw rw' : Nat → Int32) (n : Nat) : Prop := ∀ r, r < n → ∀ c, c < 4 → rw' (6 * r + c) = rw (6 * r + c)
theorem mrow_rf (rw : Nat → Int32) (n : Nat) : mrow rw rw n := fun _ _ _ _ => rfl
theorem mrow_take {rw w1 : Nat → Int32} {n r' : Nat} {v g : Int32} (h : mrow rw w1 n) : mrow rw (upd (upd w1 (6 * r' + 4) v) (6 * r' + 5) g) n := by
  intro r hr c hc
  rw [pk_un (by omega), pk_un (by omega)]
  exact h r hr c hc
theorem mr_lt_c {rw rw' : Nat → Int32} {n j r : Nat} (h : mrow rw rw' n) (hj : j < n) (hr : r < n) : mr_lt rw' j r = mr_lt rw j r := by
  have a := h j hj 2 (by decide)
  have b := h r hr 2 (by decide)
  have c : rw' (6 * j) = rw (6 * j) := h j hj 0 (by decide)
  have d : rw' (6 * r) = rw (6 * r) := h r hr 0 (by decide)
  unfold mr_lt
  rw [a, b, c, d]
theorem mr_rank_c {rw rw' : Nat → Int32} {n r : Nat} (h : mrow rw rw' n) (hr : r < n) : ∀ k, k ≤ n → mr_rank rw' r k = mr_rank rw r k := by
  intro k
  induction k with
  | zero => exact fun _ => rfl
  | succ k ih =>
    intro hk
    show mr_rank rw' r k + (if mr_lt rw' k r = true then 1 else 0) = mr_rank rw r k + (if mr_lt rw k r = true then 1 else 0)
    rw [ih (by omega), mr_lt_c h (by omega) hr]
def mr_full (rw : Nat → Int32) (n : Nat) : Prop := ∀ k, k < n → ∃ r, r < n ∧ mr_rank rw r n = k
theorem mr_full_c {rw rw' : Nat → Int32} {n : Nat} (h : mrow rw rw' n) (hf : mr_full rw n) : mr_full rw' n := by
  intro k hk
  obtain ⟨r, hr, e⟩ := hf k hk
  exact ⟨r, hr, by rw [mr_rank_c h hr n (Nat.le_refl _)]; exact e⟩
theorem mr_hit {rw : Nat → Int32} {n k : Nat} {r : Int32} (hf : mr_full rw n) (hk : k < n) (h : (r = -2 ∧ ∀ i, i < n → ¬ mr_rank rw i n = k) ∨ ∃ i, i < n ∧ r = nI i ∧ mr_rank rw i n = k) : ∃ i, i < n ∧ r = nI i ∧ mr_rank rw i n = k := by
  rcases h with ⟨-, h⟩ | h
  · obtain ⟨i, hi, e⟩ := hf k hk
    exact absurd e (h i hi)
  · exact h
