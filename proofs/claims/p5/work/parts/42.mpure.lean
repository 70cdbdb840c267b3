/-! the reference: ranks -/
def mr_lt (rw : Nat → Int32) (j r : Nat) : Bool := decide (rw (6 * j + 2) < rw (6 * r + 2) ∨ (rw (6 * j + 2) = rw (6 * r + 2) ∧ rw (6 * j) < rw (6 * r)))
def mr_rank (rw : Nat → Int32) (r : Nat) : Nat → Nat
  | 0 => 0
  | n + 1 => mr_rank rw r n + (if mr_lt rw n r = true then 1 else 0)
theorem mr_s1 {rw : Nat → Int32} {r n : Nat} (h : rw (6 * n + 2) < rw (6 * r + 2) ∨ (rw (6 * n + 2) = rw (6 * r + 2) ∧ rw (6 * n) < rw (6 * r))) : nI (mr_rank rw r n) + 1 = nI (mr_rank rw r (n + 1)) := by
  show nI (mr_rank rw r n) + nI 1 = nI (mr_rank rw r n + (if mr_lt rw n r = true then 1 else 0))
  rw [if_pos (show mr_lt rw n r = true from decide_eq_true h), nI_add]
theorem mr_s0 {rw : Nat → Int32} {r n : Nat} (h : ¬ (rw (6 * n + 2) < rw (6 * r + 2) ∨ (rw (6 * n + 2) = rw (6 * r + 2) ∧ rw (6 * n) < rw (6 * r)))) : nI (mr_rank rw r n) = nI (mr_rank rw r (n + 1)) := by
  show _ = nI (mr_rank rw r n + (if mr_lt rw n r = true then 1 else 0))
  rw [if_neg (show ¬ mr_lt rw n r = true from fun q => h (of_decide_eq_true q)), Nat.add_zero]
theorem mr_le (rw : Nat → Int32) (r : Nat) : ∀ n, mr_rank rw r n ≤ n := by
  intro n
  induction n with
  | zero => exact Nat.le_refl _
  | succ n ih =>
    show mr_rank rw r n + (if mr_lt rw n r = true then 1 else 0) ≤ n + 1
    split <;> omega
def mc_b (rw ma : Nat → Int32) (r : Nat) (n : Nat) : Int32 := if (∀ c, c < n → rw (6 * r + 2) ≤ ma c) then 1 else 0
theorem mc_s1 {rw ma : Nat → Int32} {r n : Nat} (h : ¬ mc_b rw ma r n = 0) (h2 : ¬ ma n < rw (6 * r + 2)) : (1 : Int32) = mc_b rw ma r (n + 1) := by
  have h3 := rs_n2 h
  refine (if_pos (fun c hc => ?_)).symm
  rcases Nat.lt_or_ge c n with q | q
  · exact h3 c q
  · obtain rfl : c = n := by omega
    exact sh_le_of h2
theorem mc_s2 {rw ma : Nat → Int32} {r n : Nat} (h : mc_b rw ma r n = 0) : (0 : Int32) = mc_b rw ma r (n + 1) :=
  (if_neg (fun q => rs_n1 h (fun c hc => q c (by omega)))).symm
theorem mc_s3 {rw ma : Nat → Int32} {r n : Nat} (h : ma n < rw (6 * r + 2)) : (0 : Int32) = mc_b rw ma r (n + 1) :=
  (if_neg (fun q => sh_nle h (q n (by omega)))).symm
theorem mc_01 (rw ma : Nat → Int32) (r n : Nat) : mc_b rw ma r n = 0 ∨ mc_b rw ma r n = 1 := by
  unfold mc_b
  split
  · exact Or.inr rfl
  · exact Or.inl rfl
def mb_lt (ve : Nat → Int32) (t k : Int32) (j i : Nat) : Bool := decide (¬ mo_b ve j t k = 0 ∧ ve (4 * j + 2) < ve (4 * i + 2))
def mb_rank (ve : Nat → Int32) (t k : Int32) (i : Nat) : Nat → Nat
  | 0 => 0
  | n + 1 => mb_rank ve t k i n + (if mb_lt ve t k n i = true then 1 else 0)
theorem mb_s1 {ve : Nat → Int32} {t k : Int32} {i n : Nat} (h : ¬ mo_b ve n t k = 0 ∧ ve (4 * n + 2) < ve (4 * i + 2)) : nI (mb_rank ve t k i n) + 1 = nI (mb_rank ve t k i (n + 1)) := by
  show nI (mb_rank ve t k i n) + nI 1 = nI (mb_rank ve t k i n + (if mb_lt ve t k n i = true then 1 else 0))
  rw [if_pos (show mb_lt ve t k n i = true from decide_eq_true h), nI_add]
theorem mb_s0 {ve : Nat → Int32} {t k : Int32} {i n : Nat} (h : ¬ (¬ mo_b ve n t k = 0 ∧ ve (4 * n + 2) < ve (4 * i + 2))) : nI (mb_rank ve t k i n) = nI (mb_rank ve t k i (n + 1)) := by
  show _ = nI (mb_rank ve t k i n + (if mb_lt ve t k n i = true then 1 else 0))
  rw [if_neg (show ¬ mb_lt ve t k n i = true from fun q => h (of_decide_eq_true q)), Nat.add_zero]
theorem mb_le (ve : Nat → Int32) (t k : Int32) (i : Nat) : ∀ n, mb_rank ve t k i n ≤ n := by
  intro n
  induction n with
  | zero => exact Nat.le_refl _
  | succ n ih =>
    show mb_rank ve t k i n + (if mb_lt ve t k n i = true then 1 else 0) ≤ n + 1
    split <;> omega
