/-! a new object: the first call's answers; the law's head -/
theorem fr_t (t : Int32) : xt_b 0 t = 0 := (xt_iff (n := 0) (by decide) t).mpr (by omega)
theorem fr_tm (t : Int32) : mi_b (Int32.toInt64 t) 0 (Int32.toInt64 (0 - 1)) = 0 := (sm_t (n := 0) (by decide) t).mpr (fr_t t)
theorem fr_change {n3 : Nat} {x ru ma x' : Nat → Int32} {V R Lo V' R' Lo' : List (Nat → Int32)} {gv gv' tk tk' t ky fr vl r : Int32} (h6 : x 6 = 0) (h : xo_change n3 x ru ma gv tk V R Lo t ky fr vl r x' gv' tk' V' R' Lo') : r = -1 := by
  rcases h with ⟨-, h, -⟩ | ⟨h, -⟩
  · exact h
  · rw [h6] at h
    exact absurd (fr_t t) h
theorem fr_mchange {y mm y' : Nat → Int32} {t ky fr vl r : Int32} (h1 : y 1 = 0) (h : mo_change y mm t ky fr vl r y') : r = -1 := by
  rcases h with ⟨-, h, -⟩ | ⟨h, -⟩
  · exact h
  · exact absurd (Or.inl (by rw [h1]; exact fr_tm t)) h
theorem fr_row {n3 : Nat} {x ru ma x' : Nat → Int32} {V R Lo R' Lo' : List (Nat → Int32)} {gv gv' ky tm vl r : Int32} (h6 : x 6 = 0) (h : xo_row n3 x ru ma gv V R Lo ky tm vl r x' gv' R' Lo') : r = -1 := by
  rcases h with ⟨-, h, -⟩ | ⟨-, -, -, h, -⟩
  · exact h
  · exact absurd h6 h
theorem fr_mrow {y y' : Nat → Int32} {ky tm vl r : Int32} (h1 : y 1 = 0) (h : mo_row y ky tm vl r y') : r = -1 := by
  rcases h with ⟨-, h, -⟩ | ⟨h, -⟩
  · exact h
  · exact absurd (Or.inr (Or.inr (Or.inr h1))) h
theorem fr_asOf {x : Nat → Int32} {t ky tm r : Int32} (h6 : x 6 = 0) (h : ((xt_b (x 6) t = 0 ∨ xk_b ky = 0 ∨ xm_b tm = 0) ∧ r = -1) ∨ (¬ (xt_b (x 6) t = 0 ∨ xk_b ky = 0 ∨ xm_b tm = 0) ∧ r = -2)) : r = -1 := by
  rcases h with ⟨-, h⟩ | ⟨h, -⟩
  · exact h
  · exact absurd (Or.inl (by rw [h6]; exact fr_t t)) h
theorem fr_masOf {y : Nat → Int32} {t ky tm r : Int32} (h1 : y 1 = 0) (h10 : y 10 = 0) (h : mo_asOf0 y t ky tm r) : r = -1 := by
  rcases h h10 with ⟨-, h⟩ | ⟨h, -⟩
  · exact h
  · exact absurd (Or.inl (by rw [h1]; exact fr_tm t)) h
theorem fr_out {i r r' : Int32} (h : (i = -1 ∧ r = 0) ∨ (¬ i = -1 ∧ r = -1)) (h' : (i = -1 ∧ r' = 0) ∨ (¬ i = -1 ∧ r' = -1)) : r = r' := by
  rcases h with ⟨a, rfl⟩ | ⟨a, rfl⟩ <;> rcases h' with ⟨c, rfl⟩ | ⟨c, rfl⟩
  · rfl
  · exact absurd a c
  · exact absurd c a
  · rfl
/-- at the law's head: a group of five is still there -/
theorem lw_stay {i L : Nat} (hi : i ≤ 100000) (hL : L ≤ 100000) (h : ¬ nI L - 5 < nI i) : i + 5 ≤ L := by
  rw [Int32.lt_iff_toInt_lt, Int32.toInt_sub, nI_toInt (by omega), nI_toInt (by omega), show (5 : Int32).toInt = 5 from rfl, Int.bmod_eq_of_le (by omega) (by omega)] at h
  omega
