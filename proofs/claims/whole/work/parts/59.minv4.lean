/-! the reference: numbers that its in lets by -/
theorem mi_natc {t : Int32} {hi : Int64} {n : Nat} (h : ¬ mi_b (Int32.toInt64 t) 0 hi = 0) (hh : hi.toInt = (n : Int)) (hn : n < 2 ^ 30) : ∃ t' : Nat, t' ≤ n ∧ t = nI t' := by
  have h0 := mt_lo h
  have h2 := (rs_n2 h).2
  rw [lg_cmp_gt, Int64.lt_iff_toInt_lt, Int32.toInt_toInt64, hh] at h2
  rw [Int32.le_iff_toInt_le] at h0
  have h00 : (0 : Int) ≤ t.toInt := h0
  rcases pk_ix t (n := n + 1) (by omega) with q | q | ⟨j, hj, e⟩
  · rw [Int32.lt_iff_toInt_lt] at q
    have : t.toInt < 0 := q
    omega
  · rw [Int32.le_iff_toInt_le, nI_toInt (by omega)] at q
    omega
  · exact ⟨j, by omega, e⟩
theorem mi_nat1 {t h1 : Int32} {n : Nat} (h : ¬ mi_b (Int32.toInt64 t) 0 (Int32.toInt64 (h1 - 1)) = 0) (hh : h1 = nI n) (hn : n < 2 ^ 30) : ∃ t' : Nat, t' < n ∧ t = nI t' := by
  cases n with
  | zero =>
    have h0 := mt_lo h
    have h2 := (rs_n2 h).2
    rw [lg_cmp_gt, Int64.lt_iff_toInt_lt, Int32.toInt_toInt64, Int32.toInt_toInt64, hh] at h2
    rw [Int32.le_iff_toInt_le] at h0
    have h00 : (0 : Int) ≤ t.toInt := h0
    have e : (nI 0 - 1 : Int32).toInt = -1 := by decide
    rw [e] at h2
    omega
  | succ m =>
    obtain ⟨t', ht, e⟩ := mi_natc (n := m) h (by rw [Int32.toInt_toInt64, hh, nI_pred, nI_toInt (by omega)]) (by omega)
    exact ⟨t', by omega, e⟩
theorem mi_natw {t h1 : Int32} {n : Nat} (h : ¬ mi_b (Int32.toInt64 t) 0 (Int32.toInt64 h1) = 0) (hh : h1 = nI n) (hn : n < 2 ^ 30) : ∃ t' : Nat, t' ≤ n ∧ t = nI t' :=
  mi_natc h (by rw [Int32.toInt_toInt64, hh, nI_toInt (by omega)]) hn
theorem mv_cnt_le (ve : Nat → Int32) (t k : Int32) (n : Nat) : mv_cnt ve t k n ≤ n := by
  rw [mv_cnt_cnt]
  exact Nat.le_trans List.countP_le_length (by rw [List.length_range]; exact Nat.le_refl _)
