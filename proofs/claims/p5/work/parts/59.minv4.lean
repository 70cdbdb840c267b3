/-! the reference: numbers that its in lets by -/
theorem mi_natc {t : Int32} {hi : Int64} {n : Nat} (h : ¬ mi_b (Int32.toInt64 t) 0 hi = 0) (hh : hi.toInt = (n : Int)) (hn : n < 2 ^ 30) : ∃ t' : Nat, t' ≤ n ∧ t = nI t' := by
  have h0 := mt_lo h
  have h2 := (rs_n2 h).2
  rw [lg_cmp_gt, Int64.lt_iff_toInt_lt, Int32.toInt_toInt64, hh] at h2
  rw [Int32.le_iff_toInt_le] at h0
  have h00 : (0 : Int) ≤ t.toInt := h0
  rcases pk_ix t (n := n + 1) (by omega) with q | q | ⟨j, hj, e⟩
  · rw [Int32.lt_iff_toInt_lt] at q
    have : t.toInt < 0 := q
    omega
  · rw [Int32.le_iff_toInt_le, nI_toInt (by omega)] at q
    omega
  · exact ⟨j, by omega, e⟩
theorem mi_nat1 {t h1 : Int32} {n : Nat} (h : ¬ mi_b (Int32.toInt64 t) 0 (Int32.toInt64 (h1 - 1)) = 0) (hh : h1 = nI n) (hn : n < 2 ^ 30) : ∃ t' : Nat, t' < n ∧ t = nI t' := by
  cases n with
  | zero =>
    have h0 := mt_lo h
    have h2 := (rs_n2 h).2
    rw [lg_cmp_gt, Int64.lt_iff_toInt_lt, Int32.toInt_toInt64, Int32.toInt_toInt64, hh] at h2
    rw [Int32.le_iff_toInt_le] at h0
    have h00 : (0 : Int) ≤ t.toInt := h0
    have e : (nI 0 - 1 : Int32).toInt = -1 := by decide
    rw [e] at h2
    omega
  | succ m =>
    obtain ⟨t', ht, e⟩ := mi_natc (n := m) h (by rw [Int32.toInt_toInt64, hh, nI_pred, nI_toInt (by omega)]) (by omega)
    exact ⟨t', by omega, e⟩
theorem mi_natw {t h1 : Int32} {n : Nat} (h : ¬ mi_b (Int32.toInt64 t) 0 (Int32.toInt64 h1) = 0) (hh : h1 = nI n) (hn : n < 2 ^ 30) : ∃ t' : Nat, t' ≤ n ∧ t = nI t' :=
  mi_natc h (by rw [Int32.toInt_toInt64, hh, nI_toInt (by omega)]) hn
theorem mv_cnt_le (ve : Nat → Int32) (t k : Int32) (n : Nat) : mv_cnt ve t k n ≤ n := by
  rw [mv_cnt_cnt]
  exact Nat.le_trans List.countP_le_length (by rw [List.length_range]; exact Nat.le_refl _)
/-! what the reading calls answer where nothing is there (a new object) -/
theorem nI_z {n : Nat} (h : n < 2 ^ 31) (q : nI n = 0) : n = 0 := by
  have q2 := congrArg Int32.toInt q
  rw [nI_toInt h, show (0 : Int32).toInt = 0 from rfl] at q2
  omega
def mo_out0 (y : Nat → Int32) (i r : Int32) : Prop := y 21 = 0 → (i = -1 ∧ r = 0) ∨ (¬ i = -1 ∧ r = -1)
def ma_bad (y : Nat → Int32) (t ky tm : Int32) : Prop := mi_b (Int32.toInt64 t) 0 (Int32.toInt64 (y 1 - 1)) = 0 ∨ mi_b (Int32.toInt64 ky) 0 15 = 0 ∨ mi_b (Int32.toInt64 tm) 1 100000 = 0
def mo_asOf0 (y : Nat → Int32) (t ky tm r : Int32) : Prop := y 10 = 0 → (ma_bad y t ky tm ∧ r = -1) ∨ (¬ ma_bad y t ky tm ∧ r = -2)
def mc0 (wh : Int32) : Int32 := if wh < 0 ∨ 18 ≤ wh then -1 else if 11 ≤ wh ∧ wh ≤ 13 then -2 else 0
theorem mc0_out {wh : Int32} (h : wh < 0 ∨ nI 18 ≤ wh) : mc0 wh = -1 := if_pos h
