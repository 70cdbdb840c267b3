/-! the class and the reference side by side: what they let by -/
theorem ite01 {p : Prop} {d : Decidable p} : (@ite Int32 p d 1 0) = 0 ↔ ¬ p := by
  by_cases q : p
  · rw [if_pos q]; exact ⟨fun h => absurd h (by decide), fun h => absurd q h⟩
  · rw [if_neg q]; exact ⟨fun _ => q, fun _ => rfl⟩
theorem mi_iff (t : Int32) (lo hi : Int64) : mi_b (Int32.toInt64 t) lo hi = 0 ↔ ¬ (lo.toInt ≤ t.toInt ∧ t.toInt ≤ hi.toInt) := by
  have e1 : lg_cmp (Int32.toInt64 t) lo < 0 ↔ t.toInt < lo.toInt := by rw [lg_cmp_lt, Int64.lt_iff_toInt_lt, Int32.toInt_toInt64]
  have e2 : 0 < lg_cmp (Int32.toInt64 t) hi ↔ hi.toInt < t.toInt := by rw [lg_cmp_gt, Int64.lt_iff_toInt_lt, Int32.toInt_toInt64]
  unfold mi_b
  rw [ite01, e1, e2]
  omega
theorem xk_iff (k : Int32) : xk_b k = 0 ↔ ¬ (0 ≤ k.toInt ∧ k.toInt ≤ 15) := by
  unfold xk_b
  rw [ite01, Int32.lt_iff_toInt_lt, Int32.le_iff_toInt_le, show (0 : Int32).toInt = 0 from rfl, show (16 : Int32).toInt = 16 from rfl]
  omega
theorem xm_iff (k : Int32) : xm_b k = 0 ↔ ¬ (1 ≤ k.toInt ∧ k.toInt ≤ 100000) := by
  unfold xm_b
  rw [ite01, Int32.lt_iff_toInt_lt, Int32.lt_iff_toInt_lt, show (1 : Int32).toInt = 1 from rfl, show (100000 : Int32).toInt = 100000 from rfl]
  omega
theorem xv_iff (k : Int32) : xv_b k = 0 ↔ ¬ (0 ≤ k.toInt ∧ k.toInt ≤ 1000) := by
  unfold xv_b
  rw [ite01, Int32.lt_iff_toInt_lt, Int32.lt_iff_toInt_lt, show (0 : Int32).toInt = 0 from rfl, show (1000 : Int32).toInt = 1000 from rfl]
  omega
theorem xt_iff {n : Nat} (hn : n ≤ 3) (t : Int32) : xt_b (nI n) t = 0 ↔ ¬ (0 ≤ t.toInt ∧ t.toInt < (n : Int)) := by
  unfold xt_b
  rw [ite01, Int32.lt_iff_toInt_lt, Int32.le_iff_toInt_le, Int32.le_iff_toInt_le, nI_toInt (by omega), show (0 : Int32).toInt = 0 from rfl, show (3 : Int32).toInt = 3 from rfl]
  omega
theorem nI_m1 {n : Nat} (hn : n ≤ 3) : (nI n - 1 : Int32).toInt = (n : Int) - 1 := by
  rcases (show n = 0 ∨ n = 1 ∨ n = 2 ∨ n = 3 by omega) with rfl | rfl | rfl | rfl <;> decide
theorem sm_k (k : Int32) : mi_b (Int32.toInt64 k) 0 15 = 0 ↔ xk_b k = 0 := by rw [mi_iff, xk_iff]; exact Iff.rfl
theorem sm_m (k : Int32) : mi_b (Int32.toInt64 k) 1 100000 = 0 ↔ xm_b k = 0 := by rw [mi_iff, xm_iff]; exact Iff.rfl
theorem sm_v (k : Int32) : mi_b (Int32.toInt64 k) 0 1000 = 0 ↔ xv_b k = 0 := by rw [mi_iff, xv_iff]; exact Iff.rfl
theorem sm_eqm1 (k : Int32) : k = -1 ↔ k.toInt = -1 := by rw [← Int32.toInt_inj]; exact Iff.rfl
theorem sm_v1 (k : Int32) : mi_b (Int32.toInt64 k) (-1) 1000 = 0 ↔ (¬ k = -1 ∧ xv_b k = 0) := by
  rw [mi_iff, xv_iff, sm_eqm1, show (-1 : Int64).toInt = -1 from rfl, show (1000 : Int64).toInt = 1000 from rfl]
  omega
theorem sm_z (k : Int32) : mi_b (Int32.toInt64 k) 0 100000 = 0 ↔ (k < 0 ∨ 100000 < k) := by
  rw [mi_iff, Int32.lt_iff_toInt_lt, Int32.lt_iff_toInt_lt, show (0 : Int64).toInt = 0 from rfl, show (100000 : Int64).toInt = 100000 from rfl, show (0 : Int32).toInt = 0 from rfl, show (100000 : Int32).toInt = 100000 from rfl]
  omega
theorem sm_t {n : Nat} (hn : n ≤ 3) (t : Int32) : mi_b (Int32.toInt64 t) 0 (Int32.toInt64 (nI n - 1)) = 0 ↔ xt_b (nI n) t = 0 := by
  rw [mi_iff, xt_iff hn, Int32.toInt_toInt64, nI_m1 hn, show (0 : Int64).toInt = 0 from rfl]
  omega
theorem sm_tm {n : Nat} (hn : n ≤ 3) (t : Int32) : mi_b (Int32.toInt64 t) (-1) (Int32.toInt64 (nI n - 1)) = 0 ↔ (¬ t = -1 ∧ xt_b (nI n) t = 0) := by
  rw [mi_iff, xt_iff hn, Int32.toInt_toInt64, nI_m1 hn, sm_eqm1, show (-1 : Int64).toInt = -1 from rfl]
  omega
/-! the two objects, as far as table, rule and mark see them -/
def sr (x ru ma : Nat → Int32) (V R : List (Nat → Int32)) (y mm : Nat → Int32) : Prop :=
  y 1 = x 6 ∧ (x 12 = 0 ↔ y 6 = 0) ∧ (∀ j, j < 4 → y (2 + j) = ru j) ∧ (∀ t, t < 3 → mm t = ma t) ∧ y 8 = x 7 ∧ (x 12 = 0 → V = [] ∧ R = [] ∧ x 8 = 0)
theorem sr_0 : sr (fun _ => 0) (fun _ => 0) (fun _ => 0) [] [] (fun _ => 0) (fun _ => 0) :=
  ⟨rfl, Iff.rfl, fun _ _ => rfl, fun _ _ => rfl, rfl, fun _ => ⟨rfl, rfl, rfl⟩⟩
theorem sr_read {x ru ma y mm : Nat → Int32} {V R : List (Nat → Int32)} (h : sr x ru ma V R y mm) : sr x ru ma V R (upd y 0 0) mm := by
  refine ⟨h.1, h.2.1, fun j hj => ?_, h.2.2.2.1, h.2.2.2.2.1, h.2.2.2.2.2⟩
  rw [pk_un (by omega)]
  exact h.2.2.1 j hj
theorem mi_table {y ve rw : Nat → Int32} {n : Nat} (h : mi_ok y ve rw) (h1 : y 1 = nI n) (hn : n < 3) : mi_ok (upd (upd y 0 0) 1 (y 1 + 1)) ve rw := by
  obtain ⟨nt, nv, nr, no, c, hnt, ht3, r⟩ := h
  exact ⟨n + 1, nv, nr, no, c, by rw [pk_us, h1]; exact nI_1 n, hn, r⟩
theorem sr_table {x ru ma u y mm u' ve rw : Nat → Int32} {V R : List (Nat → Int32)} {n3 : Nat} {r r' : Int32} (h : sr x ru ma V R y mm) (h6 : x 6 = nI n3) (h3 : n3 ≤ 3) (hok : mi_ok y ve rw)
    (hc : (¬ x 6 < 3 ∧ r = -3 ∧ u = x) ∨ (x 6 < 3 ∧ ¬ x 12 = 0 ∧ r = -5 ∧ u = x) ∨ (x 6 < 3 ∧ x 12 = 0 ∧ r = x 6 + 1 - 1 ∧ u = upd x 6 (x 6 + 1)))
    (hm : (y 1 = 3 ∧ r' = -3 ∧ u' = upd y 0 0) ∨ (¬ y 1 = 3 ∧ ¬ y 6 = 0 ∧ r' = -5 ∧ u' = upd y 0 0) ∨ (¬ y 1 = 3 ∧ y 6 = 0 ∧ r' = y 1 + 1 - 1 ∧ u' = upd (upd y 0 0) 1 (y 1 + 1))) :
    r = r' ∧ sr u ru ma V R u' mm ∧ mi_ok u' ve rw ∧ ∃ n', n' ≤ 3 ∧ u 6 = nI n' := by
  have hk : mi_ok (upd y 0 0) ve rw := mi_keep hok rfl rfl rfl rfl rfl rfl
  have e3 : x 6 < 3 ↔ n3 < 3 := by rw [h6]; exact nI_ltI (b := 3) (by omega) (by decide)
  have e4 : y 1 = 3 ↔ n3 = 3 := by
    rw [h.1, h6]
    constructor
    · intro q
      have q2 := congrArg Int32.toInt q
      rw [nI_toInt (by omega), show (3 : Int32).toInt = 3 from rfl] at q2
      omega
    · rintro rfl; rfl
  rcases hc with ⟨c1, rfl, rfl⟩ | ⟨c1, c2, rfl, rfl⟩ | ⟨c1, c2, rfl, rfl⟩
  · rcases hm with ⟨m1, rfl, rfl⟩ | ⟨m1, m2, rfl, rfl⟩ | ⟨m1, m2, rfl, rfl⟩
    · exact ⟨rfl, sr_read h, hk, n3, h3, h6⟩
    · rw [e3] at c1; rw [e4] at m1; omega
    · rw [e3] at c1; rw [e4] at m1; omega
  · rcases hm with ⟨m1, rfl, rfl⟩ | ⟨m1, m2, rfl, rfl⟩ | ⟨m1, m2, rfl, rfl⟩
    · rw [e3] at c1; rw [e4] at m1; omega
    · exact ⟨rfl, sr_read h, hk, n3, h3, h6⟩
    · exact absurd (h.2.1.mpr m2) c2
  · rcases hm with ⟨m1, rfl, rfl⟩ | ⟨m1, m2, rfl, rfl⟩ | ⟨m1, m2, rfl, rfl⟩
    · rw [e3] at c1; rw [e4] at m1; omega
    · exact absurd (h.2.1.mp c2) m2
    · refine ⟨by rw [h.1], ⟨?_, h.2.1, fun j hj => ?_, h.2.2.2.1, h.2.2.2.2.1, h.2.2.2.2.2⟩, mi_table hok (h.1.trans h6) (e3.mp c1), n3 + 1, e3.mp c1, ?_⟩
      · rw [pk_us, pk_us, h.1]
      · rw [pk_un (by omega), pk_un (by omega)]
        exact h.2.2.1 j hj
      · rw [pk_us, h6]; exact nI_1 n3
