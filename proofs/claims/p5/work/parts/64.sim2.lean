/-! the two sides: rule, change, row, mark -/
theorem sm_rule (wh v : Int32) : (mi_b (Int32.toInt64 wh) 0 3 = 0 ∨ mi_b (Int32.toInt64 v) 0 (mr_hi wh) = 0) ↔ xr_bad wh v := by
  have e3 : wh = 3 ↔ wh.toInt = 3 := by rw [← Int32.toInt_inj]; exact Iff.rfl
  unfold xr_bad
  rw [mi_iff, mi_iff, Int32.lt_iff_toInt_lt, Int32.le_iff_toInt_le, Int32.lt_iff_toInt_lt, Int32.lt_iff_toInt_lt, Int32.lt_iff_toInt_lt, show (0 : Int64).toInt = 0 from rfl, show (3 : Int64).toInt = 3 from rfl, show (0 : Int32).toInt = 0 from rfl, show (4 : Int32).toInt = 4 from rfl, show (1000 : Int32).toInt = 1000 from rfl, show (1 : Int32).toInt = 1 from rfl, e3]
  by_cases q : wh = 3
  · have q2 := e3.mp q
    rw [show mr_hi wh = 1000 from if_pos q, show (1000 : Int64).toInt = 1000 from rfl]
    omega
  · have q2 : ¬ wh.toInt = 3 := fun z => q (e3.mpr z)
    rw [show mr_hi wh = 1 from if_neg q, show (1 : Int64).toInt = 1 from rfl]
    omega
theorem sr_rule {x ru ma u y mm u' ve rw : Nat → Int32} {V R : List (Nat → Int32)} {wh v r r' : Int32} (h : sr x ru ma V R y mm) (hok : mi_ok y ve rw)
    (hc : (xr_bad wh v ∧ r = -1 ∧ u = ru) ∨ (¬ xr_bad wh v ∧ ¬ x 12 = 0 ∧ r = -5 ∧ u = ru) ∨ (¬ xr_bad wh v ∧ x 12 = 0 ∧ ∃ w', w' < 4 ∧ wh = nI w' ∧ r = ru w' ∧ u = upd ru w' v))
    (hm : ((mi_b (Int32.toInt64 wh) 0 3 = 0 ∨ mi_b (Int32.toInt64 v) 0 (mr_hi wh) = 0) ∧ r' = -1 ∧ u' = upd y 0 0) ∨ (¬ mi_b (Int32.toInt64 wh) 0 3 = 0 ∧ ¬ mi_b (Int32.toInt64 v) 0 (mr_hi wh) = 0 ∧ ((¬ y 6 = 0 ∧ r' = -5 ∧ u' = upd y 0 0) ∨ (y 6 = 0 ∧ r' = mo_was y wh ∧ u' = mo_rule y wh v)))) :
    r = r' ∧ sr x u ma V R u' mm ∧ mi_ok u' ve rw := by
  have hk : mi_ok (upd y 0 0) ve rw := mi_keep hok rfl rfl rfl rfl rfl rfl
  have eb := sm_rule wh v
  rcases hc with ⟨c1, rfl, rfl⟩ | ⟨c1, c2, rfl, rfl⟩ | ⟨c1, c2, w', hw, rfl, rfl, rfl⟩
  · rcases hm with ⟨m1, rfl, rfl⟩ | ⟨m1, m2, -⟩
    · exact ⟨rfl, sr_read h, hk⟩
    · exact absurd (eb.mpr c1) (fun q => q.elim m1 m2)
  · rcases hm with ⟨m1, rfl, rfl⟩ | ⟨m1, m2, ⟨m3, rfl, rfl⟩ | ⟨m3, rfl, rfl⟩⟩
    · exact absurd (eb.mp m1) c1
    · exact ⟨rfl, sr_read h, hk⟩
    · exact absurd (h.2.1.mpr m3) c2
  · rcases hm with ⟨m1, rfl, rfl⟩ | ⟨m1, m2, ⟨m3, rfl, rfl⟩ | ⟨m3, rfl, rfl⟩⟩
    · exact absurd (eb.mp m1) c1
    · exact absurd (h.2.1.mp c2) m3
    · have a0 : y 2 = ru 0 := h.2.2.1 0 (by decide)
      have a1 : y 3 = ru 1 := h.2.2.1 1 (by decide)
      have a2 : y 4 = ru 2 := h.2.2.1 2 (by decide)
      have a3 : y 5 = ru 3 := h.2.2.1 3 (by decide)
      refine ⟨?_, ⟨h.1, h.2.1, fun j hj => ?_, h.2.2.2.1, h.2.2.2.2.1, h.2.2.2.2.2⟩, mi_keep hok rfl rfl rfl rfl rfl rfl⟩
      · rcases (show w' = 0 ∨ w' = 1 ∨ w' = 2 ∨ w' = 3 by omega) with rfl | rfl | rfl | rfl
        · exact a0.symm
        · exact a1.symm
        · exact a2.symm
        · exact a3.symm
      · rcases (show w' = 0 ∨ w' = 1 ∨ w' = 2 ∨ w' = 3 by omega) with rfl | rfl | rfl | rfl <;> rcases (show j = 0 ∨ j = 1 ∨ j = 2 ∨ j = 3 by omega) with rfl | rfl | rfl | rfl <;> first | exact rfl | exact a0 | exact a1 | exact a2 | exact a3
theorem sr_b {x ru ma y mm : Nat → Int32} {V R : List (Nat → Int32)} (h1 : y 1 = x 6) (hx : ¬ x 12 = 0) (hy : ¬ y 6 = 0) (hr : ∀ j, j < 4 → y (2 + j) = ru j) (hm : ∀ t, t < 3 → mm t = ma t) (h8 : y 8 = x 7) : sr x ru ma V R y mm :=
  ⟨h1, ⟨fun q => absurd q hx, fun q => absurd q hy⟩, hr, hm, h8, fun q => absurd q hx⟩
theorem my_core_j {y y' : Nat → Int32} (h : my_core y y') : ∀ j, j < 4 → y' (2 + j) = y (2 + j) := by
  intro j hj
  rcases (show j = 0 ∨ j = 1 ∨ j = 2 ∨ j = 3 by omega) with rfl | rfl | rfl | rfl
  · exact h.2.1
  · exact h.2.2.1
  · exact h.2.2.2.1
  · exact h.2.2.2.2
theorem mi_beg {y ve rw : Nat → Int32} (h : mi_ok y ve rw) (hq : y 13 = 96 ∨ y 14 = 30000 ∨ y 10 = 160) : ¬ y 6 = 0 := by
  intro q
  obtain ⟨nt, nv, nr, no, c, hnt, ht3, hnv, hv, hnr, hr96, hno, hno2, hcm, hc3, hinc, hlc, hap, hbg⟩ := h
  obtain ⟨rfl, rfl, rfl⟩ := hbg q
  rcases hq with z | z | z
  · exact absurd (hnr.symm.trans z) (by decide)
  · exact absurd (hcm.symm.trans z) (by decide)
  · exact absurd (hnv.symm.trans z) (by decide)
theorem sr_same {x ru ma y mm x' y' : Nat → Int32} {V R : List (Nat → Int32)} (h : sr x ru ma V R y mm) (h6 : x' 6 = x 6) (h12 : x' 12 = x 12) (h7 : x' 7 = x 7) (h8 : x' 8 = x 8) (g1 : y' 1 = y 1) (g6 : y' 6 = y 6) (gj : ∀ j, j < 4 → y' (2 + j) = y (2 + j)) (g8 : y' 8 = y 8) : sr x' ru ma V R y' mm := by
  refine ⟨by rw [g1, h6]; exact h.1, by rw [h12, g6]; exact h.2.1, fun j hj => (gj j hj).trans (h.2.2.1 j hj), h.2.2.2.1, by rw [g8, h7]; exact h.2.2.2.2.1, fun q => ?_⟩
  rw [h12] at q
  rw [h8]
  exact h.2.2.2.2.2 q
theorem sr_late {x ru ma y mm : Nat → Int32} {V R : List (Nat → Int32)} {a b : Int32} (h : sr x ru ma V R y mm) : sr (upd x 11 a) ru ma V R (upd (upd y 0 0) 19 b) mm :=
  sr_same h rfl rfl rfl rfl rfl rfl (fun j hj => by rw [pk_un (by omega), pk_un (by omega)]) rfl
theorem sm_row {x y : Nat → Int32} {ky tm vl : Int32} (h1 : y 1 = x 6) : mr_bad y ky tm vl ↔ (xk_b ky = 0 ∨ xm_b tm = 0 ∨ xv_b vl = 0 ∨ x 6 = 0) := by
  unfold mr_bad
  rw [sm_k, sm_m, sm_v, h1]
theorem sr_row {n3 : Nat} {x ru ma y mm x' y' ve rw : Nat → Int32} {V R Lo R' Lo' : List (Nat → Int32)} {gv gv' ky tm vl r r' : Int32} (h : sr x ru ma V R y mm) (hok : mi_ok y ve rw)
    (hc : xo_row n3 x ru ma gv V R Lo ky tm vl r x' gv' R' Lo') (hm : mo_row y ky tm vl r' y') : sr x' ru ma V R' y' mm := by
  have eb := sm_row (ky := ky) (tm := tm) (vl := vl) h.1
  have e8 := h.2.2.2.2.1
  rcases hc with ⟨c1, -, rfl, -, rfl, -⟩ | ⟨c1, c2, c3, c4, ⟨c5, -, rfl, -, rfl, -⟩ | ⟨c5, c6, -, rfl, -, rfl, -⟩ | ⟨c5, c6, c7, -, rfl, -⟩⟩
  · rcases hm with ⟨m1, -, rfl⟩ | ⟨m1, -⟩
    · exact sr_read h
    · exact absurd (eb.mpr c1) m1
  all_goals
    have nb : ¬ mr_bad y ky tm vl := fun q => (eb.mp q).elim c1 (fun q => q.elim c2 (fun q => q.elim c3 c4))
  · rcases hm with ⟨m1, -⟩ | ⟨-, ⟨m2, -, rfl⟩ | ⟨m2, -⟩⟩
    · exact absurd m1 nb
    · exact sr_late h
    · rw [e8] at m2; exact absurd m2 c5
  · have hx : ¬ x' 12 = 0 := fun q => by
      obtain ⟨-, e2, e3⟩ := h.2.2.2.2.2 q
      rw [e2, e3] at c6
      rcases c6 with z | z
      · exact absurd z (by decide)
      · exact absurd (show (0 : Int32) < 30000 by decide) z
    have hy : ¬ y 6 = 0 := fun q => hx (h.2.1.mpr q)
    rcases hm with ⟨m1, -⟩ | ⟨-, ⟨m2, -⟩ | ⟨m2, ⟨-, -, rfl⟩ | ⟨-, -, m4, m5, m6⟩⟩⟩
    · exact absurd m1 nb
    · rw [e8] at m2; exact absurd c5 m2
    · exact sr_read h
    · exact sr_b (m4.1.trans h.1) hx (by rw [m6]; decide) (fun j hj => (my_core_j m4 j hj).trans (h.2.2.1 j hj)) h.2.2.2.1 (m5.trans e8)
  · have hx : ¬ (upd (upd x 12 1) 8 (x 8 + 1)) 12 = 0 := by
      show ¬ (1 : Int32) = 0
      decide
    rcases hm with ⟨m1, -⟩ | ⟨-, ⟨m2, -⟩ | ⟨m2, ⟨m3, -, rfl⟩ | ⟨-, -, m4, m5, m6⟩⟩⟩
    · exact absurd m1 nb
    · rw [e8] at m2; exact absurd c5 m2
    · exact sr_b h.1 hx (mi_beg hok (m3.elim Or.inl (fun z => Or.inr (Or.inl z)))) (sr_read h).2.2.1 h.2.2.2.1 e8
    · exact sr_b (m4.1.trans h.1) hx (by rw [m6]; decide) (fun j hj => (my_core_j m4 j hj).trans (h.2.2.1 j hj)) h.2.2.2.1 (m5.trans e8)
