/-! the two sides: change, mark -/
theorem nI_nm1 {n : Nat} (h : n < 2 ^ 31) : ¬ nI n = -1 := by
  intro q
  have h2 := nI_pos h
  rw [q] at h2
  exact h2 (by decide)
theorem sm_change {n3 : Nat} (hn : n3 ≤ 3) {x y : Nat → Int32} {t ky fr vl : Int32} (h1 : y 1 = x 6) (h6 : x 6 = nI n3) : mh_bad y t ky fr vl ↔ (xt_b (x 6) t = 0 ∨ xk_b ky = 0 ∨ xm_b fr = 0 ∨ (¬ vl = -1 ∧ xv_b vl = 0)) := by
  unfold mh_bad
  rw [h1, h6, sm_t hn, sm_k, sm_m, sm_v1]
theorem sm_late {x ru ma y mm : Nat → Int32} {V R : List (Nat → Int32)} {t' : Nat} {fr : Int32} (h : sr x ru ma V R y mm) (ht : t' < 3) : mh_late y mm t' fr ↔ ¬ xl_b ma ru (x 7) (nI t') fr = 0 := by
  have a1 : y 3 = ru 1 := h.2.2.1 1 (by decide)
  have a3 : y 5 = ru 3 := h.2.2.1 3 (by decide)
  unfold mh_late xl_b
  rw [ite01, Decidable.not_not, nI_clamp (by omega), h.2.2.2.1 t' ht, a1, a3, h.2.2.2.2.1]
  rw [Int32.lt_iff_toInt_lt, Int32.le_iff_toInt_le, Int32.lt_iff_toInt_lt, Int32.le_iff_toInt_le]
  constructor
  · rintro ⟨q1, q2⟩
    exact ⟨by omega, q2.imp id (fun z => by omega)⟩
  · rintro ⟨q1, q2⟩
    exact ⟨by omega, q2.imp id (fun z => by omega)⟩
theorem sr_change {n3 : Nat} (hn : n3 ≤ 3) {x ru ma y mm x' y' ve rw : Nat → Int32} {V R Lo V' R' Lo' : List (Nat → Int32)} {gv gv' tk tk' t ky fr vl r r' : Int32} (h : sr x ru ma V R y mm) (h6 : x 6 = nI n3) (hok : mi_ok y ve rw)
    (hc : xo_change n3 x ru ma gv tk V R Lo t ky fr vl r x' gv' tk' V' R' Lo') (hm : mo_change y mm t ky fr vl r' y') : sr x' ru ma V' R' y' mm := by
  have eb := sm_change hn (t := t) (ky := ky) (fr := fr) (vl := vl) h.1 h6
  have e8 := h.2.2.2.2.1
  rcases hc with ⟨c1, -, rfl, -, -, rfl, rfl, -⟩ | ⟨c1, c2, c3, c4, ⟨c5, -, rfl, -, -, rfl, rfl, -⟩ | ⟨c5, c6, -, rfl, -, -, rfl, rfl, -⟩ | ⟨c5, c6, rfl, -⟩⟩
  · rcases hm with ⟨m1, -, rfl⟩ | ⟨m1, -⟩
    · exact sr_read h
    · exact absurd (eb.mpr c1) m1
  all_goals
    have nb : ¬ mh_bad y t ky fr vl := fun q => (eb.mp q).elim c1 (fun q => q.elim c2 (fun q => q.elim c3 (fun q => c4.elim q.1 (fun z => z q.2))))
  · rcases hm with ⟨m1, -⟩ | ⟨-, t', ht, rfl, ⟨m2, -, rfl⟩ | ⟨m2, -⟩⟩
    · exact absurd m1 nb
    · exact sr_late h
    · exact absurd ((sm_late h ht).mpr c5) m2
  · have hx : ¬ x' 12 = 0 := fun q => by
      obtain ⟨e1, -, -⟩ := h.2.2.2.2.2 q
      rw [e1] at c6
      exact absurd c6 (by decide)
    rcases hm with ⟨m1, -⟩ | ⟨-, t', ht, rfl, ⟨m2, -⟩ | ⟨m2, ⟨-, -, rfl⟩ | ⟨m4, m5, m6⟩⟩⟩
    · exact absurd m1 nb
    · exact absurd c5 ((sm_late h ht).mp m2)
    · exact sr_read h
    · exact sr_b (m4.1.trans h.1) hx (by rw [m6]; decide) (fun j hj => (my_core_j m4 j hj).trans (h.2.2.1 j hj)) h.2.2.2.1 (m5.trans e8)
  · have hx : ¬ (upd x 12 1) 12 = 0 := by
      show ¬ (1 : Int32) = 0
      decide
    rcases hm with ⟨m1, -⟩ | ⟨-, t', ht, rfl, ⟨m2, -⟩ | ⟨m2, ⟨m3, -, rfl⟩ | ⟨m4, m5, m6⟩⟩⟩
    · exact absurd m1 nb
    · exact absurd c5 ((sm_late h ht).mp m2)
    · exact sr_b h.1 hx (mi_beg hok (Or.inr (Or.inr m3))) (sr_read h).2.2.1 h.2.2.2.1 e8
    · exact sr_b (m4.1.trans h.1) hx (by rw [m6]; decide) (fun j hj => (my_core_j m4 j hj).trans (h.2.2.1 j hj)) h.2.2.2.1 (m5.trans e8)
theorem sm_mark {n3 : Nat} (hn : n3 ≤ 3) {x y : Nat → Int32} {t tm : Int32} (h1 : y 1 = x 6) (h6 : x 6 = nI n3) : mm_bad y t tm ↔ ((¬ t = -1 ∧ xt_b (x 6) t = 0) ∨ tm < 0 ∨ 100000 < tm) := by
  unfold mm_bad
  rw [h1, h6, sm_tm hn, sm_z]
theorem sr_mark {n3 : Nat} (hn : n3 ≤ 3) {x ru ma y mm x' ma' y' mm' ve rw : Nat → Int32} {V R Lo V' R' Lo' : List (Nat → Int32)} {gv gv' t tm r r' : Int32} (h : sr x ru ma V R y mm) (h6 : x 6 = nI n3)
    (hc : xo_mark n3 x ru ma gv V R Lo t tm r x' ma' gv' V' R' Lo') (hm : mo_mark y mm t tm r' y' mm') : r = r' ∧ sr x' ru ma' V' R' y' mm' := by
  have eb := sm_mark hn (t := t) (tm := tm) h.1 h6
  have e8 := h.2.2.2.2.1
  rcases hc with ⟨c1, rfl, rfl, rfl, -, rfl, rfl, -⟩ | ⟨c1, c2, c3, xx, mm2, bf, c4, c5⟩
  · rcases hm with ⟨m1, rfl, rfl, rfl⟩ | ⟨m1, -⟩
    · exact ⟨rfl, sr_read h⟩
    · exact absurd (eb.mpr c1) m1
  · have nb : ¬ mm_bad y t tm := fun q => (eb.mp q).elim (fun q => c1.elim q.1 (fun z => z q.2)) (fun q => q.elim c2 c3)
    rcases hm with ⟨m1, -⟩ | ⟨-, ⟨m2, m3⟩ | ⟨t', ht, et, m3⟩⟩
    · exact absurd m1 nb
    · have ex : xt_b (x 6) t = 0 := by
        rw [h6, xt_iff hn]
        rw [Int32.le_iff_toInt_le] at m2
        have m2' : ¬ (0 : Int) ≤ t.toInt := m2
        omega
      obtain ⟨-, rfl, rfl, rfl⟩ := c4.resolve_right (fun q => q.1 ex)
      rw [e8] at m3
      rcases c5 with ⟨d1, rfl, rfl, rfl, -, rfl, rfl, -⟩ | ⟨d1, rfl, rfl, R1, -, -, -, -, -, rfl⟩
      · rcases m3 with ⟨-, rfl, rfl, rfl⟩ | ⟨k1, -⟩
        · exact ⟨rfl, sr_read h⟩
        · exact absurd k1 d1
      · rcases m3 with ⟨k1, -⟩ | ⟨-, rfl, m4, m5, m6, rfl⟩
        · exact absurd d1 k1
        · exact ⟨rfl, sr_b (m4.1.trans h.1) (show ¬ (1 : Int32) = 0 by decide) (by rw [m6]; decide) (fun j hj => (my_core_j m4 j hj).trans (h.2.2.1 j hj)) h.2.2.2.1 m5⟩
    · have ex : ¬ xt_b (x 6) t = 0 := by
        have h0 : ¬ t = -1 := by rw [et]; exact nI_nm1 (by omega)
        exact c1.resolve_left h0
      obtain ⟨-, rfl, rfl, rfl⟩ := c4.resolve_left (fun q => ex q.1)
      have e2 : t.toNatClampNeg = t' := by rw [et]; exact nI_clamp (by omega)
      rw [e2] at c5
      have e3 : mm t' = ma t' := h.2.2.2.1 t' ht
      rw [e3] at m3
      rcases c5 with ⟨d1, rfl, rfl, rfl, -, rfl, rfl, -⟩ | ⟨d1, rfl, rfl, R1, -, -, -, -, -, rfl⟩
      · rcases m3 with ⟨-, rfl, rfl, rfl⟩ | ⟨k1, -⟩
        · exact ⟨rfl, sr_read h⟩
        · exact absurd k1 d1
      · rcases m3 with ⟨k1, -⟩ | ⟨-, rfl, m4, m5, m6, rfl⟩
        · exact absurd d1 k1
        · refine ⟨rfl, sr_b (m4.1.trans h.1) (show ¬ (1 : Int32) = 0 by decide) (by rw [m6]; decide) (fun j hj => (my_core_j m4 j hj).trans (h.2.2.1 j hj)) (fun t2 h2 => ?_) (m5.trans e8)⟩
          by_cases q : t2 = t'
          · subst q; rw [pk_us, pk_us]
          · rw [pk_un q, pk_un q]; exact h.2.2.2.1 t2 h2
