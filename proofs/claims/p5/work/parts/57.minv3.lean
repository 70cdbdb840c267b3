/-! the reference: behind change -/
theorem mt_lo {t : Int32} {hi : Int64} (h : ¬ mi_b (Int32.toInt64 t) 0 hi = 0) : 0 ≤ t := by
  have h2 := (rs_n2 h).1
  rw [lg_cmp_lt, Int64.lt_iff_toInt_lt, Int32.toInt_toInt64] at h2
  rw [Int32.le_iff_toInt_le]
  have h3 : ¬ t.toInt < 0 := h2
  show (0 : Int) ≤ t.toInt
  omega
theorem mv_apart_c {ve ve' : Nat → Int32} {n : Nat} (h : ∀ i, i < n → ∀ c, c < 3 → ve' (4 * i + c) = ve (4 * i + c)) (ha : mv_apart ve n) : mv_apart ve' n := by
  refine List.pairwise_map.mpr (List.Pairwise.imp_of_mem (fun {a b} ha hb q => ?_) (List.pairwise_map.mp ha))
  have a0 := h a (List.mem_range.mp ha) 0 (by decide)
  have a1 := h a (List.mem_range.mp ha) 1 (by decide)
  have a2 := h a (List.mem_range.mp ha) 2 (by decide)
  have b0 := h b (List.mem_range.mp hb) 0 (by decide)
  have b1 := h b (List.mem_range.mp hb) 1 (by decide)
  have b2 := h b (List.mem_range.mp hb) 2 (by decide)
  have q2 : ¬ (ve (4 * a + 0) = ve (4 * b + 0) ∧ ve (4 * a + 1) = ve (4 * b + 1) ∧ ve (4 * a + 2) = ve (4 * b + 2)) := q
  show ¬ (ve' (4 * a + 0) = ve' (4 * b + 0) ∧ ve' (4 * a + 1) = ve' (4 * b + 1) ∧ ve' (4 * a + 2) = ve' (4 * b + 2))
  rw [a0, a1, a2, b0, b1, b2]
  exact q2
theorem mv_apart_s {ve : Nat → Int32} {n : Nat} (h : mv_apart ve n) (h2 : ∀ i, i < n → ¬ (ve (4 * i) = ve (4 * n) ∧ ve (4 * i + 1) = ve (4 * n + 1) ∧ ve (4 * i + 2) = ve (4 * n + 2))) : mv_apart ve (n + 1) := by
  unfold mv_apart
  rw [mvl_s]
  refine List.pairwise_append.mpr ⟨h, List.pairwise_singleton _ _, fun a ha b hb => ?_⟩
  rw [List.mem_singleton.mp hb]
  obtain ⟨i, hi, rfl⟩ := List.mem_map.mp ha
  exact h2 i (List.mem_range.mp hi)
/-- a line of the versions written -/
def mv_new (ve : Nat → Int32) (i : Nat) (t ky fr vl : Int32) : Nat → Int32 := upd (upd (upd (upd ve (4 * i) t) (4 * i + 1) ky) (4 * i + 2) fr) (4 * i + 3) vl
theorem mv_new_o {ve : Nat → Int32} {i j c : Nat} {t ky fr vl : Int32} (h : ¬ j = i) (hc : c < 4) : mv_new ve i t ky fr vl (4 * j + c) = ve (4 * j + c) := by
  unfold mv_new
  rw [pk_un (by omega), pk_un (by omega), pk_un (by omega), pk_un (by omega)]
theorem mv_new_0 {ve : Nat → Int32} {i : Nat} {t ky fr vl : Int32} : mv_new ve i t ky fr vl (4 * i) = t := by
  unfold mv_new
  rw [pk_un (by omega), pk_un (by omega), pk_un (by omega), pk_us]
theorem mv_new_1 {ve : Nat → Int32} {i : Nat} {t ky fr vl : Int32} : mv_new ve i t ky fr vl (4 * i + 1) = ky := by
  unfold mv_new
  rw [pk_un (by omega), pk_un (by omega), pk_us]
theorem mv_new_2 {ve : Nat → Int32} {i : Nat} {t ky fr vl : Int32} : mv_new ve i t ky fr vl (4 * i + 2) = fr := by
  unfold mv_new
  rw [pk_un (by omega), pk_us]
theorem mv_new_in {ve : Nat → Int32} {n i : Nat} {t ky fr vl : Int32} (h : mv_apart ve n) (ha : mv_at ve i t ky fr) : mv_apart (mv_new ve i t ky fr vl) n := by
  refine mv_apart_c (fun j hj c hc => ?_) h
  by_cases q : j = i
  · subst q
    have h1 := mo_1 ha.1
    rcases (show c = 0 ∨ c = 1 ∨ c = 2 by omega) with rfl | rfl | rfl
    · exact mv_new_0.trans h1.1.symm
    · exact mv_new_1.trans h1.2.symm
    · exact mv_new_2.trans ha.2.symm
  · exact mv_new_o q (by omega)
theorem mv_new_end {ve : Nat → Int32} {n : Nat} {t ky fr vl : Int32} (h : mv_apart ve n) (ha : ∀ i, i < n → ¬ mv_at ve i t ky fr) : mv_apart (mv_new ve n t ky fr vl) (n + 1) := by
  refine mv_apart_s (mv_apart_c (fun j hj c hc => mv_new_o (by omega) (by omega)) h) (fun i hi q => ?_)
  have e0 := mv_new_o (ve := ve) (i := n) (j := i) (c := 0) (t := t) (ky := ky) (fr := fr) (vl := vl) (by omega) (by decide)
  have e1 := mv_new_o (ve := ve) (i := n) (j := i) (c := 1) (t := t) (ky := ky) (fr := fr) (vl := vl) (by omega) (by decide)
  have e2 := mv_new_o (ve := ve) (i := n) (j := i) (c := 2) (t := t) (ky := ky) (fr := fr) (vl := vl) (by omega) (by decide)
  have q0 : ve (4 * i) = t := e0.symm.trans (q.1.trans mv_new_0)
  have q1 : ve (4 * i + 1) = ky := e1.symm.trans (q.2.1.trans mv_new_1)
  have q2 : ve (4 * i + 2) = fr := e2.symm.trans (q.2.2.trans mv_new_2)
  refine ha i hi ⟨fun z => ?_, q2⟩
  unfold mo_b at z
  rw [if_pos ⟨q0, q1⟩] at z
  exact absurd z (by decide)
theorem mi_change {Y0 y3 ve' rw w3 : Nat → Int32} {nt nr nv c : Nat} (hms : my_same Y0 y3) (hnt : Y0 1 = nI nt) (ht3 : nt ≤ 3) (hnv : Y0 10 = nI nv) (hv : nv ≤ 160) (hnr : Y0 13 = nI nr) (hr : nr ≤ 96) (hc : Y0 14 = nI c) (hc3 : c ≤ 30000) (h6 : Y0 6 = 1) (hinc : mr_inc rw nr) (hlc : ∀ a, a ∈ mrl rw nr → a 0 < nI c) (hap : mv_apart ve' nv) (hno : ∃ no, no ≤ 192 ∧ y3 21 = nI no) (hmr : mrow rw w3 nr) : mi_ok y3 ve' w3 := by
  obtain ⟨no, hno2, hno⟩ := hno
  have e : ∀ i, i < nr → w3 (6 * i) = rw (6 * i) := fun i hi => hmr i hi 0 (by decide)
  refine ⟨nt, nv, nr, no, c, (hms 1 (by decide) (by decide) (by decide)).trans hnt, ht3, (hms 10 (by decide) (by decide) (by decide)).trans hnv, hv, (hms 13 (by decide) (by decide) (by decide)).trans hnr, hr, hno, hno2, (hms 14 (by decide) (by decide) (by decide)).trans hc, hc3, mr_inc_c e hinc, ?_, hap, fun q => ?_⟩
  · exact mrl_in (p := fun z => z < nI c) (fun i hi => by rw [e i hi]; exact mrl_at (p := fun z => z < nI c) hlc hi)
  · exact absurd (((hms 6 (by decide) (by decide) (by decide)).trans h6).symm.trans q) (by decide)
def mh_bad (y : Nat → Int32) (t ky fr vl : Int32) : Prop := mi_b (Int32.toInt64 t) 0 (Int32.toInt64 (y 1 - 1)) = 0 ∨ mi_b (Int32.toInt64 ky) 0 15 = 0 ∨ mi_b (Int32.toInt64 fr) 1 100000 = 0 ∨ mi_b (Int32.toInt64 vl) (-1) 1000 = 0
def mh_late (y ma : Nat → Int32) (t' : Nat) (fr : Int32) : Prop := ¬ ma t' < fr ∧ (y 3 = 0 ∨ ¬ y 8 - y 5 < fr)
def mo_change (y ma : Nat → Int32) (t ky fr vl r : Int32) (y' : Nat → Int32) : Prop :=
  (mh_bad y t ky fr vl ∧ r = -1 ∧ y' = upd y 0 0) ∨
  (¬ mh_bad y t ky fr vl ∧ ∃ t' : Nat, t' < 3 ∧ t = nI t' ∧ ((mh_late y ma t' fr ∧ r = -4 ∧ y' = upd (upd y 0 0) 19 (y 19 + 1)) ∨
    (¬ mh_late y ma t' fr ∧ ((y 10 = 160 ∧ r = -3 ∧ y' = upd y 0 0) ∨ (my_core y y' ∧ y' 8 = y 8 ∧ y' 6 = 1)))))
theorem mh_nbad {y : Nat → Int32} {t ky fr vl : Int32} (h1 : ¬ mi_b (Int32.toInt64 t) 0 (Int32.toInt64 (y 1 - 1)) = 0) (h2 : ¬ mi_b (Int32.toInt64 ky) 0 15 = 0) (h3 : ¬ mi_b (Int32.toInt64 fr) 1 100000 = 0) (h4 : ¬ mi_b (Int32.toInt64 vl) (-1) 1000 = 0) : ¬ mh_bad y t ky fr vl := by
  rintro (q | q | q | q)
  · exact h1 q
  · exact h2 q
  · exact h3 q
  · exact h4 q
