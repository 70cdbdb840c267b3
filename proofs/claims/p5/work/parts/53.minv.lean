/-! the reference's invariant -/
def mi_ok (y ve rw : Nat → Int32) : Prop := ∃ nt nv nr no c : Nat, y 1 = nI nt ∧ nt ≤ 3 ∧ y 10 = nI nv ∧ nv ≤ 160 ∧ y 13 = nI nr ∧ nr ≤ 96 ∧ y 21 = nI no ∧ no ≤ 192 ∧ y 14 = nI c ∧ c ≤ 30000 ∧ mr_inc rw nr ∧ (∀ a, a ∈ mrl rw nr → a 0 < nI c) ∧ mv_apart ve nv ∧ (y 6 = 0 → nv = 0 ∧ nr = 0 ∧ c = 0)
theorem mi_keep {y y' ve rw : Nat → Int32} (h : mi_ok y ve rw) (h1 : y' 1 = y 1) (h10 : y' 10 = y 10) (h13 : y' 13 = y 13) (h21 : y' 21 = y 21) (h14 : y' 14 = y 14) (h6 : y' 6 = y 6) : mi_ok y' ve rw := by
  unfold mi_ok
  rw [h1, h10, h13, h21, h14, h6]
  exact h
theorem mr_inc_c {rw rw' : Nat → Int32} {n : Nat} (h : ∀ i, i < n → rw' (6 * i) = rw (6 * i)) (hi : mr_inc rw n) : mr_inc rw' n := by
  refine List.pairwise_map.mpr (List.Pairwise.imp_of_mem (fun {a b} ha hb q => ?_) (List.pairwise_map.mp hi))
  show rw' (6 * a) < rw' (6 * b)
  rw [h a (List.mem_range.mp ha), h b (List.mem_range.mp hb)]
  exact q
theorem mr_inc_s {rw : Nat → Int32} {n : Nat} (h : mr_inc rw n) (h2 : ∀ a, a ∈ mrl rw n → a 0 < rw (6 * n)) : mr_inc rw (n + 1) := by
  unfold mr_inc
  rw [mrl_s]
  refine List.pairwise_append.mpr ⟨h, List.pairwise_singleton _ _, fun a ha b hb => ?_⟩
  rw [List.mem_singleton.mp hb]
  exact h2 a ha
theorem mrl_in {rw : Nat → Int32} {n : Nat} {p : Int32 → Prop} (h : ∀ i, i < n → p (rw (6 * i))) : ∀ a, a ∈ mrl rw n → p (a 0) := by
  intro a ha
  obtain ⟨i, hi, rfl⟩ := List.mem_map.mp ha
  exact h i (List.mem_range.mp hi)
theorem mrl_at {rw : Nat → Int32} {n : Nat} {p : Int32 → Prop} (h : ∀ a, a ∈ mrl rw n → p (a 0)) {i : Nat} (hi : i < n) : p (rw (6 * i)) :=
  h _ (List.mem_map.mpr ⟨i, List.mem_range.mpr hi, rfl⟩)
/-- a row more at the end -/
def mr_new (rw : Nat → Int32) (n : Nat) (v0 v1 v2 v3 v4 v5 : Int32) : Nat → Int32 := upd (upd (upd (upd (upd (upd rw (6 * n) v0) (6 * n + 1) v1) (6 * n + 2) v2) (6 * n + 3) v3) (6 * n + 4) v4) (6 * n + 5) v5
theorem mr_new_at {rw : Nat → Int32} {n : Nat} {v0 v1 v2 v3 v4 v5 : Int32} : mr_new rw n v0 v1 v2 v3 v4 v5 (6 * n) = v0 := by
  unfold mr_new
  rw [pk_un (by omega), pk_un (by omega), pk_un (by omega), pk_un (by omega), pk_un (by omega), pk_us]
theorem mr_new_lo {rw : Nat → Int32} {n i : Nat} {v0 v1 v2 v3 v4 v5 : Int32} (h : i < n) : mr_new rw n v0 v1 v2 v3 v4 v5 (6 * i) = rw (6 * i) := by
  unfold mr_new
  rw [pk_un (by omega), pk_un (by omega), pk_un (by omega), pk_un (by omega), pk_un (by omega), pk_un (by omega)]
theorem mr_new_inc {rw : Nat → Int32} {n c : Nat} {v1 v2 v3 v4 v5 : Int32} (h : mr_inc rw n) (h2 : ∀ a, a ∈ mrl rw n → a 0 < nI c) : mr_inc (mr_new rw n (nI c) v1 v2 v3 v4 v5) (n + 1) := by
  refine mr_inc_s (mr_inc_c (fun i hi => mr_new_lo hi) h) ?_
  rw [mr_new_at]
  exact mrl_in (p := fun z => z < nI c) (fun i hi => by rw [mr_new_lo hi]; exact mrl_at (p := fun z => z < nI c) h2 hi)
theorem mi_row {y y' ve rw w' : Nat → Int32} {nt nv nr c : Nat} {v1 v2 v3 v4 v5 : Int32} (hnt : y 1 = nI nt) (ht3 : nt ≤ 3) (hnv : y 10 = nI nv) (hv : nv ≤ 160) (hr : nr < 96) (hc : c < 30000) (hinc : mr_inc rw nr) (hlc : ∀ a, a ∈ mrl rw nr → a 0 < nI c) (hap : mv_apart ve nv)
    (hms : my_same (upd (upd (upd (upd (upd y 0 0) 6 1) 21 0) 13 (nI (nr + 1))) 14 (nI (c + 1))) y') (hno : ∃ no, no ≤ 192 ∧ y' 21 = nI no) (hmr : mrow (mr_new rw nr (nI c) v1 v2 v3 v4 v5) w' (nr + 1)) : mi_ok y' ve w' := by
  obtain ⟨no, hno2, hno⟩ := hno
  have e : ∀ i, i < nr + 1 → w' (6 * i) = mr_new rw nr (nI c) v1 v2 v3 v4 v5 (6 * i) := fun i hi => hmr i hi 0 (by decide)
  refine ⟨nt, nv, nr + 1, no, c + 1, (hms 1 (by decide) (by decide) (by decide)).trans hnt, ht3, (hms 10 (by decide) (by decide) (by decide)).trans hnv, hv, hms 13 (by decide) (by decide) (by decide), hr, hno, hno2, hms 14 (by decide) (by decide) (by decide), hc, mr_inc_c e (mr_new_inc hinc hlc), ?_, hap, fun q => ?_⟩
  · refine mrl_in (p := fun z => z < nI (c + 1)) (fun i hi => ?_)
    rw [e i hi]
    rcases Nat.lt_or_ge i nr with q | q
    · rw [mr_new_lo q]
      have h1 := mrl_at (p := fun z => z < nI c) hlc q
      have h2 : nI c < nI (c + 1) := nI_lt (by omega) (by omega)
      exact Int32.lt_trans h1 h2
    · obtain rfl : i = nr := by omega
      rw [mr_new_at]
      exact nI_lt (by omega) (by omega)
  · have := (hms 6 (by decide) (by decide) (by decide)).symm.trans q
    exact absurd (show (1 : Int32) = 0 from this) (by decide)
/-- what the law reads of it is kept -/
def my_core (y y' : Nat → Int32) : Prop := y' 1 = y 1 ∧ y' 2 = y 2 ∧ y' 3 = y 3 ∧ y' 4 = y 4 ∧ y' 5 = y 5
def mr_bad (y : Nat → Int32) (ky tm vl : Int32) : Prop := mi_b (Int32.toInt64 ky) 0 15 = 0 ∨ mi_b (Int32.toInt64 tm) 1 100000 = 0 ∨ mi_b (Int32.toInt64 vl) 0 1000 = 0 ∨ y 1 = 0
def mo_row (y : Nat → Int32) (ky tm vl r : Int32) (y' : Nat → Int32) : Prop :=
  (mr_bad y ky tm vl ∧ r = -1 ∧ y' = upd y 0 0) ∨
  (¬ mr_bad y ky tm vl ∧ ((¬ y 8 < tm ∧ r = -4 ∧ y' = upd (upd y 0 0) 19 (y 19 + 1)) ∨
    (y 8 < tm ∧ (((y 13 = 96 ∨ y 14 = 30000) ∧ r = -3 ∧ y' = upd y 0 0) ∨ (¬ (y 13 = 96 ∨ y 14 = 30000) ∧ r = y 14 ∧ my_core y y' ∧ y' 8 = y 8 ∧ y' 6 = 1)))))
theorem mr_nbad {y : Nat → Int32} {ky tm vl : Int32} (h1 : ¬ mi_b (Int32.toInt64 ky) 0 15 = 0) (h2 : ¬ mi_b (Int32.toInt64 tm) 1 100000 = 0) (h3 : ¬ mi_b (Int32.toInt64 vl) 0 1000 = 0) (h4 : ¬ y 1 = 0) : ¬ mr_bad y ky tm vl := by
  rintro (q | q | q | q)
  · exact h1 q
  · exact h2 q
  · exact h3 q
  · exact h4 q
theorem my_coreS {y y0 y' : Nat → Int32} (h2 : my_same y0 y') (h : my_core y y0) : my_core y y' :=
  ⟨(h2 1 (by decide) (by decide) (by decide)).trans h.1, (h2 2 (by decide) (by decide) (by decide)).trans h.2.1, (h2 3 (by decide) (by decide) (by decide)).trans h.2.2.1, (h2 4 (by decide) (by decide) (by decide)).trans h.2.2.2.1, (h2 5 (by decide) (by decide) (by decide)).trans h.2.2.2.2⟩
