/-! the reference: behind mark -/
theorem mt_nat {t y1 : Int32} {lo : Int64} {nt : Nat} (h : ¬ mi_b (Int32.toInt64 t) lo (Int32.toInt64 (y1 - 1)) = 0) (hn : y1 = nI nt) (hn3 : nt ≤ 3) (h0 : 0 ≤ t) : ∃ t' : Nat, t' < nt ∧ t = nI t' := by
  have h2 := (rs_n2 h).2
  rw [lg_cmp_gt, Int64.lt_iff_toInt_lt, Int32.toInt_toInt64, Int32.toInt_toInt64, hn] at h2
  rw [Int32.le_iff_toInt_le] at h0
  have h00 : (0 : Int) ≤ t.toInt := h0
  cases nt with
  | zero =>
    have e : (nI 0 - 1 : Int32).toInt = -1 := by decide
    rw [e] at h2
    omega
  | succ m =>
    rw [nI_pred, nI_toInt (by omega)] at h2
    rcases pk_ix t (n := m + 1) (by omega) with q | q | ⟨j, hj, e⟩
    · rw [Int32.lt_iff_toInt_lt] at q
      have : t.toInt < 0 := q
      omega
    · rw [Int32.le_iff_toInt_le, nI_toInt (by omega)] at q
      omega
    · exact ⟨j, hj, e⟩
theorem mi_mark {Y0 y3 ve ve' rw w3 w4 : Nat → Int32} {nt nr nv n1 n2 c : Nat} {p : (Nat → Int32) → Bool} {a1 a2 : Int32} (hms : my_same Y0 y3) (hnt : Y0 1 = nI nt) (ht3 : nt ≤ 3) (hc : Y0 14 = nI c) (hc3 : c ≤ 30000) (h6 : Y0 6 = 1) (hinc : mr_inc rw nr) (hlc : ∀ a, a ∈ mrl rw nr → a 0 < nI c) (hap : mv_apart ve nv) (hv : nv ≤ 160) (hr : nr ≤ 96) (hno : ∃ no, no ≤ 192 ∧ y3 21 = nI no) (hmr : mrow rw w3 nr)
    (h1 : n1 ≤ nr) (hf : mrl w4 n1 = (mrl w3 nr).filter p) (h2 : n2 ≤ nv) (hs : (mvl ve' n2).Sublist (mvl ve nv)) : mi_ok (upd (upd (upd (upd y3 17 a1) 13 (nI n1)) 18 a2) 10 (nI n2)) ve' w4 := by
  obtain ⟨no, hno2, hno⟩ := hno
  have e : ∀ i, i < nr → w3 (6 * i) = rw (6 * i) := fun i hi => hmr i hi 0 (by decide)
  refine ⟨nt, n2, n1, no, c, (hms 1 (by decide) (by decide) (by decide)).trans hnt, ht3, rfl, by omega, rfl, by omega, hno, hno2, (hms 14 (by decide) (by decide) (by decide)).trans hc, hc3, mr_inc_f (mr_inc_c e hinc) hf, ?_, mv_apart_sub hap hs, fun q => ?_⟩
  · intro a ha
    rw [hf] at ha
    exact mrl_in (p := fun z => z < nI c) (fun i hi => by rw [e i hi]; exact mrl_at (p := fun z => z < nI c) hlc hi) a (List.mem_filter.mp ha).1
  · exact absurd (((hms 6 (by decide) (by decide) (by decide)).trans h6).symm.trans q) (by decide)
theorem mr_inc_w {rw w3 : Nat → Int32} {n : Nat} (h : mrow rw w3 n) (hi : mr_inc rw n) : mr_inc w3 n := mr_inc_c (fun i hi => h i hi 0 (by decide)) hi
def mm_bad (y : Nat → Int32) (t tm : Int32) : Prop := mi_b (Int32.toInt64 t) (-1) (Int32.toInt64 (y 1 - 1)) = 0 ∨ mi_b (Int32.toInt64 tm) 0 100000 = 0
def mo_mark (y ma : Nat → Int32) (t tm r : Int32) (y' ma' : Nat → Int32) : Prop :=
  (mm_bad y t tm ∧ r = -1 ∧ y' = upd y 0 0 ∧ ma' = ma) ∨
  (¬ mm_bad y t tm ∧ ((¬ 0 ≤ t ∧ ((¬ y 8 < tm ∧ r = -2 ∧ y' = upd y 0 0 ∧ ma' = ma) ∨ (y 8 < tm ∧ r = y 8 ∧ my_core y y' ∧ y' 8 = tm ∧ y' 6 = 1 ∧ ma' = ma))) ∨
    (∃ t' : Nat, t' < 3 ∧ t = nI t' ∧ ((¬ ma t' < tm ∧ r = -2 ∧ y' = upd y 0 0 ∧ ma' = ma) ∨ (ma t' < tm ∧ r = ma t' ∧ my_core y y' ∧ y' 8 = y 8 ∧ y' 6 = 1 ∧ ma' = upd ma t' tm)))))
theorem mm_nbad {y : Nat → Int32} {t tm : Int32} (h1 : ¬ mi_b (Int32.toInt64 t) (-1) (Int32.toInt64 (y 1 - 1)) = 0) (h2 : ¬ mi_b (Int32.toInt64 tm) 0 100000 = 0) : ¬ mm_bad y t tm := fun q => q.elim h1 h2
