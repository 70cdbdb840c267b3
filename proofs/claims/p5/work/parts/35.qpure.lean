theorem sw_out {x : Int32} {n : Nat} (hn : n < 2 ^ 30) (h : x < 0 ∨ nI (n + 1) ≤ x) : x.toInt < 0 ∨ (n : Int) < x.toInt := by
  rcases h with h | h
  · rw [Int32.lt_iff_toInt_lt, Int32.toInt_zero] at h; exact Or.inl h
  · rw [Int32.le_iff_toInt_le, nI_toInt (by omega)] at h; exact Or.inr (by omega)
/-- behind a CHANGE -/
def xo_change (n3 : Nat) (x ru ma : Nat → Int32) (gv tk : Int32) (V R Lo : List (Nat → Int32)) (t ky fr vl r : Int32) (x' : Nat → Int32) (gv' tk' : Int32) (V' R' Lo' : List (Nat → Int32)) : Prop :=
  ((xt_b (x 6) t = 0 ∨ xk_b ky = 0 ∨ xm_b fr = 0 ∨ (¬ vl = -1 ∧ xv_b vl = 0)) ∧ r = -1 ∧ x' = x ∧ gv' = gv ∧ tk' = tk ∧ V' = V ∧ R' = R ∧ Lo' = Lo) ∨
  (¬ xt_b (x 6) t = 0 ∧ ¬ xk_b ky = 0 ∧ ¬ xm_b fr = 0 ∧ (vl = -1 ∨ ¬ xv_b vl = 0) ∧
    ((¬ xl_b ma ru (x 7) t fr = 0 ∧ r = -4 ∧ x' = upd x 11 (x 11 + 1) ∧ gv' = gv ∧ tk' = tk ∧ V' = V ∧ R' = R ∧ Lo' = Lo) ∨
     (xl_b ma ru (x 7) t fr = 0 ∧ 160 ≤ V.length ∧ r = -3 ∧ x' = x ∧ gv' = gv ∧ tk' = tk ∧ V' = V ∧ R' = R ∧ Lo' = Lo) ∨
     (xl_b ma ru (x 7) t fr = 0 ∧ V.length < 160 ∧ x' = upd x 12 1 ∧ ∃ t' kn k0 k1 k2 : Nat, t' < 3 ∧ t = nI t' ∧ kn < 16 ∧ ky = nI kn ∧ vs_cut V (nI (t' * 16 + kn)) fr k0 ∧ vs_put V (nI (t' * 16 + kn)) fr vl k0 V' ∧
       R' = R.map (cw_row V' ru n3 ky) ∧ Lo' = [] ++ R.flatMap (cw_o V' ru n3 ky) ∧ gv' = gv + nI (sw_n (cw_dg V' ru n3 ky) R R.length) ∧ tk' = tk + nI (sw_n (cw_dt V' ru ky) R R.length) ∧
       vs_cut V' (nI (t' * 16 + kn)) 0 k1 ∧ vs_cut V' (nI (t' * 16 + kn)) 100000 k2 ∧ k1 ≤ k2 ∧ r = nI (k2 - k1))))
/-- behind a ROW -/
def xo_row (n3 : Nat) (x ru ma : Nat → Int32) (gv : Int32) (V R Lo : List (Nat → Int32)) (ky tm vl r : Int32) (x' : Nat → Int32) (gv' : Int32) (R' Lo' : List (Nat → Int32)) : Prop :=
  ((xk_b ky = 0 ∨ xm_b tm = 0 ∨ xv_b vl = 0 ∨ x 6 = 0) ∧ r = -1 ∧ x' = x ∧ gv' = gv ∧ R' = R ∧ Lo' = Lo) ∨
  (¬ xk_b ky = 0 ∧ ¬ xm_b tm = 0 ∧ ¬ xv_b vl = 0 ∧ ¬ x 6 = 0 ∧
    ((¬ x 7 < tm ∧ r = -4 ∧ x' = upd x 11 (x 11 + 1) ∧ gv' = gv ∧ R' = R ∧ Lo' = Lo) ∨
     (x 7 < tm ∧ (96 ≤ R.length ∨ ¬ x 8 < 30000) ∧ r = -3 ∧ x' = x ∧ gv' = gv ∧ R' = R ∧ Lo' = Lo) ∨
     (x 7 < tm ∧ R.length < 96 ∧ x 8 < 30000 ∧ r = x 8 ∧ x' = upd (upd x 12 1) 8 (x 8 + 1) ∧ ∃ R1, rs_add R (x 8) ky tm vl R1 ∧ R' = R1.map (jr_row V ru n3 (xt_low ma n3)) ∧ Lo' = [] ++ R1.flatMap (jr_out V ru n3 (xt_low ma n3)) ∧ gv' = gv + nI (sw_n (jr_d V ru n3 (xt_low ma n3)) R1 R1.length))))
/-- behind a mark() -/
def xo_mark (n3 : Nat) (x ru ma : Nat → Int32) (gv : Int32) (V R Lo : List (Nat → Int32)) (t tm r : Int32) (x' ma' : Nat → Int32) (gv' : Int32) (V' R' Lo' : List (Nat → Int32)) : Prop :=
  (((¬ t = -1 ∧ xt_b (x 6) t = 0) ∨ tm < 0 ∨ 100000 < tm) ∧ r = -1 ∧ x' = x ∧ ma' = ma ∧ gv' = gv ∧ V' = V ∧ R' = R ∧ Lo' = Lo) ∨
  ((t = -1 ∨ ¬ xt_b (x 6) t = 0) ∧ ¬ tm < 0 ∧ ¬ 100000 < tm ∧ ∃ (xx mm : Nat → Int32) (bf : Int32),
    ((xt_b (x 6) t = 0 ∧ bf = x 7 ∧ xx = upd (upd x 12 1) 7 tm ∧ mm = ma) ∨ (¬ xt_b (x 6) t = 0 ∧ bf = ma t.toNatClampNeg ∧ xx = upd x 12 1 ∧ mm = upd ma t.toNatClampNeg tm)) ∧
    ((¬ bf < tm ∧ r = -2 ∧ x' = x ∧ ma' = ma ∧ gv' = gv ∧ V' = V ∧ R' = R ∧ Lo' = Lo) ∨
     (bf < tm ∧ r = bf ∧ ma' = mm ∧ ∃ R1, R1 = R.map (jr_row V ru n3 (xt_low mm n3)) ∧ R' = R1.filter (rs_keep (xx 7 - ru 3)) ∧ Lo' = [] ++ R.flatMap (jr_out V ru n3 (xt_low mm n3)) ∧ gv' = gv + nI (sw_n (jr_d V ru n3 (xt_low mm n3)) R R.length) ∧
       V' = dv (nd_b (ru 0) (xx 7 - ru 3) R') V ∧ x' = upd (upd xx 9 (xx 9 + nI (R1.length - R'.length))) 10 (xx 10 + nI (V.length - V'.length)))))
theorem rs_add_ky {R R1 : List (Nat → Int32)} {nu ky tm vl : Int32} (h : vs_all rs_ky R) (hk : ¬ xk_b ky = 0) (ha : rs_add R nu ky tm vl R1) : vs_all rs_ky R1 := by
  obtain ⟨k, r1, hp, e0, e1, e2, e3, e4, e5, rfl⟩ := ha
  obtain ⟨kn, h1, h2⟩ := xk_nat hk
  exact vs_all_ins h ⟨kn, h1, e1.trans h2⟩
theorem rs_add_len {R R1 : List (Nat → Int32)} {nu ky tm vl : Int32} (ha : rs_add R nu ky tm vl R1) : R1.length = R.length + 1 := by
  obtain ⟨k, r1, hp, e0, e1, e2, e3, e4, e5, rfl⟩ := ha
  exact ls_ins_len hp.1
theorem jr_flen (V : List (Nat → Int32)) (ru : Nat → Int32) (n : Nat) (low : Int32) (R : List (Nat → Int32)) : (R.flatMap (jr_out V ru n low)).length ≤ R.length := by
  have h := sw_o_len (Lo := []) (R := R) (k := 1) (jr_out_len V ru n low) R.length (Nat.le_refl _)
  rw [sw_o_all] at h
  simpa using h
theorem cw_flen (V : List (Nat → Int32)) (ru : Nat → Int32) (n : Nat) (ky : Int32) (R : List (Nat → Int32)) : (R.flatMap (cw_o V ru n ky)).length ≤ 2 * R.length := by
  have h := sw_o_len (Lo := []) (R := R) (k := 2) (cw_o_len V ru n ky) R.length (Nat.le_refl _)
  rw [sw_o_all] at h
  simpa using h
theorem dv_sub (nd : (Nat → Int32) → Option (Nat → Int32) → Bool) : ∀ L, (dv nd L).Sublist L := by
  intro L
  induction L with
  | nil => exact List.Sublist.refl _
  | cons r t ih =>
    unfold dv
    split
    · exact List.Sublist.cons _ ih
    · exact List.Sublist.cons₂ _ ih
theorem vs_sorted_pw {V : List (Nat → Int32)} : vs_sorted V ↔ V.Pairwise vs_lt := by
  rw [List.pairwise_iff_getElem]
  constructor
  · intro h i j hi hj hij
    exact h i j _ _ hij (List.getElem?_eq_getElem hi) (List.getElem?_eq_getElem hj)
  · intro h i j ri rj hij h1 h2
    obtain ⟨hi, e1⟩ := List.getElem?_eq_some_iff.mp h1
    obtain ⟨hj, e2⟩ := List.getElem?_eq_some_iff.mp h2
    rw [← e1, ← e2]
    exact h i j hi hj hij
theorem dv_sorted {nd : (Nat → Int32) → Option (Nat → Int32) → Bool} {V : List (Nat → Int32)} (h : vs_sorted V) : vs_sorted (dv nd V) := by
  rw [vs_sorted_pw] at *
  exact h.sublist (dv_sub nd V)
theorem dv_pl {nd : (Nat → Int32) → Option (Nat → Int32) → Bool} {V : List (Nat → Int32)} (h : vs_all vs_pl V) : vs_all vs_pl (dv nd V) := by
  rw [vs_all_mem] at *
  exact fun r hr => h r ((dv_sub nd V).subset hr)
theorem xt_one {n t : Int32} (h : ¬ xt_b n t = 0) : xt_b n t = 1 := if_pos (rs_n2 h)
