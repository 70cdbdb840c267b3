/-! the two sides: the rows, as far as row() sees them -/
theorem xt_low_iff (ma : Nat → Int32) (a : Int32) : ∀ n, a ≤ xt_low ma n ↔ (a ≤ 100000 ∧ ∀ c, c < n → a ≤ ma c) := by
  intro n
  induction n with
  | zero => exact ⟨fun h => ⟨h, fun c hc => absurd hc (Nat.not_lt_zero _)⟩, fun h => h.1⟩
  | succ n ih =>
    have e : a ≤ xt_low ma (n + 1) ↔ (a ≤ xt_low ma n ∧ a ≤ ma n) := by
      show a ≤ (if ma n < xt_low ma n then ma n else xt_low ma n) ↔ _
      by_cases q : ma n < xt_low ma n
      · rw [if_pos q]
        rw [Int32.lt_iff_toInt_lt] at q
        rw [Int32.le_iff_toInt_le, Int32.le_iff_toInt_le]
        omega
      · rw [if_neg q]
        rw [Int32.lt_iff_toInt_lt] at q
        rw [Int32.le_iff_toInt_le, Int32.le_iff_toInt_le]
        omega
    rw [e, ih]
    constructor
    · rintro ⟨⟨h1, h2⟩, h3⟩
      refine ⟨h1, fun c hc => ?_⟩
      rcases Nat.lt_or_ge c n with q | q
      · exact h2 c q
      · obtain rfl : c = n := by omega
        exact h3
    · rintro ⟨h1, h2⟩
      exact ⟨⟨h1, fun c hc => h2 c (by omega)⟩, h2 n (by omega)⟩
def pk01 (p : Int32 × Int32) : Prop := (p.2 = 0 ∨ p.2 = 1) ∧ p.1 ≤ 100000
theorem pk01_mj {ma : Nat → Int32} {n : Nat} {p : Int32 × Int32} (h : pk01 p) : pk01 (mj ma n p) := by
  refine ⟨?_, h.2⟩
  show (if p.2 = 1 ∧ (∀ c, c < n → p.1 ≤ ma c) then (0 : Int32) else p.2) = 0 ∨ (if p.2 = 1 ∧ (∀ c, c < n → p.1 ≤ ma c) then (0 : Int32) else p.2) = 1
  by_cases q : p.2 = 1 ∧ (∀ c, c < n → p.1 ≤ ma c)
  · rw [if_pos q]; exact Or.inl rfl
  · rw [if_neg q]; exact h.1
theorem pr_t (V : List (Nat → Int32)) (ru : Nat → Int32) (n : Nat) (r : Nat → Int32) : pr2 (jr_t V ru n r) = (r 2, 0) := rfl
theorem pr_jr {V : List (Nat → Int32)} {ru ma r : Nat → Int32} {n : Nat} (h : r 2 ≤ 100000) : pr2 (jr_row V ru n (xt_low ma n) r) = mj ma n (pr2 r) := by
  show _ = (r 2, if r 4 = 1 ∧ (∀ c, c < n → r 2 ≤ ma c) then 0 else r 4)
  unfold jr_row
  by_cases q : r 4 = 1 ∧ r 2 ≤ xt_low ma n
  · rw [if_pos q, if_pos ⟨q.1, ((xt_low_iff ma (r 2) n).mp q.2).2⟩, pr_t]
  · rw [if_neg q, if_neg (fun z => q ⟨z.1, (xt_low_iff ma (r 2) n).mpr ⟨h, z.2⟩⟩)]
    rfl
theorem pr_jrs {V : List (Nat → Int32)} {ru ma : Nat → Int32} {n : Nat} {R : List (Nat → Int32)} (h : ∀ p ∈ R.map pr2, pk01 p) : (R.map (jr_row V ru n (xt_low ma n))).map pr2 = (R.map pr2).map (mj ma n) := by
  rw [List.map_map, List.map_map]
  apply List.map_congr_left
  intro r hr
  exact pr_jr (h _ (List.mem_map.mpr ⟨r, hr, rfl⟩)).2
theorem pr_cw {V : List (Nat → Int32)} {ru r : Nat → Int32} {n : Nat} {ky : Int32} (h : pk01 (pr2 r)) : pr2 (cw_row V ru n ky r) = pr2 r := by
  unfold cw_row
  by_cases q : cw_c ky r = true
  · rw [if_pos q]
    have q2 := (of_decide_eq_true q).2
    unfold cr_new
    by_cases z : cr_s V (ru 0) r = true
    · rw [if_pos z]
    · rw [if_neg z, pr_t]
      have e : r 4 = 0 := h.1.resolve_right q2
      show (r 2, (0 : Int32)) = (r 2, r 4)
      rw [e]
  · rw [if_neg q]
theorem pr_cws {V : List (Nat → Int32)} {ru : Nat → Int32} {n : Nat} {ky : Int32} {R : List (Nat → Int32)} (h : ∀ p ∈ R.map pr2, pk01 p) : (R.map (cw_row V ru n ky)).map pr2 = R.map pr2 := by
  rw [List.map_map]
  apply List.map_congr_left
  intro r hr
  exact pr_cw (h _ (List.mem_map.mpr ⟨r, hr, rfl⟩))
theorem pr_keep {hz : Int32} {R : List (Nat → Int32)} (h : ∀ p ∈ R.map pr2, pk01 p) : (R.filter (rs_keep hz)).map pr2 = (R.map pr2).filter (mkp hz) := by
  rw [List.filter_map]
  congr 1
  apply List.filter_congr
  intro r hr
  have q := (h _ (List.mem_map.mpr ⟨r, hr, rfl⟩)).1
  show (decide (r 4 = 1) || decide (hz < r 2)) = !(decide (r 4 = 0) && decide (r 2 ≤ hz))
  have e2 : decide (r 2 ≤ hz) = !decide (hz < r 2) := by
    by_cases z : hz < r 2
    · rw [decide_eq_true z, decide_eq_false (sh_nle z)]; rfl
    · rw [decide_eq_false z, decide_eq_true (sh_le_of z)]; rfl
  rw [e2]
  rcases q with q | q
  · have q : r 4 = 0 := q
    rw [q, show decide ((0 : Int32) = 1) = false from by decide, show decide ((0 : Int32) = 0) = true from by decide]
    cases decide (hz < r 2) <;> rfl
  · have q : r 4 = 1 := q
    rw [q, show decide ((1 : Int32) = 1) = true from by decide, show decide ((1 : Int32) = 0) = false from by decide]
    rfl
theorem mj_same {ma mm : Nat → Int32} {n : Nat} (h : ∀ t, t < 3 → mm t = ma t) (hn : n ≤ 3) : mj mm n = mj ma n := by
  funext p
  unfold mj
  have e : (∀ c, c < n → p.1 ≤ mm c) ↔ (∀ c, c < n → p.1 ≤ ma c) := by
    constructor
    · intro q c hc; rw [← h c (by omega)]; exact q c hc
    · intro q c hc; rw [h c (by omega)]; exact q c hc
  by_cases z : p.2 = 1 ∧ (∀ c, c < n → p.1 ≤ ma c)
  · rw [if_pos z, if_pos ⟨z.1, e.mpr z.2⟩]
  · rw [if_neg z, if_neg (fun w => z ⟨w.1, e.mp w.2⟩)]
/-- rows that came, rows that are there -/
def sq (x : Nat → Int32) (R : List (Nat → Int32)) (y rw : Nat → Int32) : Prop :=
  x 8 = y 14 ∧ (∃ nr, y 13 = nI nr ∧ nr ≤ 96 ∧ (R.map pr2).Perm ((mrl rw nr).map pr2)) ∧ (∀ p ∈ R.map pr2, pk01 p)
theorem sq_0 : sq (fun _ => 0) [] (fun _ => 0) (fun _ => 0) := ⟨rfl, ⟨0, rfl, by decide, List.Perm.refl _⟩, fun p h => absurd h List.not_mem_nil⟩
theorem sq_same {x y x' y' rw : Nat → Int32} {R : List (Nat → Int32)} (h : sq x R y rw) (h8 : x' 8 = x 8) (h13 : y' 13 = y 13) (h14 : y' 14 = y 14) : sq x' R y' rw := by
  unfold sq
  rw [h8, h13, h14]
  exact h
theorem nI_nm3 {n : Nat} (h : n < 2 ^ 31) : ¬ nI n = -3 := by
  intro q
  have h2 := nI_pos h
  rw [q] at h2
  exact h2 (by decide)
theorem nI_nm4 {n : Nat} (h : n < 2 ^ 31) : ¬ nI n = -4 := by
  intro q
  have h2 := nI_pos h
  rw [q] at h2
  exact h2 (by decide)
theorem xm_le {tm : Int32} (h : ¬ xm_b tm = 0) : tm ≤ 100000 := by
  rw [xm_iff] at h
  rw [Int32.le_iff_toInt_le, show (100000 : Int32).toInt = 100000 from rfl]
  omega
theorem sq_row {n3 : Nat} (hn : n3 ≤ 3) {x ru ma y mm x' y' ve rw w' : Nat → Int32} {V R Lo R' Lo' : List (Nat → Int32)} {gv gv' ky tm vl r r' : Int32} (h : sr x ru ma V R y mm) (h6 : x 6 = nI n3) (hs : sq x R y rw) (hok : mi_ok y ve rw)
    (hc : xo_row n3 x ru ma gv V R Lo ky tm vl r x' gv' R' Lo') (hm : mo_row y ky tm vl r' y') (hq : mq_row y mm rw tm r' y' w') : r = r' ∧ sq x' R' y' w' := by
  have eb := sm_row (ky := ky) (tm := tm) (vl := vl) h.1
  have e8 := h.2.2.2.2.1
  obtain ⟨hs8, ⟨nr, hnr, hr96, hp⟩, hk⟩ := id hs
  have hlen : R.length = nr := by
    have := hp.length_eq
    rw [List.length_map, List.length_map] at this
    rw [this]
    unfold mrl
    rw [List.length_map, List.length_range]
  obtain ⟨-, -, -, -, c, -, -, -, -, -, -, -, -, hcm, hc3, -⟩ := hok
  have e13 : y 13 = 96 ↔ nr = 96 := by rw [hnr]; exact nI_eq (b := 96) (by omega) (by decide)
  have e14 : y 14 = 30000 ↔ c = 30000 := by rw [hcm]; exact nI_eq (b := 30000) (by omega) (by decide)
  have e15 : x 8 < 30000 ↔ c < 30000 := by rw [hs8, hcm]; exact nI_ltI (b := 30000) (by omega) (by decide)
  have n1 : ∀ c' : Nat, c' < 30000 → ¬ nI c' = -1 := fun c' h => nI_nm1 (by omega)
  have n3' : ∀ c' : Nat, c' < 30000 → ¬ nI c' = -3 := fun c' h => nI_nm3 (by omega)
  have n4 : ∀ c' : Nat, c' < 30000 → ¬ nI c' = -4 := fun c' h => nI_nm4 (by omega)
  rcases hc with ⟨c1, rfl, rfl, -, rfl, -⟩ | ⟨c1, c2, c3, c4, ⟨c5, rfl, rfl, -, rfl, -⟩ | ⟨c5, c6, rfl, rfl, -, rfl, -⟩ | ⟨c5, c6, c7, rfl, rfl, R1, hadd, rfl, -⟩⟩
  · rcases hm with ⟨m1, rfl, rfl⟩ | ⟨m1, -⟩
    · rcases hq with ⟨-, rfl, -⟩ | ⟨nt', nr', c', -, -, -, -, -, hc', er, -⟩
      · exact ⟨rfl, sq_same hs rfl rfl rfl⟩
      · exact absurd er.symm (n1 c' hc')
    · exact absurd (eb.mpr c1) m1
  all_goals
    have nb : ¬ mr_bad y ky tm vl := fun q => (eb.mp q).elim c1 (fun q => q.elim c2 (fun q => q.elim c3 c4))
  · rcases hm with ⟨m1, -⟩ | ⟨-, ⟨m2, rfl, rfl⟩ | ⟨m2, -⟩⟩
    · exact absurd m1 nb
    · rcases hq with ⟨-, rfl, -⟩ | ⟨nt', nr', c', -, -, -, -, -, hc', er, -⟩
      · exact ⟨rfl, sq_same hs rfl rfl rfl⟩
      · exact absurd er.symm (n4 c' hc')
    · rw [e8] at m2; exact absurd m2 c5
  · have hfull : y 13 = 96 ∨ y 14 = 30000 := by
      rcases c6 with z | z
      · exact Or.inl (e13.mpr (by omega))
      · exact Or.inr (e14.mpr (by rw [e15] at z; omega))
    rcases hm with ⟨m1, -⟩ | ⟨-, ⟨m2, -⟩ | ⟨m2, ⟨-, rfl, rfl⟩ | ⟨m3, -⟩⟩⟩
    · exact absurd m1 nb
    · rw [e8] at m2; exact absurd c5 m2
    · rcases hq with ⟨-, rfl, -⟩ | ⟨nt', nr', c', -, -, -, -, -, hc', er, -⟩
      · exact ⟨rfl, sq_same hs rfl rfl rfl⟩
      · exact absurd er.symm (n3' c' hc')
    · exact absurd hfull m3
  · have hnf : ¬ (y 13 = 96 ∨ y 14 = 30000) := by
      rintro (z | z)
      · have := e13.mp z; omega
      · have := e14.mp z; rw [e15] at c7; omega
    rcases hm with ⟨m1, -⟩ | ⟨-, ⟨m2, -⟩ | ⟨m2, ⟨m3, -⟩ | ⟨-, er', m4, m5, m6⟩⟩⟩
    · exact absurd m1 nb
    · rw [e8] at m2; exact absurd c5 m2
    · exact absurd m3 hnf
    · refine ⟨hs8.trans er'.symm, ?_⟩
      rcases hq with ⟨z, -⟩ | ⟨nt, nr', c', hnt, ht3, hnr', hr9, hcm', hc9, er, g13, g14, gp⟩
      · exfalso
        rw [er', hcm] at z
        have hc9 : c < 30000 := e15.mp c7
        rcases z with z | z | z
        · exact n1 c hc9 z
        · exact n4 c hc9 z
        · exact n3' c hc9 z
      · have ent : nt = n3 := (nI_eq (by omega) (by omega)).mp (hnt.symm.trans (h.1.trans h6))
        have enr : nr' = nr := (nI_eq (by omega) (by omega)).mp (hnr'.symm.trans hnr)
        subst ent enr
        obtain ⟨k, r1, hpos, -, -, e2, -, e4, -, rfl⟩ := hadd
        have hpr : pr2 r1 = (tm, 1) := by
          show (r1 2, r1 4) = _
          rw [e2, e4]
        have hperm : ((R.take k ++ r1 :: R.drop k).map pr2).Perm ((tm, 1) :: R.map pr2) := by
          rw [← hpr, ← List.map_cons]
          refine List.Perm.map _ ?_
          have := (List.perm_middle (a := r1) (l₁ := R.take k) (l₂ := R.drop k))
          rw [List.take_append_drop] at this
          exact this
        have hk1 : ∀ p ∈ (R.take k ++ r1 :: R.drop k).map pr2, pk01 p := by
          intro p hp1
          rcases List.mem_cons.mp (hperm.mem_iff.mp hp1) with e | e
          · rw [e]; exact ⟨Or.inr rfl, xm_le c2⟩
          · exact hk p e
        refine ⟨?_, ⟨nr' + 1, g13, by omega, ?_⟩, ?_⟩
        · show x 8 + 1 = y' 14
          rw [g14, hs8, hcm']
          exact nI_1 c'
        · rw [gp, pr_jrs hk1, mj_same h.2.2.2.1 hn]
          refine List.Perm.map _ (hperm.trans ?_)
          exact (List.Perm.cons _ hp).trans (List.perm_append_singleton _ _).symm
        · rw [pr_jrs hk1]
          intro p hp1
          obtain ⟨p0, h0, rfl⟩ := List.mem_map.mp hp1
          exact pk01_mj (hk1 p0 h0)
theorem sq_change {n3 : Nat} {x ru ma y x' y' rw w' : Nat → Int32} {V R Lo V' R' Lo' : List (Nat → Int32)} {gv gv' tk tk' t ky fr vl r : Int32} (hs : sq x R y rw)
    (hc : xo_change n3 x ru ma gv tk V R Lo t ky fr vl r x' gv' tk' V' R' Lo') (hq : mq_change y rw y' w') : sq x' R' y' w' := by
  obtain ⟨nr, hnr, hr96, g13, g14, gp⟩ := hq
  obtain ⟨hs8, ⟨nr', hnr', hr96', hp⟩, hk⟩ := id hs
  have enr : nr' = nr := (nI_eq (by omega) (by omega)).mp (hnr'.symm.trans hnr)
  subst enr
  have key : ∀ {x'' : Nat → Int32} {R'' : List (Nat → Int32)}, x'' 8 = x 8 → R''.map pr2 = R.map pr2 → sq x'' R'' y' w' := by
    intro x'' R'' a1 a2
    refine ⟨by rw [a1, g14]; exact hs8, ⟨nr', by rw [g13]; exact hnr, hr96, ?_⟩, ?_⟩
    · rw [a2, gp]; exact hp
    · rw [a2]; exact hk
  rcases hc with ⟨-, -, rfl, -, -, -, rfl, -⟩ | ⟨-, -, -, -, ⟨-, -, rfl, -, -, -, rfl, -⟩ | ⟨-, -, -, rfl, -, -, -, rfl, -⟩ | ⟨-, -, rfl, t', kn, k0, k1, k2, -, -, -, -, -, -, rfl, -⟩⟩
  · exact key rfl rfl
  · exact key rfl rfl
  · exact key rfl rfl
  · exact key rfl (pr_cws hk)
theorem sq_mark {n3 : Nat} (hn : n3 ≤ 3) {x ru ma y mm x' ma' y' mm' rw w' : Nat → Int32} {V R Lo V' R' Lo' : List (Nat → Int32)} {gv gv' t tm r : Int32} (h : sr x ru ma V R y mm) (h' : sr x' ru ma' V' R' y' mm') (h6 : x 6 = nI n3) (hs : sq x R y rw)
    (hc : xo_mark n3 x ru ma gv V R Lo t tm r x' ma' gv' V' R' Lo') (hq : mq_mark y mm rw t tm y' mm' w') : sq x' R' y' w' := by
  have eb := sm_mark hn (t := t) (tm := tm) h.1 h6
  have e8 := h.2.2.2.2.1
  have tneg : ¬ 0 ≤ t → xt_b (x 6) t = 0 := by
    intro m2
    rw [h6, xt_iff hn]
    rw [Int32.le_iff_toInt_le] at m2
    have m2' : ¬ (0 : Int) ≤ t.toInt := m2
    omega
  have tpos : ∀ t' : Nat, t' < 3 → t = nI t' → ¬ t = -1 := fun t' ht et => by rw [et]; exact nI_nm1 (by omega)
  have tcl : ∀ t' : Nat, t' < 3 → t = nI t' → t.toNatClampNeg = t' := fun t' ht et => by rw [et]; exact nI_clamp (by omega)
  rcases hc with ⟨c1, -, rfl, rfl, -, rfl, rfl, -⟩ | ⟨c1, c2, c3, xx, mm2, bf, c4, c5⟩
  · rcases hq with ⟨-, rfl, g13, g14⟩ | ⟨m1, -⟩
    · exact sq_same hs rfl g13 g14
    · exact absurd (eb.mpr c1) m1
  · have nb : ¬ mm_bad y t tm := fun q => (eb.mp q).elim (fun q => c1.elim q.1 (fun z => z q.2)) (fun q => q.elim c2 c3)
    have hbf : ((¬ 0 ≤ t ∧ y 8 < tm) ∨ (∃ t' : Nat, t' < 3 ∧ t = nI t' ∧ mm t' < tm)) → bf < tm := by
      rintro (⟨q1, q2⟩ | ⟨t', ht, et, q2⟩)
      · obtain ⟨-, rfl, -⟩ := c4.resolve_right (fun q => q.1 (tneg q1))
        rw [← e8]; exact q2
      · have ex : ¬ xt_b (x 6) t = 0 := c1.resolve_left (tpos t' ht et)
        obtain ⟨-, rfl, -⟩ := c4.resolve_left (fun q => ex q.1)
        rw [tcl t' ht et, ← h.2.2.2.1 t' ht]; exact q2
    have hbf2 : ((¬ 0 ≤ t ∧ ¬ y 8 < tm) ∨ (∃ t' : Nat, t' < 3 ∧ t = nI t' ∧ ¬ mm t' < tm)) → ¬ bf < tm := by
      rintro (⟨q1, q2⟩ | ⟨t', ht, et, q2⟩)
      · obtain ⟨-, rfl, -⟩ := c4.resolve_right (fun q => q.1 (tneg q1))
        rw [← e8]; exact q2
      · have ex : ¬ xt_b (x 6) t = 0 := c1.resolve_left (tpos t' ht et)
        obtain ⟨-, rfl, -⟩ := c4.resolve_left (fun q => ex q.1)
        rw [tcl t' ht et, ← h.2.2.2.1 t' ht]; exact q2
    have x8 : xx 8 = x 8 := by
      rcases c4 with ⟨-, -, rfl, -⟩ | ⟨-, -, rfl, -⟩ <;> rfl
    rcases c5 with ⟨d1, -, rfl, rfl, -, rfl, rfl, -⟩ | ⟨d1, -, rfl, R1, rfl, rfl, -, -, -, rfl⟩
    · rcases hq with ⟨-, rfl, g13, g14⟩ | ⟨-, q, -⟩
      · exact sq_same hs rfl g13 g14
      · exact absurd (hbf q) d1
    · rcases hq with ⟨q, -⟩ | ⟨-, -, nt, nr, n', hnt, ht3, hnr, hr96, hn', g13, g14, gp⟩
      · exact absurd d1 (q.elim (fun z => absurd z nb) hbf2)
      · obtain ⟨hs8, ⟨nr', hnr', hr96', hp⟩, hk⟩ := id hs
        have ent : nt = n3 := (nI_eq (by omega) (by omega)).mp (hnt.symm.trans (h.1.trans h6))
        have enr : nr' = nr := (nI_eq (by omega) (by omega)).mp (hnr'.symm.trans hnr)
        subst ent enr
        have hhz : y' 8 - y' 5 = xx 7 - ru 3 := by
          have a := h'.2.2.2.2.1
          have b : y' 5 = ru 3 := h'.2.2.1 3 (by decide)
          rw [a, b]
          rfl
        have hk1 : ∀ p ∈ (R.map (jr_row V ru nt (xt_low ma' nt))).map pr2, pk01 p := by
          rw [pr_jrs hk]
          intro p hp1
          obtain ⟨p0, h0, rfl⟩ := List.mem_map.mp hp1
          exact pk01_mj (hk p0 h0)
        refine ⟨?_, ⟨n', g13, by omega, ?_⟩, ?_⟩
        · show xx 8 = y' 14
          rw [x8, g14]; exact hs8
        · rw [gp, hhz, pr_keep hk1, pr_jrs hk, mj_same h'.2.2.2.1 hn]
          exact List.Perm.filter _ (List.Perm.map _ hp)
        · intro p hp1
          rw [pr_keep hk1] at hp1
          exact hk1 p (List.mem_filter.mp hp1).1
theorem sq_table {x u y u' rw : Nat → Int32} {R : List (Nat → Int32)} {r r' : Int32} (hs : sq x R y rw)
    (hc : (¬ x 6 < 3 ∧ r = -3 ∧ u = x) ∨ (x 6 < 3 ∧ ¬ x 12 = 0 ∧ r = -5 ∧ u = x) ∨ (x 6 < 3 ∧ x 12 = 0 ∧ r = x 6 + 1 - 1 ∧ u = upd x 6 (x 6 + 1)))
    (hm : (y 1 = 3 ∧ r' = -3 ∧ u' = upd y 0 0) ∨ (¬ y 1 = 3 ∧ ¬ y 6 = 0 ∧ r' = -5 ∧ u' = upd y 0 0) ∨ (¬ y 1 = 3 ∧ y 6 = 0 ∧ r' = y 1 + 1 - 1 ∧ u' = upd (upd y 0 0) 1 (y 1 + 1))) : sq u R u' rw := by
  have e8 : u 8 = x 8 := by rcases hc with ⟨-, -, rfl⟩ | ⟨-, -, -, rfl⟩ | ⟨-, -, -, rfl⟩ <;> rfl
  have e13 : u' 13 = y 13 ∧ u' 14 = y 14 := by rcases hm with ⟨-, -, rfl⟩ | ⟨-, -, -, rfl⟩ | ⟨-, -, -, rfl⟩ <;> exact ⟨rfl, rfl⟩
  exact sq_same hs e8 e13.1 e13.2
theorem sq_rule {x y u' rw : Nat → Int32} {R : List (Nat → Int32)} {wh v r' : Int32} (hs : sq x R y rw)
    (hm : ((mi_b (Int32.toInt64 wh) 0 3 = 0 ∨ mi_b (Int32.toInt64 v) 0 (mr_hi wh) = 0) ∧ r' = -1 ∧ u' = upd y 0 0) ∨ (¬ mi_b (Int32.toInt64 wh) 0 3 = 0 ∧ ¬ mi_b (Int32.toInt64 v) 0 (mr_hi wh) = 0 ∧ ((¬ y 6 = 0 ∧ r' = -5 ∧ u' = upd y 0 0) ∨ (y 6 = 0 ∧ r' = mo_was y wh ∧ u' = mo_rule y wh v)))) : sq x R u' rw := by
  have e13 : u' 13 = y 13 ∧ u' 14 = y 14 := by rcases hm with ⟨-, -, rfl⟩ | ⟨-, -, ⟨-, -, rfl⟩ | ⟨-, -, rfl⟩⟩ <;> exact ⟨rfl, rfl⟩
  exact sq_same hs rfl e13.1 e13.2
