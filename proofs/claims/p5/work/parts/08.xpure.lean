/-! AsOfJoins: small answers -/
def xt_b (n t : Int32) : Int32 := if (¬ t < 0 ∧ ¬ n ≤ t ∧ ¬ 3 ≤ t) then 1 else 0
def xk_b (k : Int32) : Int32 := if (¬ k < 0 ∧ ¬ 16 ≤ k) then 1 else 0
def xm_b (k : Int32) : Int32 := if (¬ k < 1 ∧ ¬ 100000 < k) then 1 else 0
def xv_b (k : Int32) : Int32 := if (¬ k < 0 ∧ ¬ 1000 < k) then 1 else 0
def xmn (n : Int32) (ma : Nat → Int32) (t : Int32) : Int32 := if (¬ t < 0 ∧ ¬ n ≤ t ∧ ¬ 3 ≤ t) then ma t.toNatClampNeg else -2
def xl_b (ma ru : Nat → Int32) (x7 t fr : Int32) : Int32 := if (fr ≤ ma t.toNatClampNeg ∧ (ru 1 = 0 ∨ fr ≤ x7 - ru 3)) then 1 else 0
def xt_low (ma : Nat → Int32) : Nat → Int32
  | 0 => 100000
  | t + 1 => if ma t < xt_low ma t then ma t else xt_low ma t
def xg_b (inner : Int32) (n : Nat) (jo : Nat → Int32) : Int32 := if (inner = 0 ∨ ∀ c, c < n → ¬ jo (2 * c) = -2) then 1 else 0
theorem xt_nat {n t : Int32} (h : ¬ xt_b n t = 0) : ∃ j : Nat, j < 3 ∧ t = nI j ∧ ¬ n ≤ t := by
  have h2 := rs_n2 h
  obtain ⟨j, hj, e⟩ := sh_nat (n := 3) (by decide) h2.1 h2.2.2
  exact ⟨j, hj, e, h2.2.1⟩
theorem xt_in {n t : Int32} (h : ¬ xt_b n t = 0) : vp_in t 3 := by
  obtain ⟨j, hj, rfl, -⟩ := xt_nat h
  exact vp_in_nI hj (by decide)
/-! the VERSION AS OF -/
def vs_nbb (pl fr : Int32) (r : Nat → Int32) : Bool := decide (r 2 < pl ∨ (r 2 = pl ∧ r 0 ≤ fr))
def vs_k (V : List (Nat → Int32)) (pl fr : Int32) : Nat := V.countP (vs_nbb pl fr)
def vs_rec (V : List (Nat → Int32)) (pl fr : Int32) : Option (Nat → Int32) := match V[vs_k V pl fr - 1]? with
  | some r => if 0 < vs_k V pl fr ∧ r 2 = pl ∧ ¬ r 1 = -1 then some r else none
  | none => none
theorem vs_cut_k {V : List (Nat → Int32)} {pl fr : Int32} {k : Nat} (h : vs_cut V pl fr k) : vs_k V pl fr = k := by
  unfold vs_k
  have h1 : (V.take k).countP (vs_nbb pl fr) = (V.take k).length := by
    rw [List.countP_eq_length]
    intro r hr
    obtain ⟨i, e⟩ := List.mem_iff_getElem?.mp hr
    have hi : i < (V.take k).length := (List.getElem?_eq_some_iff.mp e).1
    rw [List.length_take] at hi
    rw [List.getElem?_take, if_pos (by omega)] at e
    exact decide_eq_true ((h.2 i r e).mp (by omega))
  have h2 : (V.drop k).countP (vs_nbb pl fr) = 0 := by
    rw [List.countP_eq_zero]
    intro r hr
    obtain ⟨i, e⟩ := List.mem_iff_getElem?.mp hr
    rw [List.getElem?_drop] at e
    intro q
    have := (h.2 (k + i) r e).mpr (of_decide_eq_true (p := r 2 < pl ∨ (r 2 = pl ∧ r 0 ≤ fr)) q)
    omega
  have h3 : V.countP (vs_nbb pl fr) = (V.take k ++ V.drop k).countP (vs_nbb pl fr) := by rw [List.take_append_drop]
  rw [h3, List.countP_append, h1, h2, List.length_take]
  have := h.1
  omega
theorem vs_asof_rec {V : List (Nat → Int32)} {pl fr r : Int32} {k : Nat} (h : vs_cut V pl fr k) (ha : vs_asof V pl k r) : (vs_rec V pl fr = none ∧ r = -1) ∨ ∃ r0, vs_rec V pl fr = some r0 ∧ V[k - 1]? = some r0 ∧ 0 < k ∧ r = nI (k - 1) := by
  have hk := vs_cut_k h
  unfold vs_rec
  rw [hk]
  rcases ha with ⟨r0, h0, hr, e1, e2, rfl⟩ | ⟨hn, rfl⟩
  · exact Or.inr ⟨r0, by rw [hr]; exact if_pos ⟨h0, e1, e2⟩, hr, h0, rfl⟩
  · refine Or.inl ⟨?_, rfl⟩
    cases hr : V[k - 1]? with
    | none => rfl
    | some r0 => exact if_neg (fun q => q.2.2 (hn r0 q.1 hr q.2.1))
/-- the JOIN of a row of KEY kn at TIME tm: FROM and VALUE of each table -/
def xj (V : List (Nat → Int32)) (si : Int32) (kn : Nat) (tm : Int32) : Nat → Int32 := fun c => match vs_rec V (nI (c / 2 * 16 + kn)) (tm - si) with
  | none => -2
  | some r => if c % 2 = 0 then r 0 else r 1
theorem xj_neg {V : List (Nat → Int32)} {si tm r : Int32} {kn k t c : Nat} (hc : c / 2 = t) (h : vs_cut V (nI (t * 16 + kn)) (tm - si) k) (ha : vs_asof V (nI (t * 16 + kn)) k r) (hk : V.length < 2 ^ 30) (hr : ¬ 0 ≤ r) : (-2 : Int32) = xj V si kn tm c := by
  unfold xj
  rw [hc]
  rcases vs_asof_rec h ha with ⟨e, -⟩ | ⟨r0, -, e2, -, e4⟩
  · rw [e]
  · have := (List.getElem?_eq_some_iff.mp e2).1
    exact absurd (by rw [e4]; exact nI_pos' (by omega)) hr
theorem xj_get {V : List (Nat → Int32)} {si tm r v : Int32} {kn k t c j : Nat} (hc : c / 2 = t) (hj : c % 2 = j) (h : vs_cut V (nI (t * 16 + kn)) (tm - si) k) (ha : vs_asof V (nI (t * 16 + kn)) k r) (hk : V.length < 2 ^ 30) (hr : 0 ≤ r) (hv : v = sh_get 3 V r (nI j)) : v = xj V si kn tm c := by
  unfold xj
  rw [hc]
  rcases vs_asof_rec h ha with ⟨-, e⟩ | ⟨r0, e, e2, -, e4⟩
  · rw [e] at hr; exact absurd hr (by decide)
  · rw [e]
    have h2 : j < 2 := by omega
    rw [hv, e4, sh_get_in (by omega) (by decide) e2 (by omega)]
    rcases (show j = 0 ∨ j = 1 by omega) with q | q
    · subst q; exact (if_pos hj).symm
    · subst q; exact (if_neg (by omega)).symm
def xjt (V : List (Nat → Int32)) (si : Int32) (kn : Nat) (tm : Int32) (jo : Nat → Int32) (t : Nat) : Nat → Int32 := fun j => if j < 2 * t then xj V si kn tm j else jo j
theorem xjt_0 {V : List (Nat → Int32)} {si tm : Int32} {kn : Nat} {jo : Nat → Int32} : xjt V si kn tm jo 0 = jo := by
  funext j
  unfold xjt
  rw [if_neg (by omega)]
theorem xjt_s {V : List (Nat → Int32)} {si tm : Int32} {kn t : Nat} {jo : Nat → Int32} : upd (upd (xjt V si kn tm jo t) (2 * t) (xj V si kn tm (2 * t))) (2 * t + 1) (xj V si kn tm (2 * t + 1)) = xjt V si kn tm jo (t + 1) := by
  funext j
  unfold upd xjt
  by_cases h1 : j = 2 * t + 1
  · subst h1; rw [if_pos rfl, if_pos (by omega)]
  · rw [if_neg h1]
    by_cases h2 : j = 2 * t
    · subst h2; rw [if_pos rfl, if_pos (by omega)]
    · rw [if_neg h2]
      by_cases h3 : j < 2 * t
      · rw [if_pos h3, if_pos (by omega)]
      · rw [if_neg h3, if_neg (by omega)]
theorem nI_nm2 {n : Nat} (h : n < 2 ^ 31) : ¬ nI n = -2 := by
  intro q
  have h2 := nI_pos h
  rw [q] at h2
  exact h2 (by decide)
/-! rows that are joined, rows that are corrected -/
theorem rs_jn_c {r0 jo jo' : Nat → Int32} {g : Int32} (h : ∀ j, j < 6 → jo j = jo' j) : rs_jn r0 g jo 6 = rs_jn r0 g jo' 6 := by
  funext j
  unfold rs_jn
  by_cases h4 : j = 4
  · rw [if_pos h4, if_pos h4]
  · rw [if_neg h4, if_neg h4]
    by_cases h5 : j = 5
    · rw [if_pos h5, if_pos h5]
    · rw [if_neg h5, if_neg h5]
      by_cases h6 : 6 ≤ j ∧ j < 6 + 6
      · rw [if_pos h6, if_pos h6]; exact h _ (by omega)
      · rw [if_neg h6, if_neg h6]
theorem xg_c {inner : Int32} {n : Nat} {jo jo' : Nat → Int32} (hn : n ≤ 3) (h : ∀ j, j < 6 → jo j = jo' j) : xg_b inner n jo = xg_b inner n jo' := by
  have e : (inner = 0 ∨ ∀ c, c < n → ¬ jo (2 * c) = -2) ↔ (inner = 0 ∨ ∀ c, c < n → ¬ jo' (2 * c) = -2) := by
    constructor
    · intro q
      rcases q with q | q
      · exact Or.inl q
      · exact Or.inr (fun c hc => by rw [← h (2 * c) (by omega)]; exact q c hc)
    · intro q
      rcases q with q | q
      · exact Or.inl q
      · exact Or.inr (fun c hc => by rw [h (2 * c) (by omega)]; exact q c hc)
  unfold xg_b
  by_cases q : (inner = 0 ∨ ∀ c, c < n → ¬ jo (2 * c) = -2)
  · rw [if_pos q, if_pos (e.mp q)]
  · rw [if_neg q, if_neg (fun z => q (e.mpr z))]
theorem xg_01 (inner : Int32) (n : Nat) (jo : Nat → Int32) : xg_b inner n jo = 0 ∨ xg_b inner n jo = 1 := by
  unfold xg_b
  split
  · exact Or.inr rfl
  · exact Or.inl rfl
/-- the JOIN of a row as V has it now -/
abbrev jr_j (V : List (Nat → Int32)) (si : Int32) (r : Nat → Int32) : Nat → Int32 := xj V si (r 1).toNatClampNeg (r 2)
def jr_g (V : List (Nat → Int32)) (ru : Nat → Int32) (n : Nat) (r : Nat → Int32) : Int32 := xg_b (ru 2) n (jr_j V (ru 0) r)
/-- a row that takes its JOIN -/
def jr_t (V : List (Nat → Int32)) (ru : Nat → Int32) (n : Nat) (r : Nat → Int32) : Nat → Int32 := rs_jn r (jr_g V ru n r) (jr_j V (ru 0) r) 6
def jr_row (V : List (Nat → Int32)) (ru : Nat → Int32) (n : Nat) (low : Int32) (r : Nat → Int32) : Nat → Int32 := if r 4 = 1 ∧ r 2 ≤ low then jr_t V ru n r else r
def jr_give (V : List (Nat → Int32)) (ru : Nat → Int32) (n : Nat) (r : Nat → Int32) : List (Nat → Int32) := if jr_g V ru n r = 1 then [ot_rec 1 (jr_t V ru n r)] else []
def jr_out (V : List (Nat → Int32)) (ru : Nat → Int32) (n : Nat) (low : Int32) (r : Nat → Int32) : List (Nat → Int32) := if r 4 = 1 ∧ r 2 ≤ low then jr_give V ru n r else []
def cr_same (V : List (Nat → Int32)) (si : Int32) (r : Nat → Int32) : Prop := ∀ c, c < 6 → r (6 + c) = jr_j V si r c
/-! a sweep over the rows: the first a are done -/
def sw_r (F : (Nat → Int32) → (Nat → Int32)) (R : List (Nat → Int32)) (a : Nat) : List (Nat → Int32) := (R.take a).map F ++ R.drop a
def sw_o (Gx : (Nat → Int32) → List (Nat → Int32)) (Lo R : List (Nat → Int32)) (a : Nat) : List (Nat → Int32) := Lo ++ (R.take a).flatMap Gx
def sw_n (d : (Nat → Int32) → Nat) (R : List (Nat → Int32)) (a : Nat) : Nat := ((R.take a).map d).sum
theorem sw_r_len {F : (Nat → Int32) → (Nat → Int32)} {R : List (Nat → Int32)} {a : Nat} (h : a ≤ R.length) : (sw_r F R a).length = R.length := by
  unfold sw_r
  rw [List.length_append, List.length_map, List.length_take, List.length_drop]
  omega
theorem sw_r_at {F : (Nat → Int32) → (Nat → Int32)} {R : List (Nat → Int32)} {a : Nat} (h : a < R.length) : (sw_r F R a)[a]? = some (R[a]'h) := by
  unfold sw_r
  rw [List.getElem?_append, List.length_map, List.length_take, Nat.min_eq_left (Nat.le_of_lt h), if_neg (Nat.lt_irrefl a), Nat.sub_self, List.getElem?_drop, Nat.add_zero, List.getElem?_eq_getElem h]
theorem sw_r_set {F : (Nat → Int32) → (Nat → Int32)} {R : List (Nat → Int32)} {a : Nat} (h : a < R.length) : (sw_r F R a).set a (F (R[a]'h)) = sw_r F R (a + 1) := by
  unfold sw_r
  have e1 : R.drop a = R[a]'h :: R.drop (a + 1) := List.drop_eq_getElem_cons h
  rw [e1, List.take_succ_eq_append_getElem h, List.map_append, List.append_assoc]
  rw [List.set_append, List.length_map, List.length_take, Nat.min_eq_left (Nat.le_of_lt h), if_neg (Nat.lt_irrefl a), Nat.sub_self]
  rfl
theorem sw_r_skip {F : (Nat → Int32) → (Nat → Int32)} {R : List (Nat → Int32)} {a : Nat} (h : a < R.length) (e : F (R[a]'h) = R[a]'h) : sw_r F R (a + 1) = sw_r F R a := by
  rw [← sw_r_set h, e]
  apply List.ext_getElem?
  intro i
  rw [List.getElem?_set, sw_r_len (Nat.le_of_lt h)]
  by_cases q : a = i
  · subst q; rw [if_pos rfl, if_pos h, sw_r_at h]
  · rw [if_neg q]
theorem sw_r_all {F : (Nat → Int32) → (Nat → Int32)} {R : List (Nat → Int32)} : sw_r F R R.length = R.map F := by
  unfold sw_r
  rw [List.take_length, List.drop_length, List.append_nil]
theorem sw_r_0 {F : (Nat → Int32) → (Nat → Int32)} {R : List (Nat → Int32)} : sw_r F R 0 = R := by
  unfold sw_r
  rw [List.take_zero, List.drop_zero, List.map_nil, List.nil_append]
theorem sw_o_s {Gx : (Nat → Int32) → List (Nat → Int32)} {Lo R : List (Nat → Int32)} {a : Nat} (h : a < R.length) : sw_o Gx Lo R (a + 1) = sw_o Gx Lo R a ++ Gx (R[a]'h) := by
  unfold sw_o
  rw [List.take_succ_eq_append_getElem h, List.flatMap_append, List.append_assoc]
  congr 2
  rw [List.flatMap_cons, List.flatMap_nil, List.append_nil]
theorem sw_o_0 {Gx : (Nat → Int32) → List (Nat → Int32)} {Lo R : List (Nat → Int32)} : sw_o Gx Lo R 0 = Lo := by
  unfold sw_o
  rw [List.take_zero, List.flatMap_nil, List.append_nil]
theorem sw_o_all {Gx : (Nat → Int32) → List (Nat → Int32)} {Lo R : List (Nat → Int32)} : sw_o Gx Lo R R.length = Lo ++ R.flatMap Gx := by
  unfold sw_o
  rw [List.take_length]
theorem sw_n_s {d : (Nat → Int32) → Nat} {R : List (Nat → Int32)} {a : Nat} (h : a < R.length) : sw_n d R (a + 1) = sw_n d R a + d (R[a]'h) := by
  unfold sw_n
  rw [List.take_succ_eq_append_getElem h, List.map_append, List.sum_append]
  simp
theorem sw_n_0 {d : (Nat → Int32) → Nat} {R : List (Nat → Int32)} : sw_n d R 0 = 0 := by
  unfold sw_n
  rw [List.take_zero]
  rfl
theorem sw_o_len {Gx : (Nat → Int32) → List (Nat → Int32)} {Lo R : List (Nat → Int32)} {k : Nat} (hG : ∀ r, (Gx r).length ≤ k) : ∀ a, a ≤ R.length → (sw_o Gx Lo R a).length ≤ Lo.length + k * a := by
  intro a
  induction a with
  | zero => intro _; rw [sw_o_0]; omega
  | succ a ih =>
    intro h
    rw [sw_o_s (show a < R.length by omega), List.length_append]
    have h1 := ih (by omega)
    have h2 := hG (R[a]'(by omega))
    rw [Nat.mul_add]
    omega
def jr_d (V : List (Nat → Int32)) (ru : Nat → Int32) (n : Nat) (low : Int32) (r : Nat → Int32) : Nat := if r 4 = 1 ∧ r 2 ≤ low then (if jr_g V ru n r = 1 then 1 else 0) else 0
theorem jr_out_len (V : List (Nat → Int32)) (ru : Nat → Int32) (n : Nat) (low : Int32) (r : Nat → Int32) : (jr_out V ru n low r).length ≤ 1 := by
  unfold jr_out jr_give
  split
  · split <;> simp
  · simp
theorem jr_take {V : List (Nat → Int32)} {ru j0 r : Nat → Int32} {n kn : Nat} (hn : n ≤ 3) (hkn : kn < 16) (ek : r 1 = nI kn) : xg_b (ru 2) n (xjt V (ru 0) kn (r 2) j0 3) = jr_g V ru n r ∧ rs_jn r (xg_b (ru 2) n (xjt V (ru 0) kn (r 2) j0 3)) (xjt V (ru 0) kn (r 2) j0 3) 6 = jr_t V ru n r := by
  have e : ∀ j, j < 6 → xjt V (ru 0) kn (r 2) j0 3 j = jr_j V (ru 0) r j := by
    intro j hj
    unfold xjt jr_j
    rw [if_pos (by omega), ek, nI_clamp (by omega)]
  have e1 : xg_b (ru 2) n (xjt V (ru 0) kn (r 2) j0 3) = jr_g V ru n r := xg_c hn e
  exact ⟨e1, by rw [e1]; exact rs_jn_c e⟩
theorem nI_ite_add {c : Prop} {d : Decidable c} {gv : Int32} {k : Nat} : (@ite Int32 c d (gv + nI k + 1) (gv + nI k)) = gv + nI (k + (@ite Nat c d 1 0)) := by
  by_cases h : c
  · rw [if_pos h, if_pos h, ← nI_1, Int32.add_assoc]
  · rw [if_neg h, if_neg h, Nat.add_zero]
/-! a CORRECTION -/
def cr_s (V : List (Nat → Int32)) (si : Int32) (r : Nat → Int32) : Bool := (List.range 6).all (fun c => decide (r (6 + c) = jr_j V si r c))
def cr_new (V : List (Nat → Int32)) (ru : Nat → Int32) (n : Nat) (r : Nat → Int32) : Nat → Int32 := if cr_s V (ru 0) r = true then r else jr_t V ru n r
def cr_o (V : List (Nat → Int32)) (ru : Nat → Int32) (n : Nat) (r : Nat → Int32) : List (Nat → Int32) := if cr_s V (ru 0) r = true then [] else (if r 5 = 1 then [ot_rec 0 r] else []) ++ (if jr_g V ru n r = 1 then [ot_rec 1 (jr_t V ru n r)] else [])
def cr_dg (V : List (Nat → Int32)) (ru : Nat → Int32) (n : Nat) (r : Nat → Int32) : Nat := if cr_s V (ru 0) r = true then 0 else (if jr_g V ru n r = 1 then 1 else 0)
def cr_dt (V : List (Nat → Int32)) (ru : Nat → Int32) (r : Nat → Int32) : Nat := if cr_s V (ru 0) r = true then 0 else (if r 5 = 1 then 1 else 0)
theorem cr_eq {V : List (Nat → Int32)} {ru j0 r : Nat → Int32} {kn : Nat} (hkn : kn < 16) (ek : r 1 = nI kn) : (∀ c, c < 6 → r (6 + c) = xjt V (ru 0) kn (r 2) j0 3 c) ↔ cr_s V (ru 0) r = true := by
  have e : ∀ j, j < 6 → xjt V (ru 0) kn (r 2) j0 3 j = jr_j V (ru 0) r j := by
    intro j hj
    unfold xjt jr_j
    rw [if_pos (by omega), ek, nI_clamp (by omega)]
  unfold cr_s
  rw [List.all_eq_true]
  exact ⟨fun h c hc => decide_eq_true ((h c (List.mem_range.mp hc)).trans (e c (List.mem_range.mp hc))), fun h c hc => (of_decide_eq_true (h c (List.mem_range.mpr hc))).trans (e c hc).symm⟩
theorem cr_set {L : List (Nat → Int32)} {i : Nat} {r : Nat → Int32} (h : L[i]? = some r) : L.set i r = L := by
  apply List.ext_getElem?
  intro k
  rw [List.getElem?_set]
  by_cases q : i = k
  · subst q
    rw [if_pos rfl, if_pos (List.getElem?_eq_some_iff.mp h).1, h]
  · rw [if_neg q]
theorem cr_l1 (r : Nat → Int32) : (if r 5 = 1 then [ot_rec 0 r] else []).length ≤ 1 := by
  split <;> simp
theorem nI_ite_0 {c : Prop} {d : Decidable c} {gv : Int32} : (@ite Int32 c d (gv + 1) gv) = gv + nI (@ite Nat c d 1 0) := by
  by_cases h : c
  · rw [if_pos h, if_pos h]; rfl
  · rw [if_neg h, if_neg h]; exact (Int32.add_zero gv).symm
/-! corrections over all rows of a key -/
def cw_c (ky : Int32) (r : Nat → Int32) : Bool := decide (r 1 = ky ∧ ¬ r 4 = 1)
def cw_row (V : List (Nat → Int32)) (ru : Nat → Int32) (n : Nat) (ky : Int32) (r : Nat → Int32) : Nat → Int32 := if cw_c ky r = true then cr_new V ru n r else r
def cw_o (V : List (Nat → Int32)) (ru : Nat → Int32) (n : Nat) (ky : Int32) (r : Nat → Int32) : List (Nat → Int32) := if cw_c ky r = true then cr_o V ru n r else []
def cw_dg (V : List (Nat → Int32)) (ru : Nat → Int32) (n : Nat) (ky : Int32) (r : Nat → Int32) : Nat := if cw_c ky r = true then cr_dg V ru n r else 0
def cw_dt (V : List (Nat → Int32)) (ru : Nat → Int32) (ky : Int32) (r : Nat → Int32) : Nat := if cw_c ky r = true then cr_dt V ru r else 0
theorem cw_o_len (V : List (Nat → Int32)) (ru : Nat → Int32) (n : Nat) (ky : Int32) (r : Nat → Int32) : (cw_o V ru n ky r).length ≤ 2 := by
  unfold cw_o cr_o
  split
  · split
    · simp
    · rw [List.length_append]
      split <;> split <;> simp
  · simp
/-! VERSIONS that go -/
def nd_a (ky fi la : Int32) (r : Nat → Int32) : Bool := decide (r 4 = 1 ∧ r 1 = ky ∧ fi ≤ r 2 ∧ r 2 ≤ la)
def nd_b (si hz : Int32) (R : List (Nat → Int32)) (r0 : Nat → Int32) (nx : Option (Nat → Int32)) : Bool := match nx with
  | none => false
  | some r1 => decide (r1 2 = r0 2) && decide (r1 0 - 1 + si ≤ hz) && !(R.any (nd_a (nI ((r0 2).toNatClampNeg % 16)) (r0 0 + si) (r1 0 - 1 + si)))
def dv (nd : (Nat → Int32) → Option (Nat → Int32) → Bool) : List (Nat → Int32) → List (Nat → Int32)
  | [] => []
  | r :: t => if nd r t.head? = true then dv nd t else r :: dv nd t
theorem nd_b_s {si hz : Int32} {R : List (Nat → Int32)} {r0 r1 : Nat → Int32} : nd_b si hz R r0 (some r1) = (decide (r1 2 = r0 2) && decide (r1 0 - 1 + si ≤ hz) && !(R.any (nd_a (nI ((r0 2).toNatClampNeg % 16)) (r0 0 + si) (r1 0 - 1 + si)))) := rfl
theorem nd_any {R : List (Nat → Int32)} {ky fi la : Int32} (h : ∃ (i : Nat) (r0 : Nat → Int32), R[i]? = some r0 ∧ rs_any ky fi la r0) : R.any (nd_a ky fi la) = true := by
  obtain ⟨i, r0, h1, h2⟩ := h
  exact List.any_eq_true.mpr ⟨r0, List.mem_of_getElem? h1, decide_eq_true h2⟩
theorem nd_none {R : List (Nat → Int32)} {ky fi la : Int32} (h : ∀ (i : Nat) (r0 : Nat → Int32), R[i]? = some r0 → ¬ rs_any ky fi la r0) : R.any (nd_a ky fi la) = false := by
  rw [Bool.eq_false_iff]
  intro q
  obtain ⟨r0, h1, h2⟩ := List.any_eq_true.mp q
  obtain ⟨i, hi⟩ := List.getElem?_of_mem h1
  exact h i r0 hi (of_decide_eq_true (p := r0 4 = 1 ∧ r0 1 = ky ∧ fi ≤ r0 2 ∧ r0 2 ≤ la) h2)
theorem dv_len (nd : (Nat → Int32) → Option (Nat → Int32) → Bool) : ∀ L, (dv nd L).length ≤ L.length := by
  intro L
  induction L with
  | nil => exact Nat.le_refl _
  | cons r t ih =>
    unfold dv
    split
    · rw [List.length_cons]; omega
    · rw [List.length_cons, List.length_cons]; omega
theorem cw_n1 {ky : Int32} {r : Nat → Int32} (h : ¬ r 1 = ky) : ¬ cw_c ky r = true := fun q => h (of_decide_eq_true q).1
theorem cw_n2 {ky : Int32} {r : Nat → Int32} (h : r 4 = 1) : ¬ cw_c ky r = true := fun q => (of_decide_eq_true q).2 h
theorem nd_s {V : List (Nat → Int32)} {g : Int32} {i p : Nat} (hk : V.length < 2 ^ 30) (hi : i < V.length) (hp : p < 2 ^ 31) (hg : g = sh_get 3 V (nI (i + 1)) 2) (h : g = nI p) : ∃ r1, V[i + 1]? = some r1 ∧ r1 2 = nI p := by
  cases hx : V[i + 1]? with
  | none =>
    have hl : V.length ≤ i + 1 := List.getElem?_eq_none_iff.mp hx
    rw [hg, sh_get_out (Or.inr (Or.inl (nI_le hl (by omega))))] at h
    exact absurd h.symm (nI_nm2 hp)
  | some r1 => exact ⟨r1, rfl, by rw [← h, hg]; exact (sh_get_in (j := 2) (by omega) (by decide) hx (by decide)).symm⟩
theorem nd_f1 {V R : List (Nat → Int32)} {g si hz : Int32} {i p : Nat} {r0 : Nat → Int32} (hk : V.length < 2 ^ 30) (ep : r0 2 = nI p) (hg : g = sh_get 3 V (nI (i + 1)) 2) (h : ¬ g = nI p) : ¬ nd_b si hz R r0 V[i + 1]? = true := by
  cases hx : V[i + 1]? with
  | none => intro q; unfold nd_b at q; simp at q
  | some r1 =>
    intro q
    unfold nd_b at q
    simp only [Bool.and_eq_true, decide_eq_true_eq] at q
    exact h (by rw [hg, ← ep, ← q.1.1]; exact sh_get_in (j := 2) (by omega) (by decide) hx (by decide))
theorem nd_f2 {R : List (Nat → Int32)} {si hz : Int32} {r0 r1 : Nat → Int32} {nx : Option (Nat → Int32)} (hx : nx = some r1) (h : hz < r1 0 - 1 + si) : ¬ nd_b si hz R r0 nx = true := by
  intro q
  rw [hx] at q
  unfold nd_b at q
  simp only [Bool.and_eq_true, decide_eq_true_eq] at q
  exact sh_nle h q.1.2
theorem nd_f3 {R : List (Nat → Int32)} {si hz : Int32} {r0 r1 : Nat → Int32} {nx : Option (Nat → Int32)} {p : Nat} (hp : p < 2 ^ 31) (ep : r0 2 = nI p) (hx : nx = some r1) (h : ∃ (i : Nat) (r : Nat → Int32), R[i]? = some r ∧ rs_any (nI (p % 16)) (r0 0 + si) (r1 0 - 1 + si) r) : ¬ nd_b si hz R r0 nx = true := by
  intro q
  rw [hx, nd_b_s, ep, nI_clamp hp, nd_any h] at q
  simp at q
theorem nd_t {R : List (Nat → Int32)} {si hz : Int32} {r0 r1 : Nat → Int32} {nx : Option (Nat → Int32)} {p : Nat} (hp : p < 2 ^ 31) (ep : r0 2 = nI p) (hx : nx = some r1) (e1 : r1 2 = nI p) (h : r1 0 - 1 + si ≤ hz) (hn : ∀ (i : Nat) (r : Nat → Int32), R[i]? = some r → ¬ rs_any (nI (p % 16)) (r0 0 + si) (r1 0 - 1 + si) r) : nd_b si hz R r0 nx = true := by
  rw [hx, nd_b_s, ep, nI_clamp hp, nd_none hn, e1]
  simp [h]
/-! the sweep over the VERSIONS: K is kept, n are left -/
theorem dv_at {K V : List (Nat → Int32)} {n : Nat} (h : n < V.length) : (K ++ V.drop n)[K.length]? = some (V[n]'h) := by
  rw [List.getElem?_append_right (Nat.le_refl _), Nat.sub_self, List.getElem?_drop, Nat.add_zero, List.getElem?_eq_getElem h]
theorem dv_nx {K V : List (Nat → Int32)} {n : Nat} : (K ++ V.drop n)[K.length + 1]? = (V.drop (n + 1)).head? := by
  rw [List.getElem?_append_right (by omega), List.getElem?_drop, List.head?_drop, show n + (K.length + 1 - K.length) = n + 1 by omega]
theorem dv_go {K V : List (Nat → Int32)} {n : Nat} (h : n < V.length) : (K ++ V.drop n).eraseIdx K.length = K ++ V.drop (n + 1) := by
  rw [List.eraseIdx_append_of_length_le (Nat.le_refl _), Nat.sub_self, List.drop_eq_getElem_cons h, List.eraseIdx_cons_zero]
theorem dv_keep {K V : List (Nat → Int32)} {n : Nat} (h : n < V.length) : K ++ V.drop n = (K ++ [V[n]'h]) ++ V.drop (n + 1) := by
  rw [List.append_assoc, List.drop_eq_getElem_cons h]
  rfl
theorem dv_s1 {nd : (Nat → Int32) → Option (Nat → Int32) → Bool} {V : List (Nat → Int32)} {n : Nat} (h : n < V.length) (hd : nd (V[n]'h) (V.drop (n + 1)).head? = true) : dv nd (V.drop n) = dv nd (V.drop (n + 1)) := by
  rw [List.drop_eq_getElem_cons h]
  exact if_pos hd
theorem dv_s2 {nd : (Nat → Int32) → Option (Nat → Int32) → Bool} {V : List (Nat → Int32)} {n : Nat} (h : n < V.length) (hd : ¬ nd (V[n]'h) (V.drop (n + 1)).head? = true) : dv nd (V.drop n) = V[n]'h :: dv nd (V.drop (n + 1)) := by
  rw [List.drop_eq_getElem_cons h]
  exact if_neg hd
theorem dv_xx {x : Nat → Int32} {k : Nat} {v w : Int32} : upd (upd x k v) k w = upd x k w := by
  funext j
  unfold upd
  by_cases h : j = k
  · rw [if_pos h, if_pos h]
  · rw [if_neg h, if_neg h, if_neg h]
theorem dv_x0 {x : Nat → Int32} {k : Nat} : upd x k (x k + nI (0 - ([] : List (Nat → Int32)).length)) = x := by
  funext j
  unfold upd
  by_cases h : j = k
  · subst h; rw [if_pos rfl]; exact Int32.add_zero _
  · rw [if_neg h]
