/-! versions: lines in order of place (column 2), then from (column 0) -/
theorem ls_ins_at {α : Type} {L : List α} {i : Nat} {x : α} (hi : i ≤ L.length) : (L.take i ++ x :: L.drop i)[i]? = some x := by
  rw [ls_ins hi, if_neg (Nat.lt_irrefl i), if_pos rfl]
theorem ls_ins_set {α : Type} {L : List α} {i : Nat} {x y : α} (hi : i ≤ L.length) : (L.take i ++ x :: L.drop i).set i y = L.take i ++ y :: L.drop i := by
  apply List.ext_getElem?
  intro k
  rw [List.getElem?_set, ls_ins hi, ls_ins hi, ls_ins_len hi]
  by_cases h : i = k
  · subst h
    rw [if_pos rfl, if_pos (by omega), if_neg (Nat.lt_irrefl i), if_pos rfl]
  · rw [if_neg h]
    by_cases h2 : k < i
    · rw [if_pos h2, if_pos h2]
    · rw [if_neg h2, if_neg h2, if_neg (fun q => h q.symm), if_neg (fun q => h q.symm)]
/-- not behind (place, from) -/
def vs_nb (pl fr : Int32) (r : Nat → Int32) : Prop := r 2 < pl ∨ (r 2 = pl ∧ r 0 ≤ fr)
/-- k lines are not behind, and they are the first ones -/
def vs_cut (L : List (Nat → Int32)) (pl fr : Int32) (k : Nat) : Prop := k ≤ L.length ∧ ∀ (i : Nat) (r : Nat → Int32), L[i]? = some r → (i < k ↔ vs_nb pl fr r)
def vs_st : Nat → Nat
  | 0 => 0
  | e + 1 => 2 ^ e
theorem vs_half (n : Nat) (h : n ≤ 8) : nI (vs_st (n + 1)) / 2 = nI (vs_st n) := by
  have hp : 2 ^ n ≤ 2 ^ 8 := Nat.pow_le_pow_right (by decide) h
  show nI (2 ^ n) / nI 2 = _
  rw [pk_div (by omega) (by decide) (by decide)]
  congr 1
  cases n with
  | zero => rfl
  | succ n => show 2 ^ (n + 1) / 2 = 2 ^ n; rw [Nat.pow_succ]; omega
theorem vs_o {L : List (Nat → Int32)} {t j : Nat} {o : Int32} (hk : L.length < 2 ^ 30) (ho : o = sh_get 3 L (nI t) (nI j)) (hj : j < 3) {r0 : Nat → Int32} (h0 : L[t]? = some r0) : o = r0 j := ho.trans (sh_get_in (by omega) (by decide) h0 hj)
theorem vs_b1 {L : List (Nat → Int32)} {pl fr o : Int32} {t : Nat} (ho : o = sh_get 3 L (nI t) 2) (hk : L.length < 2 ^ 30) (h : pl < o) : ((1 : Int32) = 0 ∨ (1 : Int32) = 1) ∧ ∀ r0, L[t]? = some r0 → ((1 : Int32) = 0 ↔ vs_nb pl fr r0) := by
  refine ⟨Or.inr rfl, fun r0 h0 => ⟨fun q => absurd q (by decide), fun q => ?_⟩⟩
  have e := vs_o (j := 2) hk ho (by decide) h0
  rw [e, Int32.lt_iff_toInt_lt] at h
  rcases q with q | ⟨q, -⟩
  · rw [Int32.lt_iff_toInt_lt] at q; omega
  · rw [q] at h; omega
theorem vs_b2 {L : List (Nat → Int32)} {pl fr o : Int32} {t : Nat} (ho : o = sh_get 3 L (nI t) 2) (hk : L.length < 2 ^ 30) (h : ¬ pl < o) (h2 : ¬ o = pl) : ((0 : Int32) = 0 ∨ (0 : Int32) = 1) ∧ ∀ r0, L[t]? = some r0 → ((0 : Int32) = 0 ↔ vs_nb pl fr r0) := by
  refine ⟨Or.inl rfl, fun r0 h0 => ⟨fun _ => Or.inl ?_, fun _ => rfl⟩⟩
  have e := vs_o (j := 2) hk ho (by decide) h0
  rw [e] at h h2
  rw [Int32.lt_iff_toInt_lt] at h ⊢
  have h3 : ¬ (r0 2).toInt = pl.toInt := fun q => h2 (Int32.toInt_inj.mp q)
  omega
theorem vs_b3 {L : List (Nat → Int32)} {pl fr o o2 : Int32} {t : Nat} (ho : o = sh_get 3 L (nI t) 2) (ho2 : o2 = sh_get 3 L (nI t) 0) (hk : L.length < 2 ^ 30) (h : o = pl) (h2 : o2 ≤ fr) : ((0 : Int32) = 0 ∨ (0 : Int32) = 1) ∧ ∀ r0, L[t]? = some r0 → ((0 : Int32) = 0 ↔ vs_nb pl fr r0) := by
  refine ⟨Or.inl rfl, fun r0 h0 => ⟨fun _ => Or.inr ⟨?_, ?_⟩, fun _ => rfl⟩⟩
  · rw [← vs_o (j := 2) hk ho (by decide) h0, h]
  · rw [← vs_o (j := 0) hk ho2 (by decide) h0]; exact h2
theorem vs_b4 {L : List (Nat → Int32)} {pl fr o o2 : Int32} {t : Nat} (ho : o = sh_get 3 L (nI t) 2) (ho2 : o2 = sh_get 3 L (nI t) 0) (hk : L.length < 2 ^ 30) (h : o = pl) (h2 : ¬ o2 ≤ fr) : ((1 : Int32) = 0 ∨ (1 : Int32) = 1) ∧ ∀ r0, L[t]? = some r0 → ((1 : Int32) = 0 ↔ vs_nb pl fr r0) := by
  refine ⟨Or.inr rfl, fun r0 h0 => ⟨fun q => absurd q (by decide), fun q => ?_⟩⟩
  have e := vs_o (j := 2) hk ho (by decide) h0
  have e2 := vs_o (j := 0) hk ho2 (by decide) h0
  rcases q with q | ⟨-, q⟩
  · rw [← e, h, Int32.lt_iff_toInt_lt] at q; omega
  · rw [← e2] at q; exact absurd q h2
theorem vs_at {L : List (Nat → Int32)} {k j : Nat} {o : Int32} {r0 : Nat → Int32} (hk : L.length < 2 ^ 30) (h0 : 0 < k) (hr : L[k - 1]? = some r0) (hj : j < 3) (ho : o = sh_get 3 L (nI k - 1) (nI j)) : o = r0 j := by
  rw [ho, show nI k - 1 = nI (k - 1) from pk_sub (b := 1) h0]
  exact sh_get_in (by omega) (by decide) hr hj
theorem vs_zero {L : List (Nat → Int32)} {j : Int32} {o : Int32} (ho : o = sh_get 3 L (nI 0 - 1) j) : o = -2 := by
  rw [ho]
  exact sh_get_out (Or.inl (by decide))
/-- lineAsOf's answer -/
def vs_asof (L : List (Nat → Int32)) (pl : Int32) (k : Nat) (r : Int32) : Prop := (∃ r0, 0 < k ∧ L[k - 1]? = some r0 ∧ r0 2 = pl ∧ ¬ r0 1 = -1 ∧ r = nI (k - 1)) ∨ ((∀ r0, 0 < k → L[k - 1]? = some r0 → r0 2 = pl → r0 1 = -1) ∧ r = -1)
theorem vs_a1 {L : List (Nat → Int32)} {pl o : Int32} {k : Nat} (hk : L.length < 2 ^ 30) (ho : o = sh_get 3 L (nI k - 1) 2) (h : ¬ o = pl) : vs_asof L pl k (-1) :=
  Or.inr ⟨fun _ h0 hr e => absurd ((vs_at (j := 2) hk h0 hr (by decide) ho).trans e) h, rfl⟩
theorem vs_a2 {L : List (Nat → Int32)} {pl o2 : Int32} {k : Nat} (hk : L.length < 2 ^ 30) (ho2 : o2 = sh_get 3 L (nI k - 1) 1) (h2 : o2 = -1) : vs_asof L pl k (-1) :=
  Or.inr ⟨fun _ h0 hr _ => (vs_at (j := 1) hk h0 hr (by decide) ho2).symm.trans h2, rfl⟩
theorem vs_some {L : List (Nat → Int32)} {pl o : Int32} {k : Nat} (hk : L.length < 2 ^ 30) (hkl : k ≤ L.length) (hpl : ¬ pl = -2) (ho : o = sh_get 3 L (nI k - 1) 2) (h : o = pl) : ∃ r0, 0 < k ∧ L[k - 1]? = some r0 ∧ r0 2 = pl := by
  have h0 : 0 < k := by
    rcases Nat.eq_zero_or_pos k with q | q
    · subst q; exact absurd (h.symm.trans (vs_zero ho)) hpl
    · exact q
  have hr : L[k - 1]? = some (L[k - 1]'(by omega)) := List.getElem?_eq_getElem (by omega)
  exact ⟨_, h0, hr, (vs_at (j := 2) hk h0 hr (by decide) ho).symm.trans h⟩
theorem vs_a3 {L : List (Nat → Int32)} {pl o o2 : Int32} {k : Nat} (hk : L.length < 2 ^ 30) (hkl : k ≤ L.length) (hpl : ¬ pl = -2) (ho : o = sh_get 3 L (nI k - 1) 2) (ho2 : o2 = sh_get 3 L (nI k - 1) 1) (h : o = pl) (h2 : ¬ o2 = -1) : vs_asof L pl k (nI k - 1) := by
  obtain ⟨r0, h0, hr, e⟩ := vs_some hk hkl hpl ho h
  exact Or.inl ⟨r0, h0, hr, e, fun q => h2 ((vs_at (j := 1) hk h0 hr (by decide) ho2).trans q), pk_sub (b := 1) h0⟩
theorem vs_p1 {L : List (Nat → Int32)} {pl fr o o2 : Int32} {k : Nat} (hk : L.length < 2 ^ 30) (hkl : k ≤ L.length) (hpl : ¬ pl = -2) (ho : o = sh_get 3 L (nI k - 1) 2) (ho2 : o2 = sh_get 3 L (nI k - 1) 0) (h : o = pl) (h2 : o2 = fr) : ∃ r0, 0 < k ∧ L[k - 1]? = some r0 ∧ r0 2 = pl ∧ r0 0 = fr := by
  obtain ⟨r0, h0, hr, e⟩ := vs_some hk hkl hpl ho h
  exact ⟨r0, h0, hr, e, (vs_at (j := 0) hk h0 hr (by decide) ho2).symm.trans h2⟩
theorem vs_p2 {L : List (Nat → Int32)} {pl fr o : Int32} {k : Nat} (hk : L.length < 2 ^ 30) (ho : o = sh_get 3 L (nI k - 1) 2) (h : ¬ o = pl) : ∀ r0, 0 < k → L[k - 1]? = some r0 → ¬ (r0 2 = pl ∧ r0 0 = fr) :=
  fun _ h0 hr e => h ((vs_at (j := 2) hk h0 hr (by decide) ho).trans e.1)
theorem vs_p3 {L : List (Nat → Int32)} {pl fr o2 : Int32} {k : Nat} (hk : L.length < 2 ^ 30) (ho2 : o2 = sh_get 3 L (nI k - 1) 0) (h : ¬ o2 = fr) : ∀ r0, 0 < k → L[k - 1]? = some r0 → ¬ (r0 2 = pl ∧ r0 0 = fr) :=
  fun _ h0 hr e => h ((vs_at (j := 0) hk h0 hr (by decide) ho2).trans e.2)
/-- what put leaves -/
def vs_put (L : List (Nat → Int32)) (pl fr vl : Int32) (k : Nat) (L' : List (Nat → Int32)) : Prop :=
  (∃ r0, 0 < k ∧ L[k - 1]? = some r0 ∧ r0 2 = pl ∧ r0 0 = fr ∧ L' = L.set (k - 1) (upd r0 1 vl)) ∨
  ((∀ r0, 0 < k → L[k - 1]? = some r0 → ¬ (r0 2 = pl ∧ r0 0 = fr)) ∧ ∃ r1 : Nat → Int32, r1 0 = fr ∧ r1 1 = vl ∧ r1 2 = pl ∧ L' = L.take k ++ r1 :: L.drop k)
