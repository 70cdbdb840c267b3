/-! sheets: lines of numbers in one array -/
def sh_ok (w : Nat) (f : Nat → Int32) (L : List (Nat → Int32)) : Prop := ∀ (i : Nat) (r : Nat → Int32), L[i]? = some r → ∀ j, j < w → f (i * w + j) = r j
theorem sh_nat {x : Int32} {n : Nat} (hn : n < 2 ^ 31) (h0 : ¬ x < 0) (h1 : ¬ nI n ≤ x) : ∃ j, j < n ∧ x = nI j := by
  rcases pk_ix x hn with h | h | h
  · exact absurd h h0
  · exact absurd h h1
  · exact h
theorem sh_nle {x y : Int32} (h : x < y) : ¬ y ≤ x := by
  rw [Int32.lt_iff_toInt_lt] at h
  rw [Int32.le_iff_toInt_le]
  omega
theorem sh_lt_of {x y : Int32} (h : ¬ y ≤ x) : x < y := by
  rw [Int32.le_iff_toInt_le] at h
  rw [Int32.lt_iff_toInt_lt]
  omega
theorem sh_le_of {x y : Int32} (h : ¬ y < x) : x ≤ y := by
  rw [Int32.lt_iff_toInt_lt] at h
  rw [Int32.le_iff_toInt_le]
  omega
theorem sh_nlt {x y : Int32} (h : x ≤ y) : ¬ y < x := by
  rw [Int32.le_iff_toInt_le] at h
  rw [Int32.lt_iff_toInt_lt]
  omega
theorem sh_nat_le {x : Int32} {n : Nat} (hn : n < 2 ^ 30) (h0 : ¬ x < 0) (h1 : ¬ nI n < x) : ∃ j, j ≤ n ∧ x = nI j := by
  obtain ⟨j, hj, e⟩ := nI_of h0
  refine ⟨j, ?_, e⟩
  rcases Nat.lt_or_ge n j with q | q
  · exact absurd (by rw [e]; exact nI_lt q hj) h1
  · exact q
theorem sh_ix {i j w lim len : Nat} (hi : i < len) (hl : len ≤ lim) (hj : j < w) : i * w + j < w * lim := by
  have h := Nat.mul_le_mul_right w (show i + 1 ≤ lim by omega)
  rw [Nat.add_mul, Nat.one_mul] at h
  rw [Nat.mul_comm w lim]
  omega
theorem sh_step {w a b : Nat} (h : a < b) : a * w + w ≤ b * w := by
  have h := Nat.mul_le_mul_right w (show a + 1 ≤ b from h)
  rwa [Nat.add_mul, Nat.one_mul] at h
theorem sh_inj {w i j i' j' : Nat} (hj : j < w) (hj' : j' < w) (h : i * w + j = i' * w + j') : i = i' ∧ j = j' := by
  rcases Nat.lt_trichotomy i i' with q | q | q
  · have := sh_step (w := w) q; omega
  · subst q; exact ⟨rfl, by omega⟩
  · have := sh_step (w := w) q; omega
theorem sh_ok_set {w i j : Nat} {f r : Nat → Int32} {L : List (Nat → Int32)} {v : Int32} (h : sh_ok w f L) (hr : L[i]? = some r) (hj : j < w) : sh_ok w (upd f (i * w + j) v) (L.set i (upd r j v)) := by
  intro i' r' hr' j' hj'
  rw [List.getElem?_set] at hr'
  by_cases e : i = i'
  · subst e
    have hlt : i < L.length := (List.getElem?_eq_some_iff.mp hr).1
    rw [if_pos rfl, if_pos hlt] at hr'
    obtain rfl := Option.some.inj hr'
    by_cases e2 : j' = j
    · subst e2; rw [pk_us, pk_us]
    · rw [pk_un (show i * w + j' ≠ i * w + j by omega), pk_un e2]; exact h i r hr j' hj'
  · rw [if_neg e] at hr'
    rw [pk_un (fun q => e (sh_inj hj' hj q).1.symm)]
    exact h i' r' hr' j' hj'
theorem ls_ins {α : Type} {L : List α} {i : Nat} {x : α} (hi : i ≤ L.length) (k : Nat) : (L.take i ++ x :: L.drop i)[k]? = if k < i then L[k]? else if k = i then some x else L[k - 1]? := by
  rw [List.getElem?_append, List.length_take, Nat.min_eq_left hi]
  by_cases h1 : k < i
  · rw [if_pos h1, if_pos h1, List.getElem?_take, if_pos h1]
  · rw [if_neg h1, if_neg h1]
    by_cases h2 : k = i
    · subst h2; rw [if_pos rfl, Nat.sub_self]; rfl
    · rw [if_neg h2, show k - i = (k - i - 1) + 1 by omega, List.getElem?_cons_succ, List.getElem?_drop, show i + (k - i - 1) = k - 1 by omega]
theorem sh_ok_open {w i : Nat} {f : Nat → Int32} {L : List (Nat → Int32)} (h : sh_ok w f L) (hi : i ≤ L.length) : sh_ok w (va_cpy f f (i * w) (i * w + w) ((L.length - i) * w)) (L.take i ++ (fun j => f (i * w + j)) :: L.drop i) := by
  intro i' r' hr' j' hj'
  rw [ls_ins hi] at hr'
  by_cases h1 : i' < i
  · rw [if_pos h1] at hr'
    have := sh_step (w := w) h1
    rw [pk_cpy_out (Or.inl (by omega))]
    exact h i' r' hr' j' hj'
  · rw [if_neg h1] at hr'
    by_cases h2 : i' = i
    · subst h2
      rw [if_pos rfl] at hr'
      obtain rfl := Option.some.inj hr'
      rw [pk_cpy_out (Or.inl (by omega))]
    · rw [if_neg h2] at hr'
      have hl : i' - 1 < L.length := (List.getElem?_eq_some_iff.mp hr').1
      have e1 : i' * w = (i' - 1) * w + w := by
        have : i' = (i' - 1) + 1 := by omega
        rw [show i' * w = ((i' - 1) + 1) * w by rw [← this], Nat.add_mul, Nat.one_mul]
      have e2 : (L.length - i) * w = L.length * w - i * w := Nat.sub_mul _ _ _
      have e3 : i * w ≤ (i' - 1) * w := Nat.mul_le_mul_right w (by omega)
      have e4 : (i' - 1) * w + w ≤ L.length * w := sh_step hl
      rw [pk_cpy_in (by omega) (by omega), show i * w + (i' * w + j' - (i * w + w)) = (i' - 1) * w + j' by omega]
      exact h (i' - 1) r' hr' j' hj'
theorem sh_ok_drop {w i : Nat} {f : Nat → Int32} {L : List (Nat → Int32)} (h : sh_ok w f L) (hi : i < L.length) : sh_ok w (va_cpy f f ((i + 1) * w) (i * w) (L.length * w - (i + 1) * w)) (L.eraseIdx i) := by
  intro i' r' hr' j' hj'
  rw [List.getElem?_eraseIdx] at hr'
  have e1 : (i + 1) * w = i * w + w := by rw [Nat.add_mul, Nat.one_mul]
  by_cases h1 : i' < i
  · rw [if_pos h1] at hr'
    have := sh_step (w := w) h1
    rw [pk_cpy_out (Or.inl (by omega))]
    exact h i' r' hr' j' hj'
  · rw [if_neg h1] at hr'
    have hl : i' + 1 < L.length := (List.getElem?_eq_some_iff.mp hr').1
    have e2 : (i' + 1) * w = i' * w + w := by rw [Nat.add_mul, Nat.one_mul]
    have e3 : i * w ≤ i' * w := Nat.mul_le_mul_right w (by omega)
    have e4 : (i' + 1) * w + w ≤ L.length * w := sh_step hl
    rw [pk_cpy_in (by omega) (by omega), show (i + 1) * w + (i' * w + j' - i * w) = (i' + 1) * w + j' by omega]
    exact h (i' + 1) r' hr' j' hj'
/-- what get answers -/
def sh_get (w : Nat) (L : List (Nat → Int32)) (i j : Int32) : Int32 := if i < 0 ∨ nI L.length ≤ i ∨ j < 0 ∨ nI w ≤ j then -2 else (L.getD i.toNatClampNeg (fun _ => 0)) j.toNatClampNeg
/-- what set leaves -/
def sh_set (w : Nat) (L : List (Nat → Int32)) (i j v : Int32) : List (Nat → Int32) := if i < 0 ∨ nI L.length ≤ i ∨ j < 0 ∨ nI w ≤ j then L else L.set i.toNatClampNeg (upd (L.getD i.toNatClampNeg (fun _ => 0)) j.toNatClampNeg v)
theorem sh_get_out {w : Nat} {L : List (Nat → Int32)} {i j : Int32} (h : i < 0 ∨ nI L.length ≤ i ∨ j < 0 ∨ nI w ≤ j) : sh_get w L i j = -2 := by
  unfold sh_get
  rw [if_pos h]
theorem sh_in {w k i j : Nat} (hk : k < 2 ^ 31) (hw : w < 2 ^ 31) (hi : i < k) (hj : j < w) : ¬ (nI i < 0 ∨ nI k ≤ nI i ∨ nI j < 0 ∨ nI w ≤ nI j) := by
  intro h
  rcases h with h | h | h | h
  · exact nI_pos (by omega) h
  · exact nI_ge hi hk h
  · exact nI_pos (by omega) h
  · exact nI_ge hj hw h
theorem sh_get_in {w i j : Nat} {L : List (Nat → Int32)} {r : Nat → Int32} (hk : L.length < 2 ^ 31) (hw : w < 2 ^ 31) (hr : L[i]? = some r) (hj : j < w) : sh_get w L (nI i) (nI j) = r j := by
  have hi : i < L.length := (List.getElem?_eq_some_iff.mp hr).1
  unfold sh_get
  rw [if_neg (sh_in hk hw hi hj), nI_clamp (by omega), nI_clamp (by omega), List.getD_eq_getElem?_getD, hr]
  rfl
theorem sh_get_ok {w i j : Nat} {f : Nat → Int32} {L : List (Nat → Int32)} (h : sh_ok w f L) (hk : L.length < 2 ^ 31) (hw : w < 2 ^ 31) (hi : i < L.length) (hj : j < w) : f (i * w + j) = sh_get w L (nI i) (nI j) := by
  have hr : L[i]? = some L[i] := List.getElem?_eq_getElem hi
  rw [sh_get_in hk hw hr hj, h i _ hr j hj]
theorem sh_set_out {w : Nat} {L : List (Nat → Int32)} {i j v : Int32} (h : i < 0 ∨ nI L.length ≤ i ∨ j < 0 ∨ nI w ≤ j) : sh_set w L i j v = L := by
  unfold sh_set
  rw [if_pos h]
theorem sh_set_in {w i j : Nat} {L : List (Nat → Int32)} {r : Nat → Int32} {v : Int32} (hk : L.length < 2 ^ 31) (hw : w < 2 ^ 31) (hr : L[i]? = some r) (hj : j < w) : sh_set w L (nI i) (nI j) v = L.set i (upd r j v) := by
  have hi : i < L.length := (List.getElem?_eq_some_iff.mp hr).1
  unfold sh_set
  rw [if_neg (sh_in hk hw hi hj), nI_clamp (by omega), nI_clamp (by omega), List.getD_eq_getElem?_getD, hr]
  rfl
theorem sh_set_ok {w i j : Nat} {f : Nat → Int32} {L : List (Nat → Int32)} {v : Int32} (h : sh_ok w f L) (hk : L.length < 2 ^ 31) (hw : w < 2 ^ 31) (hi : i < L.length) (hj : j < w) : sh_ok w (upd f (i * w + j) v) (sh_set w L (nI i) (nI j) v) := by
  have hr : L[i]? = some L[i] := List.getElem?_eq_getElem hi
  rw [sh_set_in hk hw hr hj]
  exact sh_ok_set h hr hj
theorem sh_set_length {w : Nat} {L : List (Nat → Int32)} {i j v : Int32} : (sh_set w L i j v).length = L.length := by
  unfold sh_set
  split
  · rfl
  · rw [List.length_set]
theorem ls_ins_len {α : Type} {L : List α} {i : Nat} {x : α} (hi : i ≤ L.length) : (L.take i ++ x :: L.drop i).length = L.length + 1 := by
  rw [List.length_append, List.length_cons, List.length_take, List.length_drop]
  omega
def sh_wf (w lim : Nat) (f : Nat → Int32) (L : List (Nat → Int32)) : Prop := sh_ok w f L ∧ L.length ≤ lim ∧ w * lim < 2 ^ 20 ∧ w < 2 ^ 20 ∧ lim < 2 ^ 20
