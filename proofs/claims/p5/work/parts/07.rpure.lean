/-! rows and outs -/
/-- the place of a new row: behind all that are not later -/
def rs_pos (L : List (Nat → Int32)) (tm : Int32) (k : Nat) : Prop := k ≤ L.length ∧ (∀ i r, k ≤ i → L[i]? = some r → tm < r 2) ∧ (∀ r, 0 < k → L[k - 1]? = some r → ¬ tm < r 2)
def rs_add (L : List (Nat → Int32)) (nu ky tm vl : Int32) (L' : List (Nat → Int32)) : Prop :=
  ∃ (k : Nat) (r1 : Nat → Int32), rs_pos L tm k ∧ r1 0 = nu ∧ r1 1 = ky ∧ r1 2 = tm ∧ r1 3 = vl ∧ r1 4 = 1 ∧ r1 5 = 0 ∧ L' = L.take k ++ r1 :: L.drop k
theorem rs_s1 {L : List (Nat → Int32)} {tm r : Int32} {n : Nat} (hk : L.length < 2 ^ 30) (hr : r = sh_get 12 L (nI n) 2) (hq : tm < r) (hin : ∀ i r, n + 1 ≤ i → L[i]? = some r → tm < r 2) : ∀ i r, n ≤ i → L[i]? = some r → tm < r 2 := by
  intro i r' h1 h2
  rcases Nat.lt_or_ge n i with q | q
  · exact hin i r' q h2
  · obtain rfl : i = n := by omega
    rw [← show r = r' 2 from hr.trans (sh_get_in (j := 2) (by omega) (by decide) h2 (by decide))]
    exact hq
theorem rs_s2 {L : List (Nat → Int32)} {tm r : Int32} {n : Nat} (hk : L.length < 2 ^ 30) (hr : r = sh_get 12 L (nI n) 2) (hq : r ≤ tm) : ∀ r', 0 < n + 1 → L[n + 1 - 1]? = some r' → ¬ tm < r' 2 := by
  intro r' _ h2
  rw [← show r = r' 2 from hr.trans (sh_get_in (j := 2) (by omega) (by decide) h2 (by decide))]
  exact sh_nlt hq
/-- a row with its JOIN up to column c, WAITS 0, GIVEN g -/
def rs_jn (r0 : Nat → Int32) (g : Int32) (jo : Nat → Int32) (c : Nat) : Nat → Int32 := fun j => if j = 4 then 0 else if j = 5 then g else if 6 ≤ j ∧ j < 6 + c then jo (j - 6) else r0 j
theorem rs_j0 {r0 jo : Nat → Int32} {g : Int32} : upd (upd r0 4 0) 5 g = rs_jn r0 g jo 0 := by
  funext j
  unfold upd rs_jn
  by_cases h5 : j = 5
  · subst h5; rfl
  · by_cases h4 : j = 4
    · subst h4; rfl
    · rw [if_neg h5, if_neg h4, if_neg h4, if_neg h5, if_neg (by omega)]
theorem rs_js {r0 jo : Nat → Int32} {g : Int32} {a : Nat} : upd (rs_jn r0 g jo a) (6 + a) (jo a) = rs_jn r0 g jo (a + 1) := by
  funext j
  unfold upd rs_jn
  by_cases h : j = 6 + a
  · subst h
    rw [if_pos rfl, if_neg (by omega), if_neg (by omega), if_pos (by omega), show 6 + a - 6 = a by omega]
  · rw [if_neg h]
    by_cases h4 : j = 4
    · rw [if_pos h4, if_pos h4]
    · rw [if_neg h4, if_neg h4]
      by_cases h5 : j = 5
      · rw [if_pos h5, if_pos h5]
      · rw [if_neg h5, if_neg h5]
        by_cases h6 : 6 ≤ j ∧ j < 6 + a
        · rw [if_pos h6, if_pos (by omega)]
        · rw [if_neg h6, if_neg (by omega)]
theorem rs_set_at {α : Type} {L : List α} {i : Nat} {x y : α} (h : L[i]? = some x) : (L.set i y)[i]? = some y := by
  have hi : i < L.length := (List.getElem?_eq_some_iff.mp h).1
  rw [List.getElem?_set, if_pos rfl, if_pos hi]
def rs_wt (L : List (Nat → Int32)) : Int32 := L.foldl (fun s r => s + r 4) 0
theorem rs_wt_s {L : List (Nat → Int32)} {a : Nat} (h : a < L.length) : rs_wt (L.take a) + (L[a]'h) 4 = rs_wt (L.take (a + 1)) := by
  unfold rs_wt
  rw [List.take_succ_eq_append_getElem h, List.foldl_append]
  rfl
def rs_any (ky fi la : Int32) (r : Nat → Int32) : Prop := r 4 = 1 ∧ r 1 = ky ∧ fi ≤ r 2 ∧ r 2 ≤ la
theorem rs_n1 {P : Prop} [Decidable P] (h : (if P then (1 : Int32) else 0) = 0) : ¬ P := fun q => by rw [if_pos q] at h; exact absurd h (by decide)
theorem rs_n2 {P : Prop} [Decidable P] (h : ¬ (if P then (1 : Int32) else 0) = 0) : P := by
  by_cases q : P
  · exact q
  · exact absurd (if_neg q) h
/-- a row that stays behind horizon hz: one that waits, or that is later -/
def rs_keep (hz : Int32) (r : Nat → Int32) : Bool := decide (r 4 = 1) || decide (hz < r 2)
theorem rs_kf {hz : Int32} {r : Nat → Int32} (h1 : ¬ r 4 = 1) (h2 : r 2 ≤ hz) : rs_keep hz r = false := by
  unfold rs_keep
  rw [decide_eq_false h1, decide_eq_false (sh_nlt h2)]
  rfl
theorem rs_kt1 {hz : Int32} {r : Nat → Int32} (h1 : r 4 = 1) : rs_keep hz r = true := by
  unfold rs_keep
  rw [decide_eq_true h1]
  rfl
theorem rs_kt2 {hz : Int32} {r : Nat → Int32} (h1 : hz < r 2) : rs_keep hz r = true := by
  unfold rs_keep
  rw [decide_eq_true h1, Bool.or_true]
theorem rs_dj0 {L : List (Nat → Int32)} {p : (Nat → Int32) → Bool} : L.take L.length ++ (L.drop L.length).filter p = L := by
  rw [List.take_length, List.drop_length, List.filter_nil, List.append_nil]
theorem rs_dj9 {L : List (Nat → Int32)} {p : (Nat → Int32) → Bool} : L.take 0 ++ (L.drop 0).filter p = L.filter p := by
  rw [List.take_zero, List.drop_zero, List.nil_append]
theorem rs_dj2 {L : List (Nat → Int32)} {p : (Nat → Int32) → Bool} {n : Nat} (h : n < L.length) (hk : p (L[n]'h) = true) : L.take (n + 1) ++ (L.drop (n + 1)).filter p = L.take n ++ (L.drop n).filter p := by
  rw [List.take_succ_eq_append_getElem h, List.drop_eq_getElem_cons h, List.filter_cons, if_pos hk, List.append_assoc]
  rfl
theorem rs_dj1 {L : List (Nat → Int32)} {p : (Nat → Int32) → Bool} {n : Nat} (h : n < L.length) (hk : p (L[n]'h) = false) : (L.take (n + 1) ++ (L.drop (n + 1)).filter p).eraseIdx n = L.take n ++ (L.drop n).filter p := by
  rw [List.take_succ_eq_append_getElem h, List.append_assoc, List.eraseIdx_append_of_length_le (by rw [List.length_take]; omega), List.length_take, Nat.min_eq_left (Nat.le_of_lt h), Nat.sub_self]
  rw [show [L[n]'h] ++ List.filter p (List.drop (n + 1) L) = L[n]'h :: List.filter p (List.drop (n + 1) L) from rfl, List.eraseIdx_cons_zero]
  rw [List.drop_eq_getElem_cons h, List.filter_cons, if_neg (by rw [hk]; decide)]
theorem rs_dj3 {L : List (Nat → Int32)} {hz : Int32} {n : Nat} (h : n < L.length) : (L.take (n + 1) ++ (L.drop (n + 1)).filter (rs_keep hz))[n]? = some (L[n]'h) := by
  rw [List.getElem?_append_left (by rw [List.length_take]; omega), List.getElem?_take, if_pos (Nat.lt_succ_self n), List.getElem?_eq_getElem h]
theorem rs_djl (L : List (Nat → Int32)) (hz : Int32) (n : Nat) : (L.take n ++ (L.drop n).filter (rs_keep hz)).length ≤ L.length := by
  have h := List.length_filter_le (rs_keep hz) (L.drop n)
  rw [List.length_append, List.length_take]
  rw [List.length_drop] at h
  omega
/-- what goes out of a row: its kind, the row's first four numbers, its JOIN -/
def ot_rec (kd : Int32) (r0 : Nat → Int32) : Nat → Int32 := fun c => if c = 0 then kd else if c < 5 then r0 (c - 1) else r0 (c + 1)
theorem ot_s {kd : Int32} {r0 rr : Nat → Int32} {a : Nat} (h : ∀ c, c < 5 + a → rr c = ot_rec kd r0 c) : ∀ c, c < 5 + (a + 1) → upd rr (5 + a) (r0 (6 + a)) c = ot_rec kd r0 c := by
  intro c hc
  by_cases q : c = 5 + a
  · subst q
    rw [pk_us]
    unfold ot_rec
    rw [if_neg (by omega), if_neg (by omega), show 5 + a + 1 = 6 + a by omega]
  · rw [pk_un q]
    exact h c (by omega)
theorem ot_len {Lo : List (Nat → Int32)} {r x : Nat → Int32} : (Lo ++ [x]).length = (Lo.take Lo.length ++ r :: Lo.drop Lo.length).length := by
  rw [ls_ins_len (Nat.le_refl _), List.length_append]
  rfl
theorem ot_fin {f : Nat → Int32} {w : Nat} {Lo : List (Nat → Int32)} {r x : Nat → Int32} (h : sh_ok w f (Lo.take Lo.length ++ r :: Lo.drop Lo.length)) (hc : ∀ c, c < w → r c = x c) : sh_ok w f (Lo ++ [x]) := by
  intro i r' hr' j hj
  rw [List.getElem?_append] at hr'
  by_cases hi : i < Lo.length
  · rw [if_pos hi] at hr'
    exact h i r' (by rw [ls_ins (Nat.le_refl _), if_pos hi]; exact hr') j hj
  · rw [if_neg hi] at hr'
    have h1 : i - Lo.length < [x].length := (List.getElem?_eq_some_iff.mp hr').1
    have h2 : i = Lo.length := by
      have : [x].length = 1 := rfl
      omega
    subst h2
    rw [Nat.sub_self] at hr'
    obtain rfl : x = r' := Option.some.inj hr'
    rw [← hc j hj]
    exact h _ r (ls_ins_at (Nat.le_refl _)) j hj
