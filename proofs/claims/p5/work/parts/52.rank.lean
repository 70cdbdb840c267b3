/-! ranks: the k-th of many that are apart -/
theorem rk_sorted (f : Nat → Int) : ∀ (S : List Nat), S.Pairwise (fun a b => f a < f b) → ∀ k, k < S.length → ∃ r, r ∈ S ∧ S.countP (fun j => decide (f j < f r)) = k := by
  intro S
  induction S with
  | nil => intro _ k hk; exact absurd hk (Nat.not_lt_zero _)
  | cons a S ih =>
    intro hp k hk
    have h1 := (List.pairwise_cons.mp hp).1
    have h2 := (List.pairwise_cons.mp hp).2
    match k with
    | 0 =>
      refine ⟨a, List.mem_cons_self, ?_⟩
      refine List.countP_eq_zero.mpr (fun j hj => ?_)
      rcases List.mem_cons.mp hj with e | e
      · subst e; simp
      · have := h1 j e
        simp; omega
    | k + 1 =>
      obtain ⟨r, hr, e⟩ := ih h2 k (by simpa using hk)
      refine ⟨r, List.mem_cons_of_mem _ hr, ?_⟩
      rw [List.countP_cons_of_pos (by simpa using h1 r hr), e]
theorem rk_ex (f : Nat → Int) (L : List Nat) (hd : L.Pairwise (fun a b => f a ≠ f b)) (k : Nat) (hk : k < L.length) : ∃ r, r ∈ L ∧ L.countP (fun j => decide (f j < f r)) = k := by
  have hp : (L.mergeSort (fun a b => decide (f a ≤ f b))).Perm L := List.mergeSort_perm _ _
  have hs : (L.mergeSort (fun a b => decide (f a ≤ f b))).Pairwise (fun a b => decide (f a ≤ f b) = true) :=
    List.pairwise_mergeSort (fun a b c h1 h2 => by simp at *; omega) (fun a b => by simp; omega) L
  have hd2 : (L.mergeSort (fun a b => decide (f a ≤ f b))).Pairwise (fun a b => f a ≠ f b) := hp.symm.pairwise hd (fun h => Ne.symm h)
  have hs2 : (L.mergeSort (fun a b => decide (f a ≤ f b))).Pairwise (fun a b => f a < f b) :=
    (hs.and hd2).imp (fun h => by have h1 := h.1; have h2 := h.2; simp at h1; omega)
  obtain ⟨r, hr, e⟩ := rk_sorted f _ hs2 k (by rw [hp.length_eq]; exact hk)
  exact ⟨r, hp.mem_iff.mp hr, by rw [← hp.countP_eq]; exact e⟩
theorem rk_cnt (p : Nat → Bool) (f : Nat → Nat) (h0 : f 0 = 0) (hs : ∀ n, f (n + 1) = f n + (if p n = true then 1 else 0)) : ∀ n, f n = (List.range n).countP p := by
  intro n
  induction n with
  | zero => rw [h0]; rfl
  | succ n ih =>
    rw [hs, List.range_succ, List.countP_append, ← ih, List.countP_singleton]
theorem mr_rank_cnt (rw' : Nat → Int32) (r n : Nat) : mr_rank rw' r n = (List.range n).countP (fun j => mr_lt rw' j r) :=
  rk_cnt (fun j => mr_lt rw' j r) (mr_rank rw' r) rfl (fun _ => rfl) n
def mr_key (rw' : Nat → Int32) (r : Nat) : Int := (rw' (6 * r + 2)).toInt * 2 ^ 33 + (rw' (6 * r)).toInt
theorem mr_lt_key (rw' : Nat → Int32) (j r : Nat) : mr_lt rw' j r = decide (mr_key rw' j < mr_key rw' r) := by
  have b1 := Int32.toInt_lt (rw' (6 * j)); have b2 := Int32.le_toInt (rw' (6 * j))
  have b3 := Int32.toInt_lt (rw' (6 * r)); have b4 := Int32.le_toInt (rw' (6 * r))
  unfold mr_lt mr_key
  rw [decide_eq_decide, Int32.lt_iff_toInt_lt, Int32.lt_iff_toInt_lt, ← Int32.toInt_inj]
  omega
/-- the rows' numbers go up -/
def mr_inc (rw' : Nat → Int32) (n : Nat) : Prop := (mrl rw' n).Pairwise (fun a b => a 0 < b 0)
theorem mr_full_of {rw' : Nat → Int32} {n : Nat} (h : mr_inc rw' n) : mr_full rw' n := by
  intro k hk
  have h2 : (List.range n).Pairwise (fun a b => mr_key rw' a ≠ mr_key rw' b) := by
    refine (List.pairwise_map.mp h).imp (fun {a b} q => ?_)
    have q2 : rw' (6 * a) < rw' (6 * b) := q
    rw [Int32.lt_iff_toInt_lt] at q2
    have b1 := Int32.toInt_lt (rw' (6 * a)); have b2 := Int32.le_toInt (rw' (6 * a))
    have b3 := Int32.toInt_lt (rw' (6 * b)); have b4 := Int32.le_toInt (rw' (6 * b))
    unfold mr_key
    omega
  obtain ⟨r, hr, e⟩ := rk_ex (mr_key rw') (List.range n) h2 k (by rw [List.length_range]; exact hk)
  refine ⟨r, List.mem_range.mp hr, ?_⟩
  rw [mr_rank_cnt, ← e]
  exact congrArg (fun p => (List.range n).countP p) (funext (fun j => mr_lt_key rw' j r))
theorem mv_cnt_cnt (ve : Nat → Int32) (t k : Int32) (n : Nat) : mv_cnt ve t k n = (List.range n).countP (fun j => decide (¬ mo_b ve j t k = 0)) :=
  rk_cnt _ (mv_cnt ve t k) rfl (fun n => by
    show mv_cnt ve t k n + (if mo_b ve n t k = 0 then 0 else 1) = _
    by_cases q : mo_b ve n t k = 0
    · rw [if_pos q, if_neg (by simp [q])]
    · rw [if_neg q, if_pos (by simp [q])]) n
theorem mb_rank_cnt (ve : Nat → Int32) (t k : Int32) (i n : Nat) : mb_rank ve t k i n = (List.range n).countP (fun j => mb_lt ve t k j i) :=
  rk_cnt (fun j => mb_lt ve t k j i) (mb_rank ve t k i) rfl (fun _ => rfl) n
/-- no two lines have table, key and from the same -/
def mv_apart (ve : Nat → Int32) (n : Nat) : Prop := (mvl ve n).Pairwise (fun a b => ¬ (a 0 = b 0 ∧ a 1 = b 1 ∧ a 2 = b 2))
theorem mo_1 {ve : Nat → Int32} {i : Nat} {t k : Int32} (h : ¬ mo_b ve i t k = 0) : ve (4 * i) = t ∧ ve (4 * i + 1) = k := by
  unfold mo_b at h
  by_cases q : ve (4 * i) = t ∧ ve (4 * i + 1) = k
  · exact q
  · exact absurd (if_neg q) h
theorem mb_ex {ve : Nat → Int32} {n : Nat} {t k : Int32} (h : mv_apart ve n) {m : Nat} (hm : m < mv_cnt ve t k n) : ∃ i, i < n ∧ ¬ mo_b ve i t k = 0 ∧ mb_rank ve t k i n = m := by
  have h1 : (List.range n).Pairwise (fun a b => ¬ (ve (4 * a) = ve (4 * b) ∧ ve (4 * a + 1) = ve (4 * b + 1) ∧ ve (4 * a + 2) = ve (4 * b + 2))) := List.pairwise_map.mp h
  have h2 : ((List.range n).filter (fun j => decide (¬ mo_b ve j t k = 0))).Pairwise (fun a b => (ve (4 * a + 2)).toInt ≠ (ve (4 * b + 2)).toInt) := by
    refine List.pairwise_filter.mpr (h1.imp (fun {a b} q ha hb e => ?_))
    have qa := mo_1 (of_decide_eq_true ha)
    have qb := mo_1 (of_decide_eq_true hb)
    exact q ⟨qa.1.trans qb.1.symm, qa.2.trans qb.2.symm, Int32.toInt_inj.mp e⟩
  obtain ⟨r, hr, e⟩ := rk_ex (fun j => (ve (4 * j + 2)).toInt) _ h2 m (by rw [← List.countP_eq_length_filter, ← mv_cnt_cnt]; exact hm)
  have hr2 := List.mem_filter.mp hr
  refine ⟨r, List.mem_range.mp hr2.1, of_decide_eq_true hr2.2, ?_⟩
  rw [mb_rank_cnt, ← e, List.countP_filter]
  refine congrArg (fun p => (List.range n).countP p) (funext (fun j => ?_))
  unfold mb_lt
  rw [Bool.decide_and, Bool.and_comm]
  refine congrArg (fun c => c && decide (¬ mo_b ve j t k = 0)) ?_
  rw [decide_eq_decide, Int32.lt_iff_toInt_lt]
theorem mb_hit {ve : Nat → Int32} {n m : Nat} {t k r : Int32} {nn : Nat → Int32} (h : mv_apart ve n) (hm : m < mv_cnt ve t k n) (hr : (r = -2 ∧ ∀ i, i < n → ¬ mo_b ve i t k = 0 → ¬ mb_rank ve t k i n = m) ∨ ∃ i, i < n ∧ r = nn i ∧ ¬ mo_b ve i t k = 0 ∧ mb_rank ve t k i n = m) : ∃ i, i < n ∧ r = nn i ∧ ¬ mo_b ve i t k = 0 ∧ mb_rank ve t k i n = m := by
  rcases hr with q | q
  · obtain ⟨i, hi, h1, h2⟩ := mb_ex h hm
    exact absurd h2 (q.2 i hi h1)
  · exact q
theorem mv_apart_sub {ve ve' : Nat → Int32} {n n' : Nat} (h : mv_apart ve n) (hs : (mvl ve' n').Sublist (mvl ve n)) : mv_apart ve' n' := List.Pairwise.sublist hs h
theorem mr_inc_f {rw' w2 : Nat → Int32} {n n' : Nat} {p : (Nat → Int32) → Bool} (h : mr_inc rw' n) (hs : mrl w2 n' = (mrl rw' n).filter p) : mr_inc w2 n' := by
  unfold mr_inc
  rw [hs]
  exact List.Pairwise.sublist List.filter_sublist h
