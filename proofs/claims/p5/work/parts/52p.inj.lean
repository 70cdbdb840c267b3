/-! a place in the order belongs to one row -/
theorem rk_strict (p q : Nat → Bool) (hpq : ∀ j, p j = true → q j = true) : ∀ (S : List Nat) (a : Nat), a ∈ S → q a = true → p a = false → S.countP p < S.countP q := by
  intro S
  induction S with
  | nil => intro a ha; cases ha
  | cons b S ih =>
    intro a ha hq hp
    have hm : S.countP p ≤ S.countP q := List.countP_mono_left (fun j _ h => hpq j h)
    rw [List.countP_cons, List.countP_cons]
    rcases List.mem_cons.mp ha with e | e
    · subst e
      rw [hq, hp]
      simp
      omega
    · have h1 := ih a e hq hp
      by_cases z : p b = true
      · rw [if_pos z, if_pos (hpq b z)]; omega
      · rw [if_neg z]; omega
theorem m4_of {rw' : Nat → Int32} {n : Nat} (h : mr_inc rw' n) : m4_inj rw' n := by
  have key : ∀ a b, a < n → b < n → mr_key rw' a < mr_key rw' b → mr_rank rw' a n < mr_rank rw' b n := by
    intro a b ha hb hk
    rw [mr_rank_cnt, mr_rank_cnt]
    refine rk_strict _ _ (fun j hj => ?_) (List.range n) a (List.mem_range.mpr ha) ?_ ?_
    · rw [mr_lt_key, decide_eq_true_iff] at *
      omega
    · rw [mr_lt_key, decide_eq_true_iff]
      exact hk
    · rw [mr_lt_key]
      exact decide_eq_false (by omega)
  have hd : ∀ a b, a < b → b < n → ¬ mr_key rw' a = mr_key rw' b := by
    intro a b hab hb
    have q := List.pairwise_iff_getElem.mp h a b (by unfold mrl; simp; omega) (by unfold mrl; simp; omega) hab
    have q2 : rw' (6 * a) < rw' (6 * b) := by
      simp only [mrl, List.getElem_map, List.getElem_range] at q
      exact q
    rw [Int32.lt_iff_toInt_lt] at q2
    have b1 := Int32.toInt_lt (rw' (6 * a)); have b2 := Int32.le_toInt (rw' (6 * a))
    have b3 := Int32.toInt_lt (rw' (6 * b)); have b4 := Int32.le_toInt (rw' (6 * b))
    unfold mr_key
    omega
  refine ⟨fun a b ha hb e => ?_, fun a ha => ?_⟩
  · rcases Nat.lt_trichotomy a b with q | q | q
    · have := hd a b q hb
      rcases Int.lt_trichotomy (mr_key rw' a) (mr_key rw' b) with z | z | z
      · have := key a b ha hb z; omega
      · exact absurd z this
      · have := key b a hb ha z; omega
    · exact q
    · have := hd b a q ha
      rcases Int.lt_trichotomy (mr_key rw' b) (mr_key rw' a) with z | z | z
      · have := key b a hb ha z; omega
      · exact absurd z this
      · have := key a b ha hb z; omega
  · rw [mr_rank_cnt]
    have h1 := rk_strict (fun j => mr_lt rw' j a) (fun _ => true) (fun _ _ => rfl) (List.range n) a (List.mem_range.mpr ha) rfl (by show mr_lt rw' a a = false; rw [mr_lt_key]; exact decide_eq_false (by omega))
    have h2 : (List.range n).countP (fun _ => true) = n := by rw [List.countP_true, List.length_range]
    rw [h2] at h1
    exact h1
