/-! which rows of the reference wait -/
def m4_at (rw ma : Nat → Int32) (nt nr k i : Nat) : Int32 := if mr_rank rw i nr < k ∧ rw (6 * i + 4) = 1 ∧ ¬ mc_b rw ma i nt = 0 then 0 else rw (6 * i + 4)
/-- each place in the order is one row's -/
def m4_inj (rw : Nat → Int32) (n : Nat) : Prop := (∀ a b, a < n → b < n → mr_rank rw a n = mr_rank rw b n → a = b) ∧ ∀ a, a < n → mr_rank rw a n < n
theorem m4_0 {rw ma : Nat → Int32} {nt nr : Nat} : ∀ i, i < nr → rw (6 * i + 4) = m4_at rw ma nt nr 0 i := fun i _ => by
  unfold m4_at
  rw [if_neg (fun q => absurd q.1 (Nat.not_lt_zero _))]
theorem m4_was {rw ma w1 : Nat → Int32} {nt nr k r : Nat} (h : ∀ i, i < nr → w1 (6 * i + 4) = m4_at rw ma nt nr k i) (hr : r < nr) (e : mr_rank rw r nr = k) : w1 (6 * r + 4) = rw (6 * r + 4) := by
  rw [h r hr]
  unfold m4_at
  rw [if_neg (fun q => by have := q.1; omega)]
theorem m4_other {rw ma : Nat → Int32} {nt nr k r i : Nat} (hinj : m4_inj rw nr) (hr : r < nr) (e : mr_rank rw r nr = k) (hi : i < nr) (hne : ¬ i = r) : m4_at rw ma nt nr (k + 1) i = m4_at rw ma nt nr k i := by
  have hq : ¬ mr_rank rw i nr = k := fun z => hne (hinj.1 i r hi hr (z.trans e.symm))
  unfold m4_at
  by_cases q : mr_rank rw i nr < k ∧ rw (6 * i + 4) = 1 ∧ ¬ mc_b rw ma i nt = 0
  · rw [if_pos q, if_pos ⟨by omega, q.2⟩]
  · rw [if_neg q, if_neg (fun z => q ⟨by have := z.1; omega, z.2⟩)]
theorem m4_take {rw ma w1 : Nat → Int32} {nt nr k r : Nat} {g : Int32} (hinj : m4_inj rw nr) (h : ∀ i, i < nr → w1 (6 * i + 4) = m4_at rw ma nt nr k i) (hr : r < nr) (e : mr_rank rw r nr = k) (h1 : w1 (6 * r + 4) = 1) (hc : ¬ mc_b rw ma r nt = 0) : ∀ i, i < nr → upd (upd w1 (6 * r + 4) 0) (6 * r + 5) g (6 * i + 4) = m4_at rw ma nt nr (k + 1) i := by
  intro i hi
  rw [pk_un (by omega)]
  by_cases q : i = r
  · subst q
    rw [pk_us]
    unfold m4_at
    rw [if_pos ⟨by omega, (m4_was h hr e).symm.trans h1, hc⟩]
  · rw [pk_un (by omega), h i hi, m4_other hinj hr e hi q]
theorem m4_skip {rw ma w1 : Nat → Int32} {nt nr k r : Nat} (hinj : m4_inj rw nr) (h : ∀ i, i < nr → w1 (6 * i + 4) = m4_at rw ma nt nr k i) (hr : r < nr) (e : mr_rank rw r nr = k) (hno : ¬ (w1 (6 * r + 4) = 1 ∧ ¬ mc_b rw ma r nt = 0)) : ∀ i, i < nr → w1 (6 * i + 4) = m4_at rw ma nt nr (k + 1) i := by
  intro i hi
  by_cases q : i = r
  · subst q
    have w := m4_was h hr e
    rw [w]
    unfold m4_at
    rw [if_neg (fun z => hno ⟨w.trans z.2.1, z.2.2⟩)]
  · rw [h i hi, m4_other hinj hr e hi q]
/-- behind joinAll -/
def m4_join (rw ma w1 : Nat → Int32) (nt nr : Nat) : Prop := ∀ i, i < nr → w1 (6 * i + 4) = if rw (6 * i + 4) = 1 ∧ ¬ mc_b rw ma i nt = 0 then 0 else rw (6 * i + 4)
theorem m4_end {rw ma w1 : Nat → Int32} {nt nr : Nat} (hinj : m4_inj rw nr) (h : ∀ i, i < nr → w1 (6 * i + 4) = m4_at rw ma nt nr nr i) : m4_join rw ma w1 nt nr := by
  intro i hi
  rw [h i hi]
  unfold m4_at
  by_cases q : rw (6 * i + 4) = 1 ∧ ¬ mc_b rw ma i nt = 0
  · rw [if_pos ⟨hinj.2 i hi, q⟩, if_pos q]
  · rw [if_neg (fun z => q z.2), if_neg q]
theorem mc_c {rw ma w1 : Nat → Int32} {nt nr r : Nat} (h : mrow rw w1 nr) (hr : r < nr) : mc_b w1 ma r nt = mc_b rw ma r nt := by
  unfold mc_b
  rw [h r hr 2 (by decide)]
def m4_keep (rw w1 : Nat → Int32) (nr : Nat) : Prop := ∀ i, i < nr → w1 (6 * i + 4) = rw (6 * i + 4)
theorem m4_cor {rw w1 : Nat → Int32} {nr r : Nat} {g : Int32} (h : m4_keep rw w1 nr) (h0 : w1 (6 * r + 4) = 0) : m4_keep rw (upd (upd w1 (6 * r + 4) 0) (6 * r + 5) g) nr := by
  intro i hi
  rw [pk_un (by omega)]
  by_cases q : i = r
  · subst q
    rw [pk_us, ← h i hi, h0]
  · rw [pk_un (by omega), h i hi]
