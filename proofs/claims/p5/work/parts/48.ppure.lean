/-! the reference: lines that move up -/
def mcp (wd : Nat) (f : Nat → Int32) (n r k : Nat) : Nat → Int32 := fun j => if wd * n ≤ j ∧ j < wd * n + k then f (wd * r + (j - wd * n)) else f j
theorem mcp_0 {wd : Nat} {f : Nat → Int32} {n r : Nat} : mcp wd f n r 0 = f := by
  funext j
  unfold mcp
  rw [if_neg (by omega)]
theorem mcp_s {wd : Nat} {f : Nat → Int32} {n r k : Nat} (hn : n ≤ r) : upd (mcp wd f n r k) (wd * n + k) (mcp wd f n r k (wd * r + k)) = mcp wd f n r (k + 1) := by
  have h := Nat.mul_le_mul_left wd hn
  funext j
  by_cases q : j = wd * n + k
  · subst q
    rw [pk_us]
    unfold mcp
    rw [if_neg (by omega), if_pos (by omega), show wd * n + k - wd * n = k by omega]
  · rw [pk_un q]
    unfold mcp
    by_cases q2 : wd * n ≤ j ∧ j < wd * n + k
    · rw [if_pos q2, if_pos (by omega)]
    · rw [if_neg q2, if_neg (by omega)]
/-- a line of the rows' array as a function of its columns -/
def mr_row (rw : Nat → Int32) (r : Nat) : Nat → Int32 := fun c => if c < 6 then rw (6 * r + c) else 0
def mrl (rw : Nat → Int32) (n : Nat) : List (Nat → Int32) := (List.range n).map (mr_row rw)
theorem mrl_s (rw : Nat → Int32) (n : Nat) : mrl rw (n + 1) = mrl rw n ++ [mr_row rw n] := by
  unfold mrl
  rw [List.range_succ, List.map_append]
  rfl
theorem mrl_c {rw rw' : Nat → Int32} {n : Nat} (h : ∀ i, i < n → ∀ c, c < 6 → rw' (6 * i + c) = rw (6 * i + c)) : mrl rw' n = mrl rw n := by
  unfold mrl
  apply List.map_congr_left
  intro i hi
  funext c
  unfold mr_row
  by_cases hc : c < 6
  · rw [if_pos hc, if_pos hc]; exact h i (List.mem_range.mp hi) c hc
  · rw [if_neg hc, if_neg hc]
def mkeep (hz : Int32) (r : Nat → Int32) : Bool := !(decide (r 4 = 0) && decide (r 2 ≤ hz))
theorem mk_k1 {rw : Nat → Int32} {r : Nat} {hz : Int32} (h : ¬ rw (6 * r + 4) = 0) : mkeep hz (mr_row rw r) = true := by
  unfold mkeep
  rw [show mr_row rw r 4 = rw (6 * r + 4) from rfl, decide_eq_false h]
  rfl
theorem mk_k2 {rw : Nat → Int32} {r : Nat} {hz : Int32} (h : hz < rw (6 * r + 2)) : mkeep hz (mr_row rw r) = true := by
  unfold mkeep
  rw [show mr_row rw r 2 = rw (6 * r + 2) from rfl, decide_eq_false (sh_nle h), Bool.and_false]
  rfl
theorem mk_k3 {rw : Nat → Int32} {r : Nat} {hz : Int32} (h : rw (6 * r + 4) = 0) (h2 : ¬ hz < rw (6 * r + 2)) : mkeep hz (mr_row rw r) = false := by
  unfold mkeep
  rw [show mr_row rw r 2 = rw (6 * r + 2) from rfl, show mr_row rw r 4 = rw (6 * r + 4) from rfl, decide_eq_true h, decide_eq_true (sh_le_of h2)]
  rfl
theorem md_lo {f : Nat → Int32} {n r i c : Nat} (hi : i < n) (hc : c < 6) : mcp 6 f n r 6 (6 * i + c) = f (6 * i + c) := by
  unfold mcp
  rw [if_neg (by omega)]
theorem md_at {f : Nat → Int32} {n r c : Nat} (hc : c < 6) : mcp 6 f n r 6 (6 * n + c) = f (6 * r + c) := by
  unfold mcp
  rw [if_pos (by omega), show 6 * n + c - 6 * n = c by omega]
theorem md_hi {f : Nat → Int32} {n r i c : Nat} (hn : n ≤ r) (hi : r + 1 ≤ i) : mcp 6 f n r 6 (6 * i + c) = f (6 * i + c) := by
  unfold mcp
  rw [if_neg (by omega)]
theorem md_keep {rw w1 : Nat → Int32} {n r nr : Nat} {p : (Nat → Int32) → Bool} (hr : r < nr) (hl : mrl w1 n = (mrl rw r).filter p) (hs : ∀ i c, r ≤ i → i < nr → c < 6 → w1 (6 * i + c) = rw (6 * i + c)) (hk : p (mr_row rw r) = true) : mrl (mcp 6 w1 n r 6) (n + 1) = (mrl rw (r + 1)).filter p := by
  rw [mrl_s, mrl_s, List.filter_append, mrl_c (rw := w1) (fun i hi c hc => md_lo hi hc), hl]
  congr 1
  rw [List.filter_cons, if_pos hk, List.filter_nil]
  congr 1
  funext c
  unfold mr_row
  by_cases hc : c < 6
  · rw [if_pos hc, if_pos hc, md_at hc, hs r c (Nat.le_refl _) hr hc]
  · rw [if_neg hc, if_neg hc]
theorem md_goes {rw w1 : Nat → Int32} {n r : Nat} {p : (Nat → Int32) → Bool} (hl : mrl w1 n = (mrl rw r).filter p) (hk : p (mr_row rw r) = false) : mrl (mcp 6 w1 n r 6) n = (mrl rw (r + 1)).filter p := by
  rw [mrl_s, List.filter_append, mrl_c (rw := w1) (fun i hi c hc => md_lo hi hc), hl, List.filter_cons, if_neg (by rw [hk]; decide), List.filter_nil, List.append_nil]
