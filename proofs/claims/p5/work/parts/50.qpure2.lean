/-! the reference: its versions' array -/
def mv_row (ve : Nat → Int32) (r : Nat) : Nat → Int32 := fun c => if c < 4 then ve (4 * r + c) else 0
def mvl (ve : Nat → Int32) (n : Nat) : List (Nat → Int32) := (List.range n).map (mv_row ve)
theorem mvl_s (ve : Nat → Int32) (n : Nat) : mvl ve (n + 1) = mvl ve n ++ [mv_row ve n] := by
  unfold mvl
  rw [List.range_succ, List.map_append]
  rfl
theorem mvl_c {ve ve' : Nat → Int32} {n : Nat} (h : ∀ i, i < n → ∀ c, c < 4 → ve' (4 * i + c) = ve (4 * i + c)) : mvl ve' n = mvl ve n := by
  unfold mvl
  apply List.map_congr_left
  intro i hi
  funext c
  unfold mv_row
  by_cases hc : c < 4
  · rw [if_pos hc, if_pos hc]; exact h i (List.mem_range.mp hi) c hc
  · rw [if_neg hc, if_neg hc]
theorem me_lo {f : Nat → Int32} {n r i c : Nat} (hi : i < n) (hc : c < 4) : mcp 4 f n r 4 (4 * i + c) = f (4 * i + c) := by
  unfold mcp
  rw [if_neg (by omega)]
theorem me_at {f : Nat → Int32} {n r c : Nat} (hc : c < 4) : mcp 4 f n r 4 (4 * n + c) = f (4 * r + c) := by
  unfold mcp
  rw [if_pos (by omega), show 4 * n + c - 4 * n = c by omega]
theorem me_hi {f : Nat → Int32} {n r i c : Nat} (hn : n ≤ r) (hi : r + 1 ≤ i) : mcp 4 f n r 4 (4 * i + c) = f (4 * i + c) := by
  unfold mcp
  rw [if_neg (by omega)]
theorem me_keep {ve w1 : Nat → Int32} {n r nv : Nat} (hr : r < nv) (hl : (mvl w1 n).Sublist (mvl ve r)) (hs : ∀ i c, r ≤ i → i < nv → c < 4 → w1 (4 * i + c) = ve (4 * i + c)) : (mvl (mcp 4 w1 n r 4) (n + 1)).Sublist (mvl ve (r + 1)) := by
  rw [mvl_s, mvl_s, mvl_c (ve := w1) (fun i hi c hc => me_lo hi hc)]
  have e : mv_row (mcp 4 w1 n r 4) n = mv_row ve r := by
    funext c
    unfold mv_row
    by_cases hc : c < 4
    · rw [if_pos hc, if_pos hc, me_at hc, hs r c (Nat.le_refl _) hr hc]
    · rw [if_neg hc, if_neg hc]
  rw [e]
  exact List.Sublist.append hl (List.Sublist.refl _)
theorem me_goes {ve w1 : Nat → Int32} {n r : Nat} (hl : (mvl w1 n).Sublist (mvl ve r)) : (mvl (mcp 4 w1 n r 4) n).Sublist (mvl ve (r + 1)) := by
  rw [mvl_s, mvl_c (ve := w1) (fun i hi c hc => me_lo hi hc)]
  exact hl.trans (List.sublist_append_left _ _)
def mr_hi (wh : Int32) : Int64 := if wh = 3 then 1000 else 1
/-- behind the reference's rule -/
def mo_rule (y : Nat → Int32) (wh v : Int32) : Nat → Int32 := upd (upd (upd (upd (upd y 0 0) 2 (if wh = 0 then v else y 2)) 3 (if wh = 1 then v else y 3)) 4 (if wh = 2 then v else y 4)) 5 (if wh = 3 then v else y 5)
def mo_was (y : Nat → Int32) (wh : Int32) : Int32 := if wh = 0 then y 2 else if wh = 1 then y 3 else if wh = 2 then y 4 else y 5
