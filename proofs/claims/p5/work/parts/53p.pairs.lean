/-! time and waiting of a row -/
def pr2 (r : Nat → Int32) : Int32 × Int32 := (r 2, r 4)
def mj (ma : Nat → Int32) (nt : Nat) (p : Int32 × Int32) : Int32 × Int32 := (p.1, if p.2 = 1 ∧ (∀ c, c < nt → p.1 ≤ ma c) then 0 else p.2)
def mkp (hz : Int32) (p : Int32 × Int32) : Bool := !(decide (p.2 = 0) && decide (p.1 ≤ hz))
theorem mq_join {rw w3 ma : Nat → Int32} {n nt : Nat} (hmr : mrow rw w3 n) (h4 : m4_join rw ma w3 nt n) : (mrl w3 n).map pr2 = ((mrl rw n).map pr2).map (mj ma nt) := by
  unfold mrl
  rw [List.map_map, List.map_map, List.map_map]
  apply List.map_congr_left
  intro i hi
  have hi := List.mem_range.mp hi
  show (w3 (6 * i + 2), w3 (6 * i + 4)) = (rw (6 * i + 2), if rw (6 * i + 4) = 1 ∧ (∀ c, c < nt → rw (6 * i + 2) ≤ ma c) then 0 else rw (6 * i + 4))
  rw [hmr i hi 2 (by decide), h4 i hi]
  by_cases q : ∀ c, c < nt → rw (6 * i + 2) ≤ ma c
  · have e : ¬ mc_b rw ma i nt = 0 := by
      unfold mc_b
      rw [if_pos q]
      decide
    by_cases z : rw (6 * i + 4) = 1
    · rw [if_pos ⟨z, e⟩, if_pos ⟨z, q⟩]
    · rw [if_neg (fun w => z w.1), if_neg (fun w => z w.1)]
  · have e : mc_b rw ma i nt = 0 := by
      unfold mc_b
      rw [if_neg q]
    rw [if_neg (fun w => w.2 e), if_neg (fun w => q w.2)]
theorem mq_keep {rw w3 : Nat → Int32} {n : Nat} (hmr : mrow rw w3 n) (h4 : m4_keep rw w3 n) : (mrl w3 n).map pr2 = (mrl rw n).map pr2 := by
  unfold mrl
  rw [List.map_map, List.map_map]
  apply List.map_congr_left
  intro i hi
  have hi := List.mem_range.mp hi
  show (w3 (6 * i + 2), w3 (6 * i + 4)) = (rw (6 * i + 2), rw (6 * i + 4))
  rw [hmr i hi 2 (by decide), h4 i hi]
theorem mrl_new {rw : Nat → Int32} {n : Nat} {v0 v1 v2 v3 v4 v5 : Int32} : (mrl (mr_new rw n v0 v1 v2 v3 v4 v5) (n + 1)).map pr2 = (mrl rw n).map pr2 ++ [(v2, v4)] := by
  rw [mrl_s, List.map_append, mrl_c (rw := rw) (fun i hi c hc => by
    unfold mr_new
    rw [pk_un (by omega), pk_un (by omega), pk_un (by omega), pk_un (by omega), pk_un (by omega), pk_un (by omega)])]
  have e2 : mr_new rw n v0 v1 v2 v3 v4 v5 (6 * n + 2) = v2 := by
    unfold mr_new
    rw [pk_un (by omega), pk_un (by omega), pk_un (by omega), pk_us]
  have e4 : mr_new rw n v0 v1 v2 v3 v4 v5 (6 * n + 4) = v4 := by
    unfold mr_new
    rw [pk_un (by omega), pk_us]
  show _ ++ [(mr_new rw n v0 v1 v2 v3 v4 v5 (6 * n + 2), mr_new rw n v0 v1 v2 v3 v4 v5 (6 * n + 4))] = _
  rw [e2, e4]
theorem mq_row_of {rw w3 ma : Nat → Int32} {nr nt : Nat} {v0 v1 tm v3 v5 : Int32} (hmr : mrow (mr_new rw nr v0 v1 tm v3 1 v5) w3 (nr + 1)) (h4 : m4_join (mr_new rw nr v0 v1 tm v3 1 v5) ma w3 nt (nr + 1)) : (mrl w3 (nr + 1)).map pr2 = ((mrl rw nr).map pr2 ++ [(tm, 1)]).map (mj ma nt) := by
  rw [mq_join hmr h4, mrl_new]
theorem mq_mark_of {rw w3 w4 ma : Nat → Int32} {nr nt n1 : Nat} {hz : Int32} (hmr : mrow rw w3 nr) (h4 : m4_join rw ma w3 nt nr) (hf : mrl w4 n1 = (mrl w3 nr).filter (mkeep hz)) : (mrl w4 n1).map pr2 = (((mrl rw nr).map pr2).map (mj ma nt)).filter (mkp hz) := by
  rw [hf, ← mq_join hmr h4, List.filter_map]
  rfl
def mq_row (y ma rw : Nat → Int32) (tm r : Int32) (y' w' : Nat → Int32) : Prop :=
  ((r = -1 ∨ r = -4 ∨ r = -3) ∧ w' = rw ∧ y' 13 = y 13 ∧ y' 14 = y 14) ∨
  (∃ nt nr c : Nat, y 1 = nI nt ∧ nt ≤ 3 ∧ y 13 = nI nr ∧ nr < 96 ∧ y 14 = nI c ∧ c < 30000 ∧ r = nI c ∧ y' 13 = nI (nr + 1) ∧ y' 14 = nI (c + 1) ∧ (mrl w' (nr + 1)).map pr2 = ((mrl rw nr).map pr2 ++ [(tm, 1)]).map (mj ma nt))
def mq_change (y rw y' w' : Nat → Int32) : Prop := ∃ nr, y 13 = nI nr ∧ nr ≤ 96 ∧ y' 13 = y 13 ∧ y' 14 = y 14 ∧ (mrl w' nr).map pr2 = (mrl rw nr).map pr2
