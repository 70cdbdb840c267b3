/-! the reference's world -/
abbrev wM (b : Nat → Nat) (cA cB : ClassId) (y ma ve rw jn ou fo go : Nat → Int32) : va_W :=
  [(b 0, .inr (1, [.int (y 0), .int (y 1), .int (y 2), .int (y 3), .int (y 4), .int (y 5), .int (y 6), .ref (b 1), .int (y 8), .ref (b 2), .int (y 10), .ref (b 3), .ref (b 4), .int (y 13), .int (y 14), .int (y 15), .int (y 16), .int (y 17), .int (y 18), .int (y 19), .ref (b 5), .int (y 21), .ref (b 6), .ref (b 7)])),
   (b 1, .inl (cA, 3, .inl ma)), (b 2, .inl (cA, 640, .inl ve)), (b 3, .inl (cA, 576, .inl rw)), (b 4, .inl (cA, 576, .inl jn)), (b 5, .inl (cA, 2200, .inl ou)), (b 6, .inl (cA, 6, .inl fo)), (b 7, .inl (cB, 160, .inl go))]
def mr_b (si f tm : Int32) : Int32 := if ((si = 0 ∧ f ≤ tm) ∨ (¬ si = 0 ∧ f < tm)) then 1 else 0
def mo_b (ve : Nat → Int32) (i : Nat) (t k : Int32) : Int32 := if (ve (4 * i) = t ∧ ve (4 * i + 1) = k) then 1 else 0
def mi_b (x lo hi : Int64) : Int32 := if (¬ lg_cmp x lo < 0 ∧ ¬ 0 < lg_cmp x hi) then 1 else 0
def mv_at (ve : Nat → Int32) (i : Nat) (t k fr : Int32) : Prop := ¬ mo_b ve i t k = 0 ∧ ve (4 * i + 2) = fr
def mv_cnt (ve : Nat → Int32) (t k : Int32) : Nat → Nat
  | 0 => 0
  | n + 1 => mv_cnt ve t k n + (if mo_b ve n t k = 0 then 0 else 1)
