def mq_done (y ma' rw y' w' : Nat → Int32) : Prop := ∃ nt nr n' : Nat, y 1 = nI nt ∧ nt ≤ 3 ∧ y 13 = nI nr ∧ nr ≤ 96 ∧ n' ≤ nr ∧ y' 13 = nI n' ∧ y' 14 = y 14 ∧ (mrl w' n').map pr2 = (((mrl rw nr).map pr2).map (mj ma' nt)).filter (mkp (y' 8 - y' 5))
def mq_mark (y ma rw : Nat → Int32) (t tm : Int32) (y' ma' w' : Nat → Int32) : Prop :=
  ((mm_bad y t tm ∨ (¬ 0 ≤ t ∧ ¬ y 8 < tm) ∨ (∃ t' : Nat, t' < 3 ∧ t = nI t' ∧ ¬ ma t' < tm)) ∧ w' = rw ∧ y' 13 = y 13 ∧ y' 14 = y 14) ∨
  (¬ mm_bad y t tm ∧ ((¬ 0 ≤ t ∧ y 8 < tm) ∨ (∃ t' : Nat, t' < 3 ∧ t = nI t' ∧ ma t' < tm)) ∧ mq_done y ma' rw y' w')
