/-! the reference: its constructor -/
section MC
variable {D : (Nat → ClassId) × (Nat → Nat → Nat)} {cl : List vw_C} {s : State}
theorem mk_cA3 {cA cB cX : ClassId} (h : va_K D cl [(cA, .int), (cB, .boolean), (cX, .int)] s) : cA = cX := Option.some.inj ((h.2 0 _ rfl).2.symm.trans (h.2 2 _ rfl).2)
theorem mk_cB3 {cA cB cX : ClassId} (h : va_K D cl [(cA, .int), (cB, .boolean), (cX, .boolean)] s) : cB = cX := Option.some.inj ((h.2 1 _ rfl).2.symm.trans (h.2 2 _ rfl).2)
end MC
def ad8 (a0 a1 a2 a3 a4 a5 a6 a7 : Nat) : Nat → Nat := fun k => match k with
  | 0 => a0
  | 1 => a1
  | 2 => a2
  | 3 => a3
  | 4 => a4
  | 5 => a5
  | 6 => a6
  | _ => a7
theorem mi_ok0 : mi_ok (fun _ => 0) (fun _ => 0) (fun _ => 0) :=
  ⟨0, 0, 0, 0, 0, rfl, by decide, rfl, by decide, rfl, by decide, rfl, by decide, rfl, by decide, List.Pairwise.nil, fun _ h => absurd h List.not_mem_nil, List.Pairwise.nil, fun _ => ⟨rfl, rfl, rfl⟩⟩
