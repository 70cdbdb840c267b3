/-! the law's start -/
section ST
variable {D : va_G} {cl : List vw_C} {args : Array Value} {s : State}
theorem mk_cB_of {cA : ClassId} (h : (Cond.arrayClass .boolean).before args s = true) (hK : va_K D cl [(cA, .int)] s) : ∃ cB, va_K D cl [(cA, .int), (cB, .boolean)] s := by
  obtain ⟨cB, kA, comp, h1, h2, h3⟩ := Cond.arrayClass_spec h
  refine ⟨cB, hK.1, fun k q hk => ?_⟩
  have hz : k < 2 := (List.getElem?_eq_some_iff.mp hk).1
  rcases (show k = 0 ∨ k = 1 by omega) with rfl | rfl
  · cases hk
    exact hK.2 0 _ rfl
  · cases hk
    exact ⟨fun n z => ⟨fun k h => (by cases h), kA, h2, comp, h3⟩, h1⟩
end ST
theorem xi_ok0 : xi_ok (fun _ => 0) [] (fun _ => 0) [] (fun _ => 0) [] (fun _ => 0) 0 :=
  ⟨⟨fun i r h => (by cases h), by decide, by decide, by decide, by decide⟩, ⟨fun i r h => (by cases h), by decide, by decide, by decide, by decide⟩, ⟨fun i r h => (by cases h), by decide, by decide, by decide, by decide⟩, fun i j ri rj _ h => (by cases h), fun i r h => (by cases h), fun i r h => (by cases h), rfl, by decide⟩
