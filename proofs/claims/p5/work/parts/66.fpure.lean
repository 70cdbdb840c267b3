/-! where nothing is there -/
theorem vs_asof_nil {V : List (Nat → Int32)} {pl r : Int32} {k : Nat} (hV : V = []) (h : vs_asof V pl k r) : r = -1 := by
  subst hV
  rcases h with ⟨r0, -, h2, -⟩ | ⟨-, h2⟩
  · cases h2
  · exact h2
