/-! the public methods -/
def xi_ok (x : Nat → Int32) (V : List (Nat → Int32)) (fV : Nat → Int32) (R : List (Nat → Int32)) (fR : Nat → Int32) (Lo : List (Nat → Int32)) (fO : Nat → Int32) (n3 : Nat) : Prop :=
  sh_wf 3 160 fV V ∧ sh_wf 12 96 fR R ∧ sh_wf 11 192 fO Lo ∧ vs_sorted V ∧ vs_all vs_pl V ∧ vs_all rs_ky R ∧ x 6 = nI n3 ∧ n3 ≤ 3
def xr_bad (wh v : Int32) : Prop := wh < 0 ∨ 4 ≤ wh ∨ v < 0 ∨ (wh = 3 ∧ 1000 < v) ∨ (¬ wh = 3 ∧ 1 < v)
theorem xr_ok {wh v : Int32} (h1 : ¬ wh < 0) (h2 : ¬ 4 ≤ wh) (h3 : ¬ v < 0) (h4 : (wh = 3 ∧ v ≤ 1000) ∨ (¬ wh = 3 ∧ v ≤ 1)) : ¬ xr_bad wh v := by
  intro q
  rcases q with q | q | q | q | q
  · exact h1 q
  · exact h2 q
  · exact h3 q
  · rcases h4 with h | h
    · exact sh_nlt h.2 q.2
    · exact h.1 q.1
  · rcases h4 with h | h
    · exact q.1 h.1
    · exact sh_nlt h.2 q.2
theorem xk_nat {k : Int32} (h : ¬ xk_b k = 0) : ∃ kn : Nat, kn < 16 ∧ k = nI kn := by
  have h2 := rs_n2 h
  exact sh_nat (n := 16) (by decide) h2.1 h2.2
