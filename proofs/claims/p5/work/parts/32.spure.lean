/-! the VERSIONS' order -/
def vs_lt (a b : Nat → Int32) : Prop := a 2 < b 2 ∨ (a 2 = b 2 ∧ a 0 < b 0)
def vs_sorted (V : List (Nat → Int32)) : Prop := ∀ (i j : Nat) (ri rj : Nat → Int32), i < j → V[i]? = some ri → V[j]? = some rj → vs_lt ri rj
theorem vs_lt_nb {a b : Nat → Int32} {pl fr : Int32} (h : vs_lt a b) (hb : vs_nb pl fr b) : vs_nb pl fr a := by
  unfold vs_lt at h
  unfold vs_nb at *
  rw [Int32.lt_iff_toInt_lt, Int32.lt_iff_toInt_lt, ← Int32.toInt_inj] at h
  rw [Int32.lt_iff_toInt_lt, Int32.le_iff_toInt_le, ← Int32.toInt_inj] at hb ⊢
  omega
theorem vs_cuts {V : List (Nat → Int32)} (hs : vs_sorted V) (pl fr : Int32) : ∃ k, vs_cut V pl fr k := by
  have key : ∀ n, n ≤ V.length → ∃ k, k ≤ n ∧ ∀ (i : Nat) (r : Nat → Int32), i < n → V[i]? = some r → (i < k ↔ vs_nb pl fr r) := by
    intro n
    induction n with
    | zero => exact fun _ => ⟨0, Nat.le_refl _, fun i r h => absurd h (Nat.not_lt_zero _)⟩
    | succ n ih =>
      intro hn
      have hr : V[n]? = some (V[n]'(by omega)) := List.getElem?_eq_getElem (by omega)
      by_cases hb : vs_nb pl fr (V[n]'(by omega))
      · refine ⟨n + 1, Nat.le_refl _, fun i r hi h => ⟨fun _ => ?_, fun _ => hi⟩⟩
        rcases Nat.lt_or_ge i n with q | q
        · exact vs_lt_nb (hs i n r _ q h hr) hb
        · obtain rfl : i = n := by omega
          rw [hr] at h
          rw [← Option.some.inj h]
          exact hb
      · obtain ⟨k, hk, h⟩ := ih (by omega)
        refine ⟨k, by omega, fun i r hi hir => ?_⟩
        rcases Nat.lt_or_ge i n with q | q
        · exact h i r q hir
        · obtain rfl : i = n := by omega
          rw [hr] at hir
          rw [← Option.some.inj hir]
          exact ⟨fun z => absurd z (by omega), fun z => absurd z hb⟩
  obtain ⟨k, hk, h⟩ := key V.length (Nat.le_refl _)
  exact ⟨k, hk, fun i r hir => h i r (List.getElem?_eq_some_iff.mp hir).1 hir⟩
theorem vs_lt_c {a b a' b' : Nat → Int32} (ha2 : a' 2 = a 2) (ha0 : a' 0 = a 0) (hb2 : b' 2 = b 2) (hb0 : b' 0 = b 0) (h : vs_lt a b) : vs_lt a' b' := by
  unfold vs_lt at *
  rw [ha2, ha0, hb2, hb0]
  exact h
theorem vs_put_sorted {V V' : List (Nat → Int32)} {pl fr vl : Int32} {k : Nat} (hs : vs_sorted V) (hc : vs_cut V pl fr k) (hp : vs_put V pl fr vl k V') : vs_sorted V' := by
  rcases hp with ⟨r0, h0, hr, e2, e0, rfl⟩ | ⟨hm, r1, f0, -, f2, rfl⟩
  · have col : ∀ (i : Nat) (r : Nat → Int32), (V.set (k - 1) (upd r0 1 vl))[i]? = some r → ∃ r', V[i]? = some r' ∧ r 2 = r' 2 ∧ r 0 = r' 0 := by
      intro i r h
      rw [List.getElem?_set] at h
      by_cases q : k - 1 = i
      · subst q
        rw [if_pos rfl, if_pos (List.getElem?_eq_some_iff.mp hr).1] at h
        obtain rfl := Option.some.inj h
        exact ⟨r0, hr, rfl, rfl⟩
      · rw [if_neg q] at h
        exact ⟨r, h, rfl, rfl⟩
    intro i j ri rj hij hi hj
    obtain ⟨ri', hi', a1, a2⟩ := col i ri hi
    obtain ⟨rj', hj', b1, b2⟩ := col j rj hj
    exact vs_lt_c a1 a2 b1 b2 (hs i j ri' rj' hij hi' hj')
  · have lo : ∀ (i : Nat) (r : Nat → Int32), i < k → V[i]? = some r → vs_lt r r1 := by
      intro i r hi hr
      have h1 := (hc.2 i r hr).mp hi
      unfold vs_lt
      rw [f2, f0]
      rcases h1 with h1 | ⟨h1, h2⟩
      · exact Or.inl h1
      · refine Or.inr ⟨h1, ?_⟩
        have hkk : k - 1 < V.length := by have := hc.1; omega
        have hr2 : V[k - 1]? = some (V[k - 1]'hkk) := List.getElem?_eq_getElem hkk
        have h3 := (hc.2 (k - 1) _ hr2).mp (by omega)
        have h4 := hm _ (by omega) hr2
        rcases Nat.lt_or_ge i (k - 1) with q | q
        · have h5 := hs i (k - 1) r _ q hr hr2
          unfold vs_lt at h5
          unfold vs_nb at h3
          rw [Int32.lt_iff_toInt_lt, Int32.le_iff_toInt_le, ← Int32.toInt_inj] at h3
          rw [Int32.lt_iff_toInt_lt, Int32.lt_iff_toInt_lt, ← Int32.toInt_inj, h1] at h5
          rw [Int32.lt_iff_toInt_lt]
          omega
        · obtain rfl : i = k - 1 := by omega
          rw [hr2] at hr
          obtain rfl := Option.some.inj hr
          rw [Int32.le_iff_toInt_le] at h2
          rw [Int32.lt_iff_toInt_lt]
          have h6 : ¬ ((V[k - 1]'hkk) 0).toInt = fr.toInt := fun z => h4 ⟨h1, Int32.toInt_inj.mp z⟩
          omega
    have hi' : ∀ (i : Nat) (r : Nat → Int32), k ≤ i → V[i]? = some r → vs_lt r1 r := by
      intro i r hi hr
      have h1 : ¬ vs_nb pl fr r := fun z => absurd ((hc.2 i r hr).mpr z) (by omega)
      unfold vs_nb at h1
      unfold vs_lt
      rw [f2, f0]
      rw [Int32.lt_iff_toInt_lt, Int32.le_iff_toInt_le, ← Int32.toInt_inj] at h1
      rw [Int32.lt_iff_toInt_lt, Int32.lt_iff_toInt_lt, ← Int32.toInt_inj]
      omega
    intro i j ri rj hij hri hrj
    rw [ls_ins hc.1] at hri hrj
    by_cases h1 : i < k
    · rw [if_pos h1] at hri
      by_cases h2 : j < k
      · rw [if_pos h2] at hrj; exact hs i j ri rj hij hri hrj
      · rw [if_neg h2] at hrj
        by_cases h3 : j = k
        · rw [if_pos h3] at hrj; obtain rfl := Option.some.inj hrj; exact lo i ri h1 hri
        · rw [if_neg h3] at hrj; exact hs i (j - 1) ri rj (by omega) hri hrj
    · rw [if_neg h1] at hri
      rw [if_neg (by omega), if_neg (by omega)] at hrj
      by_cases h3 : i = k
      · rw [if_pos h3] at hri; obtain rfl := Option.some.inj hri; exact hi' (j - 1) rj (by omega) hrj
      · rw [if_neg h3] at hri; exact hs (i - 1) (j - 1) ri rj (by omega) hri hrj
/-- a property of each line -/
def vs_all (P : (Nat → Int32) → Prop) (V : List (Nat → Int32)) : Prop := ∀ (i : Nat) (r : Nat → Int32), V[i]? = some r → P r
theorem vs_all_mem {P : (Nat → Int32) → Prop} {V : List (Nat → Int32)} : vs_all P V ↔ ∀ r ∈ V, P r :=
  ⟨fun h r hr => by obtain ⟨i, hi⟩ := List.getElem?_of_mem hr; exact h i r hi, fun h i r hi => h r (List.mem_of_getElem? hi)⟩
theorem vs_all_set {P : (Nat → Int32) → Prop} {V : List (Nat → Int32)} {i : Nat} {x : Nat → Int32} (h : vs_all P V) (hx : P x) : vs_all P (V.set i x) := by
  rw [vs_all_mem] at *
  intro r hr
  rcases List.mem_or_eq_of_mem_set hr with q | q
  · exact h r q
  · rw [q]; exact hx
theorem vs_all_ins {P : (Nat → Int32) → Prop} {V : List (Nat → Int32)} {k : Nat} {x : Nat → Int32} (h : vs_all P V) (hx : P x) : vs_all P (V.take k ++ x :: V.drop k) := by
  rw [vs_all_mem] at *
  intro r hr
  rcases List.mem_append.mp hr with q | q
  · exact h r (List.mem_of_mem_take q)
  · rcases List.mem_cons.mp q with q | q
    · rw [q]; exact hx
    · exact h r (List.mem_of_mem_drop q)
theorem vs_all_map {P : (Nat → Int32) → Prop} {V : List (Nat → Int32)} {F : (Nat → Int32) → (Nat → Int32)} (h : vs_all P V) (hF : ∀ r, P r → P (F r)) : vs_all P (V.map F) := by
  rw [vs_all_mem] at *
  intro r hr
  obtain ⟨r', h1, rfl⟩ := List.mem_map.mp hr
  exact hF r' (h r' h1)
theorem vs_all_filter {P : (Nat → Int32) → Prop} {V : List (Nat → Int32)} {q : (Nat → Int32) → Bool} (h : vs_all P V) : vs_all P (V.filter q) := by
  rw [vs_all_mem] at *
  exact fun r hr => h r (List.mem_filter.mp hr).1
/-- a VERSION's place is one of 48 -/
def vs_pl (r : Nat → Int32) : Prop := ∃ p9, p9 < 48 ∧ r 2 = nI p9
/-- a ROW's KEY is one of 16 -/
def rs_ky (r : Nat → Int32) : Prop := ∃ kn, kn < 16 ∧ r 1 = nI kn
theorem vs_put_pl {V V' : List (Nat → Int32)} {fr vl : Int32} {k p : Nat} (h : vs_all vs_pl V) (hp9 : p < 48) (hp : vs_put V (nI p) fr vl k V') : vs_all vs_pl V' := by
  rcases hp with ⟨r0, h0, hr, e2, e0, rfl⟩ | ⟨hm, r1, f0, -, f2, rfl⟩
  · exact vs_all_set h ⟨p, hp9, e2⟩
  · exact vs_all_ins h ⟨p, hp9, f2⟩
theorem vs_put_len {V V' : List (Nat → Int32)} {pl fr vl : Int32} {k : Nat} (hk : k ≤ V.length) (hp : vs_put V pl fr vl k V') : V'.length ≤ V.length + 1 := by
  rcases hp with ⟨r0, h0, hr, e2, e0, rfl⟩ | ⟨hm, r1, f0, -, f2, rfl⟩
  · rw [List.length_set]; omega
  · rw [ls_ins_len hk]; omega
theorem vs_cut_mono {V : List (Nat → Int32)} {pl f1 f2 : Int32} {k1 k2 : Nat} (h1 : vs_cut V pl f1 k1) (h2 : vs_cut V pl f2 k2) (hf : f1 ≤ f2) : k1 ≤ k2 := by
  rcases Nat.lt_or_ge k2 k1 with q | q
  · have hk : k2 < V.length := by have := h1.1; omega
    have hr : V[k2]? = some (V[k2]'hk) := List.getElem?_eq_getElem hk
    have a := (h1.2 k2 _ hr).mp q
    have b : vs_nb pl f2 (V[k2]'hk) := by
      rcases a with a | ⟨a, b⟩
      · exact Or.inl a
      · refine Or.inr ⟨a, ?_⟩
        rw [Int32.le_iff_toInt_le] at *
        omega
    exact absurd ((h2.2 k2 _ hr).mpr b) (Nat.lt_irrefl _)
  · exact q
theorem jr_ky {V : List (Nat → Int32)} {ru : Nat → Int32} {n : Nat} {low : Int32} (r : Nat → Int32) (h : rs_ky r) : rs_ky (jr_row V ru n low r) := by
  obtain ⟨kn, h1, h2⟩ := h
  refine ⟨kn, h1, ?_⟩
  unfold jr_row
  split
  · exact h2
  · exact h2
theorem cw_ky {V : List (Nat → Int32)} {ru : Nat → Int32} {n : Nat} {ky : Int32} (r : Nat → Int32) (h : rs_ky r) : rs_ky (cw_row V ru n ky r) := by
  obtain ⟨kn, h1, h2⟩ := h
  refine ⟨kn, h1, ?_⟩
  unfold cw_row cr_new
  split
  · split
    · exact h2
    · exact h2
  · exact h2
