set_option maxHeartbeats 4000000 in
set_option maxRecDepth 100000 in
/-- size() -/
theorem c_Sh_size (l : Launch) (dC : Nat → ClassId) (dI : Nat → Nat → Nat) (cA : ClassId) (sz : Nat) (h b w lim : Nat) (f : Nat → Int32) (L : List (Nat → Int32)) (hwf : sh_wf w lim f L) : Met l qy_S_size qw_S_size ({ frames := 0, cells := 0, slots := 0, locals := 0 }) (mk_ro [.ref h] sz (dC, dI) vwCl [(cA, .int)] (wS h b cA w lim L.length f)) (mk_roQ (fun r => r = nI L.length) sz) 0 0 (mk_new sz) := by
  refine Met.ofW (cc := qb_S_size) (maxL := 1) (ret := (some .int)) (by decide) rfl ?_
  intro p e s m args below meth c s₁ B hml hpre
  obtain ⟨rfl, hsz, hP, hK⟩ := hpre
  have hx := B.exec
  have hb := B.bytes
  have hr := B.returns
  have hts0 := atoms_spec (ws := qw_S_size) B.pre
  have hts := fun w (h : w ∈ lw_gd) => hts0 w (List.mem_cons_of_mem _ h)
  have hown : s.vm.findClass qR_S = some m.cls := findClass_of_methodNamed B.named
  have hlocks := B.notSynchronized
  subst hsz
  have hA : ∀ q : Nat, s.heap.size ≤ q → mk_new s.heap.size q := fun _ h => h
  have hS : va_S (mk_new s.heap.size) s.heap s.heap [] := va_S.rf
  have hl := lv_entry ([.ref h]) (n := 1) (Nat.le_of_ble_eq_true rfl)
  rw [lg_entry_eq]
  generalize (lg_sl ([.ref h]) ++ List.replicate (1 - (lg_sl ([.ref h])).length) Slot.unset).toArray = ls at hl ⊢
  have hl : lv_has ls 1 [(0, .ref h)] := hl
  have hP : va_P (dC, dI) vwCl (wS h b cA w lim L.length f) s.heap := hP
  refine mk_start (A := (mk_new s.heap.size)) hP (fun H locs hP hS => ?_)
  refine lv_aload_n hx hb qd_S_size_0 rfl (lv_at hl 0 rfl) ?_
  refine va_get (D := (dC, dI)) (ci := 4) (v := .int (nI L.length)) (C := qR_S) (T := qT_S) (N := 4) hx hb hts qin_S hown hK hP 0 rfl rfl 3 (by decide) (hts _ mw_69) (fun _ h9 => h9) rfl qd_S_size_1 ?_
  exact mk_iret hx hb hr hlocks hS qd_S_size_4 (rfl)
set_option maxHeartbeats 4000000 in
set_option maxRecDepth 100000 in
/-- get(line, column) -/
theorem c_Sh_get (l : Launch) (dC : Nat → ClassId) (dI : Nat → Nat → Nat) (cA : ClassId) (sz : Nat) (h b w lim : Nat) (f : Nat → Int32) (L : List (Nat → Int32)) (hwf : sh_wf w lim f L) (i j : Int32) : Met l qy_S_get qw_S_get ({ frames := 0, cells := 0, slots := 0, locals := 0 }) (mk_ro [.ref h, .int i, .int j] sz (dC, dI) vwCl [(cA, .int)] (wS h b cA w lim L.length f)) (mk_roQ (fun r => r = sh_get w L i j) sz) 0 0 (mk_new sz) := by
  refine Met.ofW (cc := qb_S_get) (maxL := 3) (ret := (some .int)) (by decide) rfl ?_
  intro p e s m args below meth c s₁ B hml hpre
  obtain ⟨rfl, hsz, hP, hK⟩ := hpre
  have hx := B.exec
  have hb := B.bytes
  have hr := B.returns
  have hts0 := atoms_spec (ws := qw_S_get) B.pre
  have hts := fun w (h : w ∈ lw_gd) => hts0 w (List.mem_cons_of_mem _ h)
  have hown : s.vm.findClass qR_S = some m.cls := findClass_of_methodNamed B.named
  have hlocks := B.notSynchronized
  subst hsz
  have hA : ∀ q : Nat, s.heap.size ≤ q → mk_new s.heap.size q := fun _ h => h
  have hS : va_S (mk_new s.heap.size) s.heap s.heap [] := va_S.rf
  have hl := lv_entry ([.ref h, .int i, .int j]) (n := 3) (Nat.le_of_ble_eq_true rfl)
  rw [lg_entry_eq]
  generalize (lg_sl ([.ref h, .int i, .int j]) ++ List.replicate (3 - (lg_sl ([.ref h, .int i, .int j])).length) Slot.unset).toArray = ls at hl ⊢
  have hl : lv_has ls 3 [(0, .ref h), (1, .int i), (2, .int j)] := hl
  have hP : va_P (dC, dI) vwCl (wS h b cA w lim L.length f) s.heap := hP
  refine mk_start (A := (mk_new s.heap.size)) hP (fun H locs hP hS => ?_)
  obtain ⟨hok, hlen, hwl, hw1, hl1⟩ := hwf
  refine lv_iload_n hx hb qd_S_get_0 rfl (lv_at hl 1 rfl) ?_
  refine lv_if_lt (tgt := 24) hx hb qd_S_get_1 (by decide) (fun c_1 => ?_) (fun c_1 => ?_)
  · refine lv_bipush (v := (-2)) hx hb qd_S_get_24 (by decide) ?_
    exact mk_iret hx hb hr hlocks hS qd_S_get_26 ((sh_get_out (by first | exact Or.inl c_1 | exact Or.inr (Or.inl c_1) | exact Or.inr (Or.inr (Or.inl c_1)) | exact Or.inr (Or.inr (Or.inr (sh_le_of c_1))))).symm)
  · refine lv_iload_n hx hb qd_S_get_4 rfl (lv_at hl 1 rfl) ?_
    refine lv_aload_n hx hb qd_S_get_5 rfl (lv_at hl 0 rfl) ?_
    refine va_get (D := (dC, dI)) (ci := 4) (v := .int (nI L.length)) (C := qR_S) (T := qT_S) (N := 4) hx hb hts qin_S hown hK hP 0 rfl rfl 3 (by decide) (hts _ mw_69) (fun _ h9 => h9) rfl qd_S_get_6 ?_
    refine lv_icmp_ge (tgt := 24) hx hb qd_S_get_9 (by decide) (fun c_2 => ?_) (fun c_2 => ?_)
    · refine lv_bipush (v := (-2)) hx hb qd_S_get_24 (by decide) ?_
      exact mk_iret hx hb hr hlocks hS qd_S_get_26 ((sh_get_out (by first | exact Or.inl c_2 | exact Or.inr (Or.inl c_2) | exact Or.inr (Or.inr (Or.inl c_2)) | exact Or.inr (Or.inr (Or.inr (sh_le_of c_2))))).symm)
    · refine lv_iload_n hx hb qd_S_get_12 rfl (lv_at hl 2 rfl) ?_
      refine lv_if_lt (tgt := 24) hx hb qd_S_get_13 (by decide) (fun c_3 => ?_) (fun c_3 => ?_)
      · refine lv_bipush (v := (-2)) hx hb qd_S_get_24 (by decide) ?_
        exact mk_iret hx hb hr hlocks hS qd_S_get_26 ((sh_get_out (by first | exact Or.inl c_3 | exact Or.inr (Or.inl c_3) | exact Or.inr (Or.inr (Or.inl c_3)) | exact Or.inr (Or.inr (Or.inr (sh_le_of c_3))))).symm)
      · refine lv_iload_n hx hb qd_S_get_16 rfl (lv_at hl 2 rfl) ?_
        refine lv_aload_n hx hb qd_S_get_17 rfl (lv_at hl 0 rfl) ?_
        refine va_get (D := (dC, dI)) (ci := 4) (v := .int (nI w)) (C := qR_S) (T := qT_S) (N := 4) hx hb hts qin_S hown hK hP 0 rfl rfl 0 (by decide) (hts _ mw_66) (fun _ h9 => h9) rfl qd_S_get_18 ?_
        refine lv_icmp_lt (tgt := 27) hx hb qd_S_get_21 (by decide) (fun c_4 => ?_) (fun c_4 => ?_)
        · refine lv_aload_n hx hb qd_S_get_27 rfl (lv_at hl 0 rfl) ?_
          refine va_get (D := (dC, dI)) (ci := 4) (v := .ref b) (C := qR_S) (T := qT_S) (N := 4) hx hb hts qin_S hown hK hP 0 rfl rfl 2 (by decide) (hts _ mw_68) (fun _ h9 => h9) rfl qd_S_get_28 ?_
          refine lv_iload_n hx hb qd_S_get_31 rfl (lv_at hl 1 rfl) ?_
          refine lv_aload_n hx hb qd_S_get_32 rfl (lv_at hl 0 rfl) ?_
          refine va_get (D := (dC, dI)) (ci := 4) (v := .int (nI w)) (C := qR_S) (T := qT_S) (N := 4) hx hb hts qin_S hown hK hP 0 rfl rfl 0 (by decide) (hts _ mw_66) (fun _ h9 => h9) rfl qd_S_get_33 ?_
          refine lv_imul hx hb qd_S_get_36 ?_
          refine lv_iload_n hx hb qd_S_get_37 rfl (lv_at hl 2 rfl) ?_
          refine lv_iadd hx hb qd_S_get_38 ?_
          obtain ⟨i', hi', ei⟩ := sh_nat (n := L.length) (by omega) c_1 c_2
          obtain ⟨j', hj', ej⟩ := sh_nat (n := w) (by omega) c_3 (sh_nle c_4)
          have hix := sh_ix hi' hlen hj'
          refine mk_rw (y := nI (i' * w + j')) (by rw [ei, ej, pk_mul, nI_add]) ?_
          refine va_iald (i := (nI (i' * w + j'))) hx hb hK hP 1 0 rfl rfl (vp_in_nI (by omega) (by omega)) qd_S_get_39 ?_
          refine mk_rw (y := f (i' * w + j')) (congrArg _ (nI_clamp (by omega))) ?_
          exact mk_iret hx hb hr hlocks hS qd_S_get_40 (by rw [ei, ej]; exact sh_get_ok hok (by omega) (by omega) hi' hj')
        · refine lv_bipush (v := (-2)) hx hb qd_S_get_24 (by decide) ?_
          exact mk_iret hx hb hr hlocks hS qd_S_get_26 ((sh_get_out (by first | exact Or.inl c_4 | exact Or.inr (Or.inl c_4) | exact Or.inr (Or.inr (Or.inl c_4)) | exact Or.inr (Or.inr (Or.inr (sh_le_of c_4))))).symm)
set_option maxHeartbeats 4000000 in
set_option maxRecDepth 100000 in
/-- set(line, column, v), the line and the column there -/
theorem c_Sh_set (l : Launch) (dC : Nat → ClassId) (dI : Nat → Nat → Nat) (cA : ClassId) (sz : Nat) (h b w lim : Nat) (f : Nat → Int32) (L : List (Nat → Int32)) (hwf : sh_wf w lim f L) (i' j' : Nat) (v : Int32) (r0 : Nat → Int32) (hr0 : L[i']? = some r0) (hj : j' < w) : Met l qy_S_set qw_S_set ({ frames := 0, cells := 0, slots := 0, locals := 0 }) (mk_mu [.ref h, .int (nI i'), .int (nI j'), .int v] sz (dC, dI) vwCl [(cA, .int)] (wS h b cA w lim L.length f)) (mk_muV (S := List (Nat → Int32) × (Nat → Int32)) (fun u => u.1 = L.set i' (upd r0 j' v) ∧ sh_ok w u.2 u.1) (fun u => wS h b cA w lim u.1.length u.2) (dC, dI) vwCl [(cA, .int)] (va_A (wS h b cA w lim L.length f) sz)) 0 0 (va_A (wS h b cA w lim L.length f) sz) := by
  refine Met.ofW (cc := qb_S_set) (maxL := 4) (ret := none) (by decide) rfl ?_
  intro p e s m args below meth c s₁ B hml hpre
  obtain ⟨rfl, hsz, hP, hK, hD0⟩ := hpre
  have hx := B.exec
  have hb := B.bytes
  have hr := B.returns
  have hts0 := atoms_spec (ws := qw_S_set) B.pre
  have hts := fun w (h : w ∈ lw_gd) => hts0 w (List.mem_cons_of_mem _ h)
  have hown : s.vm.findClass qR_S = some m.cls := findClass_of_methodNamed B.named
  have hlocks := B.notSynchronized
  subst hsz
  have hD := hD0.self (sz := s.heap.size)
  generalize hAe : va_A (wS h b cA w lim L.length f) s.heap.size = A at hD ⊢
  have hA : ∀ q : Nat, s.heap.size ≤ q → A q := fun q h => by rw [← hAe]; exact Or.inr h
  have hS : va_S A s.heap s.heap [] := va_S.rf
  have hl := lv_entry ([.ref h, .int (nI i'), .int (nI j'), .int v]) (n := 4) (Nat.le_of_ble_eq_true rfl)
  rw [lg_entry_eq]
  generalize (lg_sl ([.ref h, .int (nI i'), .int (nI j'), .int v]) ++ List.replicate (4 - (lg_sl ([.ref h, .int (nI i'), .int (nI j'), .int v])).length) Slot.unset).toArray = ls at hl ⊢
  have hl : lv_has ls 4 [(0, .ref h), (1, .int (nI i')), (2, .int (nI j')), (3, .int v)] := hl
  have hP : va_P (dC, dI) vwCl (wS h b cA w lim L.length f) s.heap := hP
  refine mk_start (A := A) hP (fun H locs hP hS => ?_)
  obtain ⟨hok, hlen, hwl, hw1, hl1⟩ := hwf
  have hi' : i' < L.length := (List.getElem?_eq_some_iff.mp hr0).1
  have hix := sh_ix hi' hlen hj
  refine lv_iload_n hx hb qd_S_set_0 rfl (lv_at hl 1 rfl) ?_
  refine lv_if_lt (tgt := 24) hx hb qd_S_set_1 (by decide) (fun c_1 => ?_) (fun c_1 => ?_)
  · exact absurd c_1 (nI_pos (by omega))
  · refine lv_iload_n hx hb qd_S_set_4 rfl (lv_at hl 1 rfl) ?_
    refine lv_aload_n hx hb qd_S_set_5 rfl (lv_at hl 0 rfl) ?_
    refine va_get (D := (dC, dI)) (ci := 4) (v := .int (nI L.length)) (C := qR_S) (T := qT_S) (N := 4) hx hb hts qin_S hown hK hP 0 rfl rfl 3 (by decide) (hts _ mw_69) (fun _ h9 => h9) rfl qd_S_set_6 ?_
    refine lv_icmp_ge (tgt := 24) hx hb qd_S_set_9 (by decide) (fun c_2 => ?_) (fun c_2 => ?_)
    · exact absurd c_2 (nI_ge hi' (by omega))
    · refine lv_iload_n hx hb qd_S_set_12 rfl (lv_at hl 2 rfl) ?_
      refine lv_if_lt (tgt := 24) hx hb qd_S_set_13 (by decide) (fun c_3 => ?_) (fun c_3 => ?_)
      · exact absurd c_3 (nI_pos (by omega))
      · refine lv_iload_n hx hb qd_S_set_16 rfl (lv_at hl 2 rfl) ?_
        refine lv_aload_n hx hb qd_S_set_17 rfl (lv_at hl 0 rfl) ?_
        refine va_get (D := (dC, dI)) (ci := 4) (v := .int (nI w)) (C := qR_S) (T := qT_S) (N := 4) hx hb hts qin_S hown hK hP 0 rfl rfl 0 (by decide) (hts _ mw_66) (fun _ h9 => h9) rfl qd_S_set_18 ?_
        refine lv_icmp_lt (tgt := 25) hx hb qd_S_set_21 (by decide) (fun c_4 => ?_) (fun c_4 => ?_)
        · refine lv_aload_n hx hb qd_S_set_25 rfl (lv_at hl 0 rfl) ?_
          refine va_get (D := (dC, dI)) (ci := 4) (v := .ref b) (C := qR_S) (T := qT_S) (N := 4) hx hb hts qin_S hown hK hP 0 rfl rfl 2 (by decide) (hts _ mw_68) (fun _ h9 => h9) rfl qd_S_set_26 ?_
          refine lv_iload_n hx hb qd_S_set_29 rfl (lv_at hl 1 rfl) ?_
          refine lv_aload_n hx hb qd_S_set_30 rfl (lv_at hl 0 rfl) ?_
          refine va_get (D := (dC, dI)) (ci := 4) (v := .int (nI w)) (C := qR_S) (T := qT_S) (N := 4) hx hb hts qin_S hown hK hP 0 rfl rfl 0 (by decide) (hts _ mw_66) (fun _ h9 => h9) rfl qd_S_set_31 ?_
          refine lv_imul hx hb qd_S_set_34 ?_
          refine lv_iload_n hx hb qd_S_set_35 rfl (lv_at hl 2 rfl) ?_
          refine lv_iadd hx hb qd_S_set_36 ?_
          refine mk_rw (y := nI (i' * w + j')) (by rw [pk_mul, nI_add]) ?_
          refine lv_iload_n hx hb qd_S_set_37 rfl (lv_at hl 3 rfl) ?_
          refine va_iast (i := (nI (i' * w + j'))) (x := v) hx hb hK hP hD hS 1 0 rfl rfl (vp_in_nI (by omega) (by omega)) qd_S_set_38 (fun H locs hP hD hS => ?_)
          rw [show Int32.toNatClampNeg (nI (i' * w + j')) = (i' * w + j') from (nI_clamp (by omega))] at hP hD
          have hP : va_P (dC, dI) vwCl (wS h b cA w lim L.length (upd f (i' * w + j') v)) H := hP
          have hD : va_D A (wS h b cA w lim L.length (upd f (i' * w + j') v)) := hD
          have hP : va_P (dC, dI) vwCl (wS h b cA w lim (L.set i' (upd r0 j' v)).length (upd f (i' * w + j') v)) H := by rw [List.length_set]; exact hP
          have hD : va_D A (wS h b cA w lim (L.set i' (upd r0 j' v)).length (upd f (i' * w + j') v)) := by rw [List.length_set]; exact hD
          exact mk_mvret (L.set i' (upd r0 j' v), upd f (i' * w + j') v) hx hb hr hlocks hP hK hD hS qd_S_set_39 (⟨rfl, sh_ok_set hok hr0 hj⟩)
        · exact absurd (nI_lt hj (by omega)) c_4
set_option maxHeartbeats 4000000 in
set_option maxRecDepth 100000 in
/-- open(line), where there is room -/
theorem c_Sh_open (l : Launch) (dC : Nat → ClassId) (dI : Nat → Nat → Nat) (cA : ClassId) (sz : Nat) (h b w lim : Nat) (f : Nat → Int32) (L : List (Nat → Int32)) (hwf : sh_wf w lim f L) (i' : Nat) (hi : i' ≤ L.length) (hlt : L.length < lim) : Met l qy_S_open qw_S_open ({ frames := 1, cells := 0, slots := 0, locals := 60 }) (mk_mu [.ref h, .int (nI i')] sz (dC, dI) vwCl [(cA, .int)] (wS h b cA w lim L.length f)) (mk_muQ (S := List (Nat → Int32) × (Nat → Int32)) (fun r u => r = 1 ∧ u.1 = L.take i' ++ (fun j => f (i' * w + j)) :: L.drop i' ∧ sh_ok w u.2 u.1) (fun u => wS h b cA w lim u.1.length u.2) (dC, dI) vwCl [(cA, .int)] (va_A (wS h b cA w lim L.length f) sz)) 0 0 (va_A (wS h b cA w lim L.length f) sz) := by
  refine Met.ofW (cc := qb_S_open) (maxL := 3) (ret := (some .boolean)) (by decide) rfl ?_
  intro p e s m args below meth c s₁ B hml hpre
  obtain ⟨rfl, hsz, hP, hK, hD0⟩ := hpre
  have hx := B.exec
  have hb := B.bytes
  have hr := B.returns
  have hts0 := atoms_spec (ws := qw_S_open) B.pre
  have hts := fun w (h : w ∈ lw_gd) => hts0 w (List.mem_cons_of_mem _ h)
  have hown : s.vm.findClass qR_S = some m.cls := findClass_of_methodNamed B.named
  have hlocks := B.notSynchronized
  subst hsz
  have hD := hD0.self (sz := s.heap.size)
  generalize hAe : va_A (wS h b cA w lim L.length f) s.heap.size = A at hD ⊢
  have hA : ∀ q : Nat, s.heap.size ≤ q → A q := fun q h => by rw [← hAe]; exact Or.inr h
  have hS : va_S A s.heap s.heap [] := va_S.rf
  have hl := lv_entry ([.ref h, .int (nI i')]) (n := 3) (Nat.le_of_ble_eq_true rfl)
  rw [lg_entry_eq]
  generalize (lg_sl ([.ref h, .int (nI i')]) ++ List.replicate (3 - (lg_sl ([.ref h, .int (nI i')])).length) Slot.unset).toArray = ls at hl ⊢
  have hl : lv_has ls 3 [(0, .ref h), (1, .int (nI i'))] := hl
  have hP : va_P (dC, dI) vwCl (wS h b cA w lim L.length f) s.heap := hP
  refine mk_start (A := A) hP (fun H locs hP hS => ?_)
  obtain ⟨hok, hlen, hwl, hw1, hl1⟩ := hwf
  have e1 : i' * w ≤ L.length * w := Nat.mul_le_mul_right w hi
  have e2 : L.length * w + w ≤ lim * w := sh_step hlt
  have e3 : (L.length - i') * w = L.length * w - i' * w := Nat.sub_mul _ _ _
  have e4 : w * lim = lim * w := Nat.mul_comm _ _
  refine lv_iload_n hx hb qd_S_open_0 rfl (lv_at hl 1 rfl) ?_
  refine lv_if_lt (tgt := 23) hx hb qd_S_open_1 (by decide) (fun c_1 => ?_) (fun c_1 => ?_)
  · exact absurd c_1 (nI_pos (by omega))
  · refine lv_iload_n hx hb qd_S_open_4 rfl (lv_at hl 1 rfl) ?_
    refine lv_aload_n hx hb qd_S_open_5 rfl (lv_at hl 0 rfl) ?_
    refine va_get (D := (dC, dI)) (ci := 4) (v := .int (nI L.length)) (C := qR_S) (T := qT_S) (N := 4) hx hb hts qin_S hown hK hP 0 rfl rfl 3 (by decide) (hts _ mw_69) (fun _ h9 => h9) rfl qd_S_open_6 ?_
    refine lv_icmp_gt (tgt := 23) hx hb qd_S_open_9 (by decide) (fun c_2 => ?_) (fun c_2 => ?_)
    · exact absurd c_2 (nI_nlt hi (by omega))
    · refine lv_aload_n hx hb qd_S_open_12 rfl (lv_at hl 0 rfl) ?_
      refine va_get (D := (dC, dI)) (ci := 4) (v := .int (nI L.length)) (C := qR_S) (T := qT_S) (N := 4) hx hb hts qin_S hown hK hP 0 rfl rfl 3 (by decide) (hts _ mw_69) (fun _ h9 => h9) rfl qd_S_open_13 ?_
      refine lv_aload_n hx hb qd_S_open_16 rfl (lv_at hl 0 rfl) ?_
      refine va_get (D := (dC, dI)) (ci := 4) (v := .int (nI lim)) (C := qR_S) (T := qT_S) (N := 4) hx hb hts qin_S hown hK hP 0 rfl rfl 1 (by decide) (hts _ mw_67) (fun _ h9 => h9) rfl qd_S_open_17 ?_
      refine lv_icmp_lt (tgt := 25) hx hb qd_S_open_20 (by decide) (fun c_3 => ?_) (fun c_3 => ?_)
      · refine lv_iload_n hx hb qd_S_open_25 rfl (lv_at hl 1 rfl) ?_
        refine lv_aload_n hx hb qd_S_open_26 rfl (lv_at hl 0 rfl) ?_
        refine va_get (D := (dC, dI)) (ci := 4) (v := .int (nI w)) (C := qR_S) (T := qT_S) (N := 4) hx hb hts qin_S hown hK hP 0 rfl rfl 0 (by decide) (hts _ mw_66) (fun _ h9 => h9) rfl qd_S_open_27 ?_
        refine lv_imul hx hb qd_S_open_30 ?_
        refine mk_rw (y := nI (i' * w)) (pk_mul _ _) ?_
        refine lv_istore_n (lv' := [(2, .int (nI (i' * w))), (0, .ref h), (1, .int (nI i'))]) hx hb qd_S_open_31 rfl hl (by decide) rfl (fun ls hl => ?_)
        refine lv_aload_n hx hb qd_S_open_32 rfl (lv_at hl 1 rfl) ?_
        refine va_get (D := (dC, dI)) (ci := 4) (v := .ref b) (C := qR_S) (T := qT_S) (N := 4) hx hb hts qin_S hown hK hP 0 rfl rfl 2 (by decide) (hts _ mw_68) (fun _ h9 => h9) rfl qd_S_open_33 ?_
        refine lv_iload_n hx hb qd_S_open_36 rfl (lv_at hl 0 rfl) ?_
        refine lv_aload_n hx hb qd_S_open_37 rfl (lv_at hl 1 rfl) ?_
        refine va_get (D := (dC, dI)) (ci := 4) (v := .ref b) (C := qR_S) (T := qT_S) (N := 4) hx hb hts qin_S hown hK hP 0 rfl rfl 2 (by decide) (hts _ mw_68) (fun _ h9 => h9) rfl qd_S_open_38 ?_
        refine lv_iload_n hx hb qd_S_open_41 rfl (lv_at hl 0 rfl) ?_
        refine lv_aload_n hx hb qd_S_open_42 rfl (lv_at hl 1 rfl) ?_
        refine va_get (D := (dC, dI)) (ci := 4) (v := .int (nI w)) (C := qR_S) (T := qT_S) (N := 4) hx hb hts qin_S hown hK hP 0 rfl rfl 0 (by decide) (hts _ mw_66) (fun _ h9 => h9) rfl qd_S_open_43 ?_
        refine lv_iadd hx hb qd_S_open_46 ?_
        refine mk_rw (y := nI (i' * w + w)) (nI_add _ _) ?_
        refine lv_aload_n hx hb qd_S_open_47 rfl (lv_at hl 1 rfl) ?_
        refine va_get (D := (dC, dI)) (ci := 4) (v := .int (nI L.length)) (C := qR_S) (T := qT_S) (N := 4) hx hb hts qin_S hown hK hP 0 rfl rfl 3 (by decide) (hts _ mw_69) (fun _ h9 => h9) rfl qd_S_open_48 ?_
        refine lv_iload_n hx hb qd_S_open_51 rfl (lv_at hl 2 rfl) ?_
        refine lv_isub hx hb qd_S_open_52 ?_
        refine lv_aload_n hx hb qd_S_open_53 rfl (lv_at hl 1 rfl) ?_
        refine va_get (D := (dC, dI)) (ci := 4) (v := .int (nI w)) (C := qR_S) (T := qT_S) (N := 4) hx hb hts qin_S hown hK hP 0 rfl rfl 0 (by decide) (hts _ mw_66) (fun _ h9 => h9) rfl qd_S_open_54 ?_
        refine lv_imul hx hb qd_S_open_57 ?_
        refine mk_rw (y := nI ((L.length - i') * w)) (by rw [pk_sub hi, pk_mul]) ?_
        refine va_copyi (sp := nI (i' * w)) (dp := nI (i' * w + w)) (n := nI ((L.length - i') * w)) (ty := .int) hx hb (hml.trans hl.1.symm) hown (hts _ mw_233) (hts _ mw_235) (hts _ mw_234) (hts _ mw_42) hK hP hD hS 1 1 0 0 rfl rfl rfl rfl rfl (nI_pos (by omega)) (nI_pos (by omega)) (nI_pos (by omega)) (by rw [nI_clamp (by omega), nI_clamp (by omega)]; omega) (by rw [nI_clamp (by omega), nI_clamp (by omega)]; omega) (fun _ _ => rfl) (Nat.le_of_ble_eq_true rfl) (Nat.le_of_ble_eq_true rfl) qd_S_open_58 (fun H locs hP hD hS => ?_)
        rw [show (nI (i' * w)).toNatClampNeg = i' * w from nI_clamp (by omega), show (nI (i' * w + w)).toNatClampNeg = i' * w + w from nI_clamp (by omega), show (nI ((L.length - i') * w)).toNatClampNeg = (L.length - i') * w from nI_clamp (by omega)] at hP hD
        have hP : va_P (dC, dI) vwCl (wS h b cA w lim L.length (va_cpy f f (i' * w) (i' * w + w) ((L.length - i') * w))) H := hP
        have hD : va_D A (wS h b cA w lim L.length (va_cpy f f (i' * w) (i' * w + w) ((L.length - i') * w))) := hD
        refine lv_aload_n hx hb qd_S_open_61 rfl (lv_at hl 1 rfl) ?_
        refine lv_dup hx hb qd_S_open_62 rfl ?_
        refine va_get (D := (dC, dI)) (ci := 4) (v := .int (nI L.length)) (C := qR_S) (T := qT_S) (N := 4) hx hb hts qin_S hown hK hP 0 rfl rfl 3 (by decide) (hts _ mw_69) (fun _ h9 => h9) rfl qd_S_open_63 ?_
        refine lv_iconst (v := 1) hx hb qd_S_open_66 (by decide) ?_
        refine lv_iadd hx hb qd_S_open_67 ?_
        refine mk_rw (y := nI (L.length + 1)) (nI_1 _) ?_
        refine va_put (D := (dC, dI)) (ci := 4) (v := .int (nI (L.length + 1))) (ty := .int) (C := qR_S) (T := qT_S) (N := 4) hx hb hts qin_S qty_S qtyok_S qnm_S hown hK hP hD hS 0 rfl rfl 3 (by decide) (hts _ mw_69) (fun _ h9 => h9) rfl (by decide +kernel) rfl rfl (Nat.le_of_ble_eq_true rfl) qd_S_open_68 (fun H locs hP hD hS => ?_)
        have hP : va_P (dC, dI) vwCl (wS h b cA w lim (L.length + 1) (va_cpy f f (i' * w) (i' * w + w) ((L.length - i') * w))) H := hP
        have hD : va_D A (wS h b cA w lim (L.length + 1) (va_cpy f f (i' * w) (i' * w + w) ((L.length - i') * w))) := hD
        refine lv_iconst (v := 1) hx hb qd_S_open_71 (by decide) ?_
        have hP : va_P (dC, dI) vwCl (wS h b cA w lim (L.take i' ++ (fun j => f (i' * w + j)) :: L.drop i').length (va_cpy f f (i' * w) (i' * w + w) ((L.length - i') * w))) H := by rw [ls_ins_len hi]; exact hP
        have hD : va_D A (wS h b cA w lim (L.take i' ++ (fun j => f (i' * w + j)) :: L.drop i').length (va_cpy f f (i' * w) (i' * w + w) ((L.length - i') * w))) := by rw [ls_ins_len hi]; exact hD
        exact mk_mzret ((L.take i' ++ (fun j => f (i' * w + j)) :: L.drop i'), (va_cpy f f (i' * w) (i' * w + w) ((L.length - i') * w))) hx hb hr hlocks hP hK hD hS qd_S_open_72 (by decide) (⟨rfl, rfl, sh_ok_open hok hi⟩)
      · exact absurd (nI_lt hlt (by omega)) c_3
set_option maxHeartbeats 4000000 in
set_option maxRecDepth 100000 in
/-- drop(line), the line there -/
theorem c_Sh_drop (l : Launch) (dC : Nat → ClassId) (dI : Nat → Nat → Nat) (cA : ClassId) (sz : Nat) (h b w lim : Nat) (f : Nat → Int32) (L : List (Nat → Int32)) (hwf : sh_wf w lim f L) (i' : Nat) (hi : i' < L.length) : Met l qy_S_drop qw_S_drop ({ frames := 1, cells := 0, slots := 0, locals := 60 }) (mk_mu [.ref h, .int (nI i')] sz (dC, dI) vwCl [(cA, .int)] (wS h b cA w lim L.length f)) (mk_muV (S := List (Nat → Int32) × (Nat → Int32)) (fun u => u.1 = L.eraseIdx i' ∧ sh_ok w u.2 u.1) (fun u => wS h b cA w lim u.1.length u.2) (dC, dI) vwCl [(cA, .int)] (va_A (wS h b cA w lim L.length f) sz)) 0 0 (va_A (wS h b cA w lim L.length f) sz) := by
  refine Met.ofW (cc := qb_S_drop) (maxL := 3) (ret := none) (by decide) rfl ?_
  intro p e s m args below meth c s₁ B hml hpre
  obtain ⟨rfl, hsz, hP, hK, hD0⟩ := hpre
  have hx := B.exec
  have hb := B.bytes
  have hr := B.returns
  have hts0 := atoms_spec (ws := qw_S_drop) B.pre
  have hts := fun w (h : w ∈ lw_gd) => hts0 w (List.mem_cons_of_mem _ h)
  have hown : s.vm.findClass qR_S = some m.cls := findClass_of_methodNamed B.named
  have hlocks := B.notSynchronized
  subst hsz
  have hD := hD0.self (sz := s.heap.size)
  generalize hAe : va_A (wS h b cA w lim L.length f) s.heap.size = A at hD ⊢
  have hA : ∀ q : Nat, s.heap.size ≤ q → A q := fun q h => by rw [← hAe]; exact Or.inr h
  have hS : va_S A s.heap s.heap [] := va_S.rf
  have hl := lv_entry ([.ref h, .int (nI i')]) (n := 3) (Nat.le_of_ble_eq_true rfl)
  rw [lg_entry_eq]
  generalize (lg_sl ([.ref h, .int (nI i')]) ++ List.replicate (3 - (lg_sl ([.ref h, .int (nI i')])).length) Slot.unset).toArray = ls at hl ⊢
  have hl : lv_has ls 3 [(0, .ref h), (1, .int (nI i'))] := hl
  have hP : va_P (dC, dI) vwCl (wS h b cA w lim L.length f) s.heap := hP
  refine mk_start (A := A) hP (fun H locs hP hS => ?_)
  obtain ⟨hok, hlen, hwl, hw1, hl1⟩ := hwf
  have e1 : (i' + 1) * w = i' * w + w := by rw [Nat.add_mul, Nat.one_mul]
  have e2 : (i' + 1) * w ≤ L.length * w := Nat.mul_le_mul_right w hi
  have e3 : L.length * w ≤ lim * w := Nat.mul_le_mul_right w hlen
  have e4 : w * lim = lim * w := Nat.mul_comm _ _
  refine lv_iload_n hx hb qd_S_drop_0 rfl (lv_at hl 1 rfl) ?_
  refine lv_if_lt (tgt := 12) hx hb qd_S_drop_1 (by decide) (fun c_1 => ?_) (fun c_1 => ?_)
  · exact absurd c_1 (nI_pos (by omega))
  · refine lv_iload_n hx hb qd_S_drop_4 rfl (lv_at hl 1 rfl) ?_
    refine lv_aload_n hx hb qd_S_drop_5 rfl (lv_at hl 0 rfl) ?_
    refine va_get (D := (dC, dI)) (ci := 4) (v := .int (nI L.length)) (C := qR_S) (T := qT_S) (N := 4) hx hb hts qin_S hown hK hP 0 rfl rfl 3 (by decide) (hts _ mw_69) (fun _ h9 => h9) rfl qd_S_drop_6 ?_
    refine lv_icmp_lt (tgt := 13) hx hb qd_S_drop_9 (by decide) (fun c_2 => ?_) (fun c_2 => ?_)
    · refine lv_iload_n hx hb qd_S_drop_13 rfl (lv_at hl 1 rfl) ?_
      refine lv_iconst (v := 1) hx hb qd_S_drop_14 (by decide) ?_
      refine lv_iadd hx hb qd_S_drop_15 ?_
      refine lv_aload_n hx hb qd_S_drop_16 rfl (lv_at hl 0 rfl) ?_
      refine va_get (D := (dC, dI)) (ci := 4) (v := .int (nI w)) (C := qR_S) (T := qT_S) (N := 4) hx hb hts qin_S hown hK hP 0 rfl rfl 0 (by decide) (hts _ mw_66) (fun _ h9 => h9) rfl qd_S_drop_17 ?_
      refine lv_imul hx hb qd_S_drop_20 ?_
      refine mk_rw (y := nI ((i' + 1) * w)) (by rw [nI_1, pk_mul]) ?_
      refine lv_istore_n (lv' := [(2, .int (nI ((i' + 1) * w))), (0, .ref h), (1, .int (nI i'))]) hx hb qd_S_drop_21 rfl hl (by decide) rfl (fun ls hl => ?_)
      refine lv_aload_n hx hb qd_S_drop_22 rfl (lv_at hl 1 rfl) ?_
      refine va_get (D := (dC, dI)) (ci := 4) (v := .ref b) (C := qR_S) (T := qT_S) (N := 4) hx hb hts qin_S hown hK hP 0 rfl rfl 2 (by decide) (hts _ mw_68) (fun _ h9 => h9) rfl qd_S_drop_23 ?_
      refine lv_iload_n hx hb qd_S_drop_26 rfl (lv_at hl 0 rfl) ?_
      refine lv_aload_n hx hb qd_S_drop_27 rfl (lv_at hl 1 rfl) ?_
      refine va_get (D := (dC, dI)) (ci := 4) (v := .ref b) (C := qR_S) (T := qT_S) (N := 4) hx hb hts qin_S hown hK hP 0 rfl rfl 2 (by decide) (hts _ mw_68) (fun _ h9 => h9) rfl qd_S_drop_28 ?_
      refine lv_iload_n hx hb qd_S_drop_31 rfl (lv_at hl 0 rfl) ?_
      refine lv_aload_n hx hb qd_S_drop_32 rfl (lv_at hl 1 rfl) ?_
      refine va_get (D := (dC, dI)) (ci := 4) (v := .int (nI w)) (C := qR_S) (T := qT_S) (N := 4) hx hb hts qin_S hown hK hP 0 rfl rfl 0 (by decide) (hts _ mw_66) (fun _ h9 => h9) rfl qd_S_drop_33 ?_
      refine lv_isub hx hb qd_S_drop_36 ?_
      refine mk_rw (y := nI (i' * w)) (by rw [pk_sub (by omega)]; congr 1; omega) ?_
      refine lv_aload_n hx hb qd_S_drop_37 rfl (lv_at hl 1 rfl) ?_
      refine va_get (D := (dC, dI)) (ci := 4) (v := .int (nI L.length)) (C := qR_S) (T := qT_S) (N := 4) hx hb hts qin_S hown hK hP 0 rfl rfl 3 (by decide) (hts _ mw_69) (fun _ h9 => h9) rfl qd_S_drop_38 ?_
      refine lv_aload_n hx hb qd_S_drop_41 rfl (lv_at hl 1 rfl) ?_
      refine va_get (D := (dC, dI)) (ci := 4) (v := .int (nI w)) (C := qR_S) (T := qT_S) (N := 4) hx hb hts qin_S hown hK hP 0 rfl rfl 0 (by decide) (hts _ mw_66) (fun _ h9 => h9) rfl qd_S_drop_42 ?_
      refine lv_imul hx hb qd_S_drop_45 ?_
      refine lv_iload_n hx hb qd_S_drop_46 rfl (lv_at hl 0 rfl) ?_
      refine lv_isub hx hb qd_S_drop_47 ?_
      refine mk_rw (y := nI (L.length * w - (i' + 1) * w)) (by rw [pk_mul, pk_sub (by omega)]) ?_
      refine va_copyi (sp := nI ((i' + 1) * w)) (dp := nI (i' * w)) (n := nI (L.length * w - (i' + 1) * w)) (ty := .int) hx hb (hml.trans hl.1.symm) hown (hts _ mw_233) (hts _ mw_235) (hts _ mw_234) (hts _ mw_42) hK hP hD hS 1 1 0 0 rfl rfl rfl rfl rfl (nI_pos (by omega)) (nI_pos (by omega)) (nI_pos (by omega)) (by rw [nI_clamp (by omega), nI_clamp (by omega)]; omega) (by rw [nI_clamp (by omega), nI_clamp (by omega)]; omega) (fun _ _ => rfl) (Nat.le_of_ble_eq_true rfl) (Nat.le_of_ble_eq_true rfl) qd_S_drop_48 (fun H locs hP hD hS => ?_)
      rw [show (nI ((i' + 1) * w)).toNatClampNeg = (i' + 1) * w from nI_clamp (by omega), show (nI (i' * w)).toNatClampNeg = i' * w from nI_clamp (by omega), show (nI (L.length * w - (i' + 1) * w)).toNatClampNeg = L.length * w - (i' + 1) * w from nI_clamp (by omega)] at hP hD
      have hP : va_P (dC, dI) vwCl (wS h b cA w lim L.length (va_cpy f f ((i' + 1) * w) (i' * w) (L.length * w - (i' + 1) * w))) H := hP
      have hD : va_D A (wS h b cA w lim L.length (va_cpy f f ((i' + 1) * w) (i' * w) (L.length * w - (i' + 1) * w))) := hD
      refine lv_aload_n hx hb qd_S_drop_51 rfl (lv_at hl 1 rfl) ?_
      refine lv_dup hx hb qd_S_drop_52 rfl ?_
      refine va_get (D := (dC, dI)) (ci := 4) (v := .int (nI L.length)) (C := qR_S) (T := qT_S) (N := 4) hx hb hts qin_S hown hK hP 0 rfl rfl 3 (by decide) (hts _ mw_69) (fun _ h9 => h9) rfl qd_S_drop_53 ?_
      refine lv_iconst (v := 1) hx hb qd_S_drop_56 (by decide) ?_
      refine lv_isub hx hb qd_S_drop_57 ?_
      refine mk_rw (y := nI (L.length - 1)) (pk_sub (b := 1) (by omega)) ?_
      refine va_put (D := (dC, dI)) (ci := 4) (v := .int (nI (L.length - 1))) (ty := .int) (C := qR_S) (T := qT_S) (N := 4) hx hb hts qin_S qty_S qtyok_S qnm_S hown hK hP hD hS 0 rfl rfl 3 (by decide) (hts _ mw_69) (fun _ h9 => h9) rfl (by decide +kernel) rfl rfl (Nat.le_of_ble_eq_true rfl) qd_S_drop_58 (fun H locs hP hD hS => ?_)
      have hP : va_P (dC, dI) vwCl (wS h b cA w lim (L.length - 1) (va_cpy f f ((i' + 1) * w) (i' * w) (L.length * w - (i' + 1) * w))) H := hP
      have hD : va_D A (wS h b cA w lim (L.length - 1) (va_cpy f f ((i' + 1) * w) (i' * w) (L.length * w - (i' + 1) * w))) := hD
      have hP : va_P (dC, dI) vwCl (wS h b cA w lim (L.eraseIdx i').length (va_cpy f f ((i' + 1) * w) (i' * w) (L.length * w - (i' + 1) * w))) H := by rw [List.length_eraseIdx_of_lt hi]; exact hP
      have hD : va_D A (wS h b cA w lim (L.eraseIdx i').length (va_cpy f f ((i' + 1) * w) (i' * w) (L.length * w - (i' + 1) * w))) := by rw [List.length_eraseIdx_of_lt hi]; exact hD
      exact mk_mvret (L.eraseIdx i', (va_cpy f f ((i' + 1) * w) (i' * w) (L.length * w - (i' + 1) * w))) hx hb hr hlocks hP hK hD hS qd_S_drop_61 (⟨rfl, sh_ok_drop hok hi⟩)
    · exact absurd (nI_lt hi (by omega)) c_2
set_option maxHeartbeats 4000000 in
set_option maxRecDepth 100000 in
/-- clear() -/
theorem c_Sh_clear (l : Launch) (dC : Nat → ClassId) (dI : Nat → Nat → Nat) (cA : ClassId) (sz : Nat) (h b w lim : Nat) (f : Nat → Int32) (L : List (Nat → Int32)) (hwf : sh_wf w lim f L) : Met l qy_S_clear qw_S_clear ({ frames := 0, cells := 0, slots := 0, locals := 0 }) (mk_mu [.ref h] sz (dC, dI) vwCl [(cA, .int)] (wS h b cA w lim L.length f)) (mk_muV (S := List (Nat → Int32) × (Nat → Int32)) (fun u => u.1 = [] ∧ sh_ok w u.2 u.1) (fun u => wS h b cA w lim u.1.length u.2) (dC, dI) vwCl [(cA, .int)] (va_A (wS h b cA w lim L.length f) sz)) 0 0 (va_A (wS h b cA w lim L.length f) sz) := by
  refine Met.ofW (cc := qb_S_clear) (maxL := 1) (ret := none) (by decide) rfl ?_
  intro p e s m args below meth c s₁ B hml hpre
  obtain ⟨rfl, hsz, hP, hK, hD0⟩ := hpre
  have hx := B.exec
  have hb := B.bytes
  have hr := B.returns
  have hts0 := atoms_spec (ws := qw_S_clear) B.pre
  have hts := fun w (h : w ∈ lw_gd) => hts0 w (List.mem_cons_of_mem _ h)
  have hown : s.vm.findClass qR_S = some m.cls := findClass_of_methodNamed B.named
  have hlocks := B.notSynchronized
  subst hsz
  have hD := hD0.self (sz := s.heap.size)
  generalize hAe : va_A (wS h b cA w lim L.length f) s.heap.size = A at hD ⊢
  have hA : ∀ q : Nat, s.heap.size ≤ q → A q := fun q h => by rw [← hAe]; exact Or.inr h
  have hS : va_S A s.heap s.heap [] := va_S.rf
  have hl := lv_entry ([.ref h]) (n := 1) (Nat.le_of_ble_eq_true rfl)
  rw [lg_entry_eq]
  generalize (lg_sl ([.ref h]) ++ List.replicate (1 - (lg_sl ([.ref h])).length) Slot.unset).toArray = ls at hl ⊢
  have hl : lv_has ls 1 [(0, .ref h)] := hl
  have hP : va_P (dC, dI) vwCl (wS h b cA w lim L.length f) s.heap := hP
  refine mk_start (A := A) hP (fun H locs hP hS => ?_)
  refine lv_aload_n hx hb qd_S_clear_0 rfl (lv_at hl 0 rfl) ?_
  refine lv_iconst (v := 0) hx hb qd_S_clear_1 (by decide) ?_
  refine mk_rw (y := nI 0) rfl ?_
  refine va_put (D := (dC, dI)) (ci := 4) (v := .int (nI 0)) (ty := .int) (C := qR_S) (T := qT_S) (N := 4) hx hb hts qin_S qty_S qtyok_S qnm_S hown hK hP hD hS 0 rfl rfl 3 (by decide) (hts _ mw_69) (fun _ h9 => h9) rfl (by decide +kernel) rfl rfl (Nat.le_of_ble_eq_true rfl) qd_S_clear_2 (fun H locs hP hD hS => ?_)
  have hP : va_P (dC, dI) vwCl (wS h b cA w lim 0 f) H := hP
  have hD : va_D A (wS h b cA w lim 0 f) := hD
  exact mk_mvret ([], f) hx hb hr hlocks hP hK hD hS qd_S_clear_5 (⟨rfl, fun i r h => by simp at h⟩)
