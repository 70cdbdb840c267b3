set_option maxHeartbeats 4000000 in
set_option maxRecDepth 100000 in
/-- size() -/
theorem c_V_size (l : Launch) (dC : Nat → ClassId) (dI : Nat → Nat → Nat) (cA : ClassId) (sz : Nat) (vo h b : Nat) (f : Nat → Int32) (L : List (Nat → Int32)) (hwf : sh_wf 3 160 f L) : Met l qy_V_size qw_V_size ({ frames := 1, cells := 0, slots := 0, locals := 20 }) (mk_ro [.ref vo] sz (dC, dI) vwCl [(cA, .int)] (wV vo h b cA L.length f)) (mk_roQ (fun r => r = nI L.length) sz) 0 0 (mk_new sz) := by
  refine Met.ofW (cc := qb_V_size) (maxL := 1) (ret := (some .int)) (by decide) rfl ?_
  intro p e s m args below meth c s₁ B hml hpre
  obtain ⟨rfl, hsz, hP, hK⟩ := hpre
  have hx := B.exec
  have hb := B.bytes
  have hr := B.returns
  have hts0 := atoms_spec (ws := qw_V_size) B.pre
  have hts := fun w (h : w ∈ lw_gd) => hts0 w (List.mem_cons_of_mem _ h)
  have hown : s.vm.findClass qR_V = some m.cls := findClass_of_methodNamed B.named
  have hlocks := B.notSynchronized
  subst hsz
  have hA : ∀ q : Nat, s.heap.size ≤ q → mk_new s.heap.size q := fun _ h => h
  have hS : va_S (mk_new s.heap.size) s.heap s.heap [] := va_S.rf
  have hl := lv_entry ([.ref vo]) (n := 1) (Nat.le_of_ble_eq_true rfl)
  rw [lg_entry_eq]
  generalize (lg_sl ([.ref vo]) ++ List.replicate (1 - (lg_sl ([.ref vo])).length) Slot.unset).toArray = ls at hl ⊢
  have hl : lv_has ls 1 [(0, .ref vo)] := hl
  have hP : va_P (dC, dI) vwCl (wV vo h b cA L.length f) s.heap := hP
  refine mk_start (A := (mk_new s.heap.size)) hP (fun H locs hP hS => ?_)
  refine lv_aload_n hx hb qd_V_size_0 rfl (lv_at hl 0 rfl) ?_
  refine va_get (D := (dC, dI)) (ci := 5) (v := .ref h) (C := qR_V) (T := qT_V) (N := 1) hx hb hts qin_V hown hK hP 0 rfl rfl 0 (by decide) (hts _ mw_80) (fun _ h9 => h9) rfl qd_V_size_1 ?_
  refine mk_calli (va_runV (As := []) (rest := []) ⟨hx, hb, hml, hown, hts⟩ (c_Sh_size l dC dI cA H.size h b 3 160 f L hwf) (cwV 0 hts gc_V_20 rfl rfl rfl (by decide +kernel) ⟨Nat.le_of_ble_eq_true rfl, Nat.le_of_ble_eq_true rfl⟩) (mk_roV hP [1, 2] rfl hK (va_recv hK hP (ci := 4) (q0 := 1) rfl rfl)) rfl rfl hl.1 rfl (lv_room (Nat.le_of_ble_eq_true rfl)) qd_V_size_4 ⟨(Nat.zero_le _), (Nat.zero_le _)⟩) hS hA hP (fun r_1 H locs hr_1 hP hS => ?_)
  obtain rfl : r_1 = nI L.length := hr_1
  exact mk_iret hx hb hr hlocks hS qd_V_size_7 (rfl)
set_option maxHeartbeats 4000000 in
set_option maxRecDepth 100000 in
/-- get(line, column) -/
theorem c_V_get (l : Launch) (dC : Nat → ClassId) (dI : Nat → Nat → Nat) (cA : ClassId) (sz : Nat) (vo h b : Nat) (f : Nat → Int32) (L : List (Nat → Int32)) (hwf : sh_wf 3 160 f L) (i j : Int32) : Met l qy_V_get qw_V_get ({ frames := 1, cells := 0, slots := 0, locals := 22 }) (mk_ro [.ref vo, .int i, .int j] sz (dC, dI) vwCl [(cA, .int)] (wV vo h b cA L.length f)) (mk_roQ (fun r => r = sh_get 3 L i j) sz) 0 0 (mk_new sz) := by
  refine Met.ofW (cc := qb_V_get) (maxL := 3) (ret := (some .int)) (by decide) rfl ?_
  intro p e s m args below meth c s₁ B hml hpre
  obtain ⟨rfl, hsz, hP, hK⟩ := hpre
  have hx := B.exec
  have hb := B.bytes
  have hr := B.returns
  have hts0 := atoms_spec (ws := qw_V_get) B.pre
  have hts := fun w (h : w ∈ lw_gd) => hts0 w (List.mem_cons_of_mem _ h)
  have hown : s.vm.findClass qR_V = some m.cls := findClass_of_methodNamed B.named
  have hlocks := B.notSynchronized
  subst hsz
  have hA : ∀ q : Nat, s.heap.size ≤ q → mk_new s.heap.size q := fun _ h => h
  have hS : va_S (mk_new s.heap.size) s.heap s.heap [] := va_S.rf
  have hl := lv_entry ([.ref vo, .int i, .int j]) (n := 3) (Nat.le_of_ble_eq_true rfl)
  rw [lg_entry_eq]
  generalize (lg_sl ([.ref vo, .int i, .int j]) ++ List.replicate (3 - (lg_sl ([.ref vo, .int i, .int j])).length) Slot.unset).toArray = ls at hl ⊢
  have hl : lv_has ls 3 [(0, .ref vo), (1, .int i), (2, .int j)] := hl
  have hP : va_P (dC, dI) vwCl (wV vo h b cA L.length f) s.heap := hP
  refine mk_start (A := (mk_new s.heap.size)) hP (fun H locs hP hS => ?_)
  refine lv_aload_n hx hb qd_V_get_0 rfl (lv_at hl 0 rfl) ?_
  refine va_get (D := (dC, dI)) (ci := 5) (v := .ref h) (C := qR_V) (T := qT_V) (N := 1) hx hb hts qin_V hown hK hP 0 rfl rfl 0 (by decide) (hts _ mw_80) (fun _ h9 => h9) rfl qd_V_get_1 ?_
  refine lv_iload_n hx hb qd_V_get_4 rfl (lv_at hl 1 rfl) ?_
  refine lv_iload_n hx hb qd_V_get_5 rfl (lv_at hl 2 rfl) ?_
  refine mk_calli (va_runV (As := [.int i, .int j]) (rest := []) ⟨hx, hb, hml, hown, hts⟩ (c_Sh_get l dC dI cA H.size h b 3 160 f L hwf i j) (cwV 2 hts gc_V_24 rfl rfl rfl (by decide +kernel) ⟨Nat.le_of_ble_eq_true rfl, Nat.le_of_ble_eq_true rfl⟩) (mk_roV hP [1, 2] rfl hK (va_recv hK hP (ci := 4) (q0 := 1) rfl rfl)) rfl rfl hl.1 rfl (lv_room (Nat.le_of_ble_eq_true rfl)) qd_V_get_6 ⟨(Nat.zero_le _), (Nat.zero_le _)⟩) hS hA hP (fun r_1 H locs hr_1 hP hS => ?_)
  obtain rfl : r_1 = sh_get 3 L i j := hr_1
  exact mk_iret hx hb hr hlocks hS qd_V_get_9 (rfl)
set_option maxHeartbeats 4000000 in
set_option maxRecDepth 100000 in
/-- drop(line) -/
theorem c_V_drop (l : Launch) (dC : Nat → ClassId) (dI : Nat → Nat → Nat) (cA : ClassId) (sz : Nat) (vo h b : Nat) (f : Nat → Int32) (L : List (Nat → Int32)) (hwf : sh_wf 3 160 f L) (i' : Nat) (hi : i' < L.length) : Met l qy_V_drop qw_V_drop ({ frames := 2, cells := 0, slots := 0, locals := 82 }) (mk_mu [.ref vo, .int (nI i')] sz (dC, dI) vwCl [(cA, .int)] (wV vo h b cA L.length f)) (mk_muV (S := List (Nat → Int32) × (Nat → Int32)) (fun u => u.1 = L.eraseIdx i' ∧ sh_ok 3 u.2 u.1) (fun u => wV vo h b cA u.1.length u.2) (dC, dI) vwCl [(cA, .int)] (va_A (wV vo h b cA L.length f) sz)) 0 0 (va_A (wV vo h b cA L.length f) sz) := by
  refine Met.ofW (cc := qb_V_drop) (maxL := 2) (ret := none) (by decide) rfl ?_
  intro p e s m args below meth c s₁ B hml hpre
  obtain ⟨rfl, hsz, hP, hK, hD0⟩ := hpre
  have hx := B.exec
  have hb := B.bytes
  have hr := B.returns
  have hts0 := atoms_spec (ws := qw_V_drop) B.pre
  have hts := fun w (h : w ∈ lw_gd) => hts0 w (List.mem_cons_of_mem _ h)
  have hown : s.vm.findClass qR_V = some m.cls := findClass_of_methodNamed B.named
  have hlocks := B.notSynchronized
  subst hsz
  have hD := hD0.self (sz := s.heap.size)
  generalize hAe : va_A (wV vo h b cA L.length f) s.heap.size = A at hD ⊢
  have hA : ∀ q : Nat, s.heap.size ≤ q → A q := fun q h => by rw [← hAe]; exact Or.inr h
  have hS : va_S A s.heap s.heap [] := va_S.rf
  have hl := lv_entry ([.ref vo, .int (nI i')]) (n := 2) (Nat.le_of_ble_eq_true rfl)
  rw [lg_entry_eq]
  generalize (lg_sl ([.ref vo, .int (nI i')]) ++ List.replicate (2 - (lg_sl ([.ref vo, .int (nI i')])).length) Slot.unset).toArray = ls at hl ⊢
  have hl : lv_has ls 2 [(0, .ref vo), (1, .int (nI i'))] := hl
  have hP : va_P (dC, dI) vwCl (wV vo h b cA L.length f) s.heap := hP
  refine mk_start (A := A) hP (fun H locs hP hS => ?_)
  refine lv_aload_n hx hb qd_V_drop_0 rfl (lv_at hl 0 rfl) ?_
  refine va_get (D := (dC, dI)) (ci := 5) (v := .ref h) (C := qR_V) (T := qT_V) (N := 1) hx hb hts qin_V hown hK hP 0 rfl rfl 0 (by decide) (hts _ mw_80) (fun _ h9 => h9) rfl qd_V_drop_1 ?_
  refine lv_iload_n hx hb qd_V_drop_4 rfl (lv_at hl 1 rfl) ?_
  refine mk_mcallv (wr := [(vo, .inr (5, [.ref h]))]) (wf := (fun u => wV vo h b cA u.1.length u.2)) (va_runV (As := [.int (nI i')]) (rest := []) ⟨hx, hb, hml, hown, hts⟩ (c_Sh_drop l dC dI cA H.size h b 3 160 f L hwf i' hi) (cwV 1 hts gc_V_28 rfl rfl rfl (by decide +kernel) ⟨Nat.le_of_ble_eq_true rfl, Nat.le_of_ble_eq_true rfl⟩) (mk_muP hP hD [1, 2] (by decide) rfl hK (va_recv hK hP (ci := 4) (q0 := 1) rfl rfl)) rfl rfl hl.1 rfl (lv_room (Nat.le_of_ble_eq_true rfl)) qd_V_drop_5 ⟨(Nat.zero_le _), (Nat.zero_le _)⟩) hS hA hP hD [1, 2] [0] [0, 1, 2] rfl rfl (by decide) (by decide) (by decide) (fun _ => rfl) (fun u_2 H locs hu_2 hP hD hS => ?_)
  obtain ⟨L1, f1⟩ := u_2
  obtain ⟨rfl, hok1⟩ : L1 = L.eraseIdx i' ∧ sh_ok 3 f1 L1 := hu_2
  have hP : va_P (dC, dI) vwCl (wV vo h b cA ((L.eraseIdx i').length) f1) H := hP
  have hD : va_D A (wV vo h b cA ((L.eraseIdx i').length) f1) := hD
  exact mk_mvret (L.eraseIdx i', f1) hx hb hr hlocks hP hK hD hS qd_V_drop_8 (⟨rfl, hok1⟩)
set_option maxHeartbeats 4000000 in
set_option maxRecDepth 100000 in
/-- linesUpTo(place, from), where the lines are in order -/
theorem c_V_linesUpTo (l : Launch) (dC : Nat → ClassId) (dI : Nat → Nat → Nat) (cA : ClassId) (sz : Nat) (vo h b : Nat) (f : Nat → Int32) (L : List (Nat → Int32)) (hwf : sh_wf 3 160 f L) (pl fr : Int32) (k : Nat) (hcut : vs_cut L pl fr k) : Met l qy_V_linesUpTo qw_V_linesUpTo ({ frames := 1, cells := 0, slots := 0, locals := 22 }) (mk_ro [.ref vo, .int pl, .int fr] sz (dC, dI) vwCl [(cA, .int)] (wV vo h b cA L.length f)) (mk_roQ (fun r => r = nI k) sz) 0 0 (mk_new sz) := by
  refine Met.ofW (cc := qb_V_linesUpTo) (maxL := 8) (ret := (some .int)) (by decide) rfl ?_
  intro p e s m args below meth c s₁ B hml hpre
  obtain ⟨rfl, hsz, hP, hK⟩ := hpre
  have hx := B.exec
  have hb := B.bytes
  have hr := B.returns
  have hts0 := atoms_spec (ws := qw_V_linesUpTo) B.pre
  have hts := fun w (h : w ∈ lw_gd) => hts0 w (List.mem_cons_of_mem _ h)
  have hown : s.vm.findClass qR_V = some m.cls := findClass_of_methodNamed B.named
  have hlocks := B.notSynchronized
  subst hsz
  have hA : ∀ q : Nat, s.heap.size ≤ q → mk_new s.heap.size q := fun _ h => h
  have hS : va_S (mk_new s.heap.size) s.heap s.heap [] := va_S.rf
  have hl := lv_entry ([.ref vo, .int pl, .int fr]) (n := 8) (Nat.le_of_ble_eq_true rfl)
  rw [lg_entry_eq]
  generalize (lg_sl ([.ref vo, .int pl, .int fr]) ++ List.replicate (8 - (lg_sl ([.ref vo, .int pl, .int fr])).length) Slot.unset).toArray = ls at hl ⊢
  have hl : lv_has ls 8 [(0, .ref vo), (1, .int pl), (2, .int fr)] := hl
  have hP : va_P (dC, dI) vwCl (wV vo h b cA L.length f) s.heap := hP
  refine mk_start (A := (mk_new s.heap.size)) hP (fun H locs hP hS => ?_)
  obtain ⟨hok, hlen, -, -, -⟩ := id hwf
  have hkl := hcut.1
  refine lv_iconst (v := 0) hx hb qd_V_linesUpTo_0 (by decide) ?_
  refine mk_rw (y := nI 0) (rfl) ?_
  refine lv_istore_n (lv' := [(3, .int (nI 0)), (0, .ref vo), (1, .int pl), (2, .int fr)]) hx hb qd_V_linesUpTo_1 rfl hl (by decide) rfl (fun ls hl => ?_)
  refine lv_sipush (v := 128) hx hb qd_V_linesUpTo_2 (by decide) ?_
  refine mk_rw (y := nI (vs_st 8)) (rfl) ?_
  refine lv_istore (lv' := [(4, .int (nI (vs_st 8))), (3, .int (nI 0)), (0, .ref vo), (1, .int pl), (2, .int fr)]) hx hb qd_V_linesUpTo_5 hl (by decide) rfl (fun ls hl => ?_)
  refine mk_loop (σ := Nat) (fun n y9 H locs ls => (y9 ≤ k ∧ k < y9 + 2 ^ n ∧ n ≤ 8) ∧ va_P (dC, dI) vwCl (wV vo h b cA L.length f) H ∧ va_S (mk_new s.heap.size) s.heap H locs ∧ lv_has ls 8 [(0, .ref vo), (1, .int pl), (2, .int fr), (3, .int (nI y9)), (4, .int (nI (vs_st n)))]) (fun ls => F0 m 7 ls []) (fun n y9 H locs ls hI ih_1 => ?_) (fun y9 H locs ls hI => ?_) 8 0 H locs ls ⟨⟨Nat.zero_le _, by omega, Nat.le_refl _⟩, hP, hS, lv_sub hl [2, 3, 4, 1, 0] rfl⟩
  · obtain ⟨a, rfl⟩ : ∃ z, z = y9 := ⟨_, rfl⟩
    obtain ⟨hinv, hP, hS, hl⟩ := hI
    have hinv : a ≤ k ∧ k < a + 2 ^ (n + 1) ∧ (n + 1) ≤ 8 := hinv
    have hP : va_P (dC, dI) vwCl (wV vo h b cA L.length f) H := hP
    have hl : lv_has ls 8 [(0, .ref vo), (1, .int pl), (2, .int fr), (3, .int (nI a)), (4, .int (nI (vs_st (n + 1))))] := hl
    obtain ⟨h1, h2, h3⟩ := hinv
    have hpw : 2 ^ n ≤ 2 ^ 7 := Nat.pow_le_pow_right (by decide) (by omega)
    have hpp : 0 < 2 ^ n := Nat.two_pow_pos n
    have e2 : 2 ^ (n + 1) = 2 ^ n + 2 ^ n := by rw [Nat.pow_succ]; omega
    refine lv_iload hx hb qd_V_linesUpTo_7 (lv_at hl 4 rfl) ?_
    refine lv_if_le (tgt := 96) hx hb qd_V_linesUpTo_9 (by decide) (fun c_2 => ?_) (fun c_2 => ?_)
    · exact absurd c_2 (nI_nle (Nat.two_pow_pos n) (show 2 ^ n < 2 ^ 31 by omega))
    · refine lv_iload_n hx hb qd_V_linesUpTo_12 rfl (lv_at hl 3 rfl) ?_
      refine lv_iload hx hb qd_V_linesUpTo_13 (lv_at hl 4 rfl) ?_
      refine lv_iadd hx hb qd_V_linesUpTo_15 ?_
      refine lv_iconst (v := 1) hx hb qd_V_linesUpTo_16 (by decide) ?_
      refine lv_isub hx hb qd_V_linesUpTo_17 ?_
      refine mk_rw (y := nI (a + 2 ^ n - 1)) (by show nI a + nI (2 ^ n) - nI 1 = _; rw [nI_add, pk_sub (by omega)]) ?_
      refine lv_istore (lv' := [(5, .int (nI (a + 2 ^ n - 1))), (0, .ref vo), (1, .int pl), (2, .int fr), (3, .int (nI a)), (4, .int (nI (vs_st (n + 1))))]) hx hb qd_V_linesUpTo_18 hl (by decide) rfl (fun ls hl => ?_)
      refine lv_aload_n hx hb qd_V_linesUpTo_20 rfl (lv_at hl 1 rfl) ?_
      refine va_get (D := (dC, dI)) (ci := 5) (v := .ref h) (C := qR_V) (T := qT_V) (N := 1) hx hb hts qin_V hown hK hP 0 rfl rfl 0 (by decide) (hts _ mw_80) (fun _ h9 => h9) rfl qd_V_linesUpTo_21 ?_
      refine lv_iload hx hb qd_V_linesUpTo_24 (lv_at hl 0 rfl) ?_
      refine lv_iconst (v := 2) hx hb qd_V_linesUpTo_26 (by decide) ?_
      refine mk_calli (va_runV (As := [.int (nI (a + 2 ^ n - 1)), .int 2]) (rest := []) ⟨hx, hb, hml, hown, hts⟩ (c_Sh_get l dC dI cA H.size h b 3 160 f L hwf (nI (a + 2 ^ n - 1)) 2) (cwV 2 hts gc_V_24 rfl rfl rfl (by decide +kernel) ⟨Nat.le_of_ble_eq_true rfl, Nat.le_of_ble_eq_true rfl⟩) (mk_roV hP [1, 2] rfl hK (va_recv hK hP (ci := 4) (q0 := 1) rfl rfl)) rfl rfl hl.1 rfl (lv_room (Nat.le_of_ble_eq_true rfl)) qd_V_linesUpTo_27 ⟨(Nat.zero_le _), (Nat.zero_le _)⟩) hS hA hP (fun r_3 H locs hr_3 hP hS => ?_)
      have hr_3 : r_3 = sh_get 3 L (nI (a + 2 ^ n - 1)) 2 := hr_3
      refine lv_istore (lv' := [(6, .int r_3), (5, .int (nI (a + 2 ^ n - 1))), (0, .ref vo), (1, .int pl), (2, .int fr), (3, .int (nI a)), (4, .int (nI (vs_st (n + 1))))]) hx hb qd_V_linesUpTo_30 hl (by decide) rfl (fun ls hl => ?_)
      refine mk_meetH (D := (dC, dI)) (cl := vwCl) (ws := (wV vo h b cA L.length f)) (A0 := (mk_new s.heap.size)) (H0 := s.heap) (fun v => (v = 0 ∨ v = 1) ∧ ∀ r0, L[a + 2 ^ n - 1]? = some r0 → (v = 0 ↔ vs_nb pl fr r0)) (fun v => F0 m 63 ls (.int v :: [])) (fun v_5 H locs hv_5 hP hS => ?_) (fun J_4 => ?_)
      · have hv_5 : (v_5 = 0 ∨ v_5 = 1) ∧ ∀ r0, L[a + 2 ^ n - 1]? = some r0 → (v_5 = 0 ↔ vs_nb pl fr r0) := hv_5
        refine lv_istore (lv' := [(7, .int v_5), (6, .int r_3), (5, .int (nI (a + 2 ^ n - 1))), (0, .ref vo), (1, .int pl), (2, .int fr), (3, .int (nI a)), (4, .int (nI (vs_st (n + 1))))]) hx hb qd_V_linesUpTo_63 hl (by decide) rfl (fun ls hl => ?_)
        refine lv_iload hx hb qd_V_linesUpTo_65 (lv_at hl 2 rfl) ?_
        refine lv_aload_n hx hb qd_V_linesUpTo_67 rfl (lv_at hl 3 rfl) ?_
        refine va_get (D := (dC, dI)) (ci := 5) (v := .ref h) (C := qR_V) (T := qT_V) (N := 1) hx hb hts qin_V hown hK hP 0 rfl rfl 0 (by decide) (hts _ mw_80) (fun _ h9 => h9) rfl qd_V_linesUpTo_68 ?_
        refine mk_calli (va_runV (As := []) (rest := [.int (nI (a + 2 ^ n - 1))]) ⟨hx, hb, hml, hown, hts⟩ (c_Sh_size l dC dI cA H.size h b 3 160 f L hwf) (cwV 0 hts gc_V_20 rfl rfl rfl (by decide +kernel) ⟨Nat.le_of_ble_eq_true rfl, Nat.le_of_ble_eq_true rfl⟩) (mk_roV hP [1, 2] rfl hK (va_recv hK hP (ci := 4) (q0 := 1) rfl rfl)) rfl rfl hl.1 rfl (lv_room (Nat.le_of_ble_eq_true rfl)) qd_V_linesUpTo_71 ⟨(Nat.zero_le _), (Nat.zero_le _)⟩) hS hA hP (fun r_6 H locs hr_6 hP hS => ?_)
        obtain rfl : r_6 = nI L.length := hr_6
        refine lv_icmp_ge (tgt := 87) hx hb qd_V_linesUpTo_74 (by decide) (fun c_7 => ?_) (fun c_7 => ?_)
        · refine lv_iload hx hb qd_V_linesUpTo_87 (lv_at hl 7 rfl) ?_
          refine lv_iconst (v := 2) hx hb qd_V_linesUpTo_89 (by decide) ?_
          refine lv_idiv hx hb qd_V_linesUpTo_90 (by decide) ?_
          refine mk_rw (y := nI (vs_st n)) (vs_half n (by omega)) ?_
          refine lv_istore (lv' := [(4, .int (nI (vs_st n))), (7, .int v_5), (6, .int r_3), (5, .int (nI (a + 2 ^ n - 1))), (0, .ref vo), (1, .int pl), (2, .int fr), (3, .int (nI a))]) hx hb qd_V_linesUpTo_91 hl (by decide) rfl (fun ls hl => ?_)
          refine lv_goto (tgt := 7) hx hb qd_V_linesUpTo_93 (by decide) ?_
          have hq := (nI_leI (by omega) (by omega)).mp c_7
          exact ih_1 a H locs ls ⟨⟨by omega, by omega, by omega⟩, hP, hS, lv_sub hl [4, 5, 6, 7, 0] rfl⟩
        · refine lv_iload hx hb qd_V_linesUpTo_77 (lv_at hl 0 rfl) ?_
          refine lv_if_ne (tgt := 87) hx hb qd_V_linesUpTo_79 (by decide) (fun c_8 => ?_) (fun c_8 => ?_)
          · refine lv_iload hx hb qd_V_linesUpTo_87 (lv_at hl 7 rfl) ?_
            refine lv_iconst (v := 2) hx hb qd_V_linesUpTo_89 (by decide) ?_
            refine lv_idiv hx hb qd_V_linesUpTo_90 (by decide) ?_
            refine mk_rw (y := nI (vs_st n)) (vs_half n (by omega)) ?_
            refine lv_istore (lv' := [(4, .int (nI (vs_st n))), (7, .int v_5), (6, .int r_3), (5, .int (nI (a + 2 ^ n - 1))), (0, .ref vo), (1, .int pl), (2, .int fr), (3, .int (nI a))]) hx hb qd_V_linesUpTo_91 hl (by decide) rfl (fun ls hl => ?_)
            refine lv_goto (tgt := 7) hx hb qd_V_linesUpTo_93 (by decide) ?_
            have hlt : a + 2 ^ n - 1 < L.length := by rcases Nat.lt_or_ge (a + 2 ^ n - 1) L.length with q | q; exact q; exact absurd (nI_le q (by omega)) c_7
            have hq1 := hv_5.2 _ (List.getElem?_eq_getElem hlt)
            have hq2 := hcut.2 _ _ (List.getElem?_eq_getElem hlt)
            have hq : ¬ a + 2 ^ n - 1 < k := fun q => c_8 (hq1.mpr (hq2.mp q))
            exact ih_1 a H locs ls ⟨⟨by omega, by omega, by omega⟩, hP, hS, lv_sub hl [4, 5, 6, 7, 0] rfl⟩
          · refine lv_iload_n hx hb qd_V_linesUpTo_82 rfl (lv_at hl 6 rfl) ?_
            refine lv_iload hx hb qd_V_linesUpTo_83 (lv_at hl 7 rfl) ?_
            refine lv_iadd hx hb qd_V_linesUpTo_85 ?_
            refine mk_rw (y := nI (a + 2 ^ n)) (by show nI a + nI (2 ^ n) = _; rw [nI_add]) ?_
            refine lv_istore_n (lv' := [(3, .int (nI (a + 2 ^ n))), (7, .int v_5), (6, .int r_3), (5, .int (nI (a + 2 ^ n - 1))), (0, .ref vo), (1, .int pl), (2, .int fr), (4, .int (nI (vs_st (n + 1))))]) hx hb qd_V_linesUpTo_86 rfl hl (by decide) rfl (fun ls hl => ?_)
            refine lv_iload hx hb qd_V_linesUpTo_87 (lv_at hl 7 rfl) ?_
            refine lv_iconst (v := 2) hx hb qd_V_linesUpTo_89 (by decide) ?_
            refine lv_idiv hx hb qd_V_linesUpTo_90 (by decide) ?_
            refine mk_rw (y := nI (vs_st n)) (vs_half n (by omega)) ?_
            refine lv_istore (lv' := [(4, .int (nI (vs_st n))), (3, .int (nI (a + 2 ^ n))), (7, .int v_5), (6, .int r_3), (5, .int (nI (a + 2 ^ n - 1))), (0, .ref vo), (1, .int pl), (2, .int fr)]) hx hb qd_V_linesUpTo_91 hl (by decide) rfl (fun ls hl => ?_)
            refine lv_goto (tgt := 7) hx hb qd_V_linesUpTo_93 (by decide) ?_
            have hlt : a + 2 ^ n - 1 < L.length := by rcases Nat.lt_or_ge (a + 2 ^ n - 1) L.length with q | q; exact q; exact absurd (nI_le q (by omega)) c_7
            have hq1 := hv_5.2 _ (List.getElem?_eq_getElem hlt)
            have hq2 := hcut.2 _ _ (List.getElem?_eq_getElem hlt)
            have hq : a + 2 ^ n - 1 < k := hq2.mpr (hq1.mp c_8)
            exact ih_1 (a + 2 ^ n) H locs ls ⟨⟨by omega, by omega, by omega⟩, hP, hS, lv_sub hl [5, 6, 7, 1, 0] rfl⟩
      · refine lv_iload hx hb qd_V_linesUpTo_32 (lv_at hl 0 rfl) ?_
        refine lv_iload_n hx hb qd_V_linesUpTo_34 rfl (lv_at hl 3 rfl) ?_
        refine lv_icmp_gt (tgt := 58) hx hb qd_V_linesUpTo_35 (by decide) (fun c_9 => ?_) (fun c_9 => ?_)
        · refine lv_iconst (v := 1) hx hb qd_V_linesUpTo_58 (by decide) ?_
          refine lv_goto (tgt := 63) hx hb qd_V_linesUpTo_59 (by decide) ?_
          exact J_4 _ H locs (vs_b1 hr_3 (by omega) c_9) hP hS
        · refine lv_iload hx hb qd_V_linesUpTo_38 (lv_at hl 0 rfl) ?_
          refine lv_iload_n hx hb qd_V_linesUpTo_40 rfl (lv_at hl 3 rfl) ?_
          refine lv_icmp_ne (tgt := 62) hx hb qd_V_linesUpTo_41 (by decide) (fun c_10 => ?_) (fun c_10 => ?_)
          · refine lv_iconst (v := 0) hx hb qd_V_linesUpTo_62 (by decide) ?_
            exact J_4 _ H locs (vs_b2 hr_3 (by omega) c_9 c_10) hP hS
          · refine lv_aload_n hx hb qd_V_linesUpTo_44 rfl (lv_at hl 2 rfl) ?_
            refine va_get (D := (dC, dI)) (ci := 5) (v := .ref h) (C := qR_V) (T := qT_V) (N := 1) hx hb hts qin_V hown hK hP 0 rfl rfl 0 (by decide) (hts _ mw_80) (fun _ h9 => h9) rfl qd_V_linesUpTo_45 ?_
            refine lv_iload hx hb qd_V_linesUpTo_48 (lv_at hl 1 rfl) ?_
            refine lv_iconst (v := 0) hx hb qd_V_linesUpTo_50 (by decide) ?_
            refine mk_calli (va_runV (As := [.int (nI (a + 2 ^ n - 1)), .int 0]) (rest := []) ⟨hx, hb, hml, hown, hts⟩ (c_Sh_get l dC dI cA H.size h b 3 160 f L hwf (nI (a + 2 ^ n - 1)) 0) (cwV 2 hts gc_V_24 rfl rfl rfl (by decide +kernel) ⟨Nat.le_of_ble_eq_true rfl, Nat.le_of_ble_eq_true rfl⟩) (mk_roV hP [1, 2] rfl hK (va_recv hK hP (ci := 4) (q0 := 1) rfl rfl)) rfl rfl hl.1 rfl (lv_room (Nat.le_of_ble_eq_true rfl)) qd_V_linesUpTo_51 ⟨(Nat.zero_le _), (Nat.zero_le _)⟩) hS hA hP (fun r_11 H locs hr_11 hP hS => ?_)
            have hr_11 : r_11 = sh_get 3 L (nI (a + 2 ^ n - 1)) 0 := hr_11
            refine lv_iload_n hx hb qd_V_linesUpTo_54 rfl (lv_at hl 4 rfl) ?_
            refine lv_icmp_le (tgt := 62) hx hb qd_V_linesUpTo_55 (by decide) (fun c_12 => ?_) (fun c_12 => ?_)
            · refine lv_iconst (v := 0) hx hb qd_V_linesUpTo_62 (by decide) ?_
              exact J_4 _ H locs (vs_b3 hr_3 hr_11 (by omega) c_10 c_12) hP hS
            · refine lv_iconst (v := 1) hx hb qd_V_linesUpTo_58 (by decide) ?_
              refine lv_goto (tgt := 63) hx hb qd_V_linesUpTo_59 (by decide) ?_
              exact J_4 _ H locs (vs_b4 hr_3 hr_11 (by omega) c_10 c_12) hP hS
  · obtain ⟨a, rfl⟩ : ∃ z, z = y9 := ⟨_, rfl⟩
    obtain ⟨hinv, hP, hS, hl⟩ := hI
    have hinv : a ≤ k ∧ k < a + 2 ^ 0 ∧ 0 ≤ 8 := hinv
    have hP : va_P (dC, dI) vwCl (wV vo h b cA L.length f) H := hP
    have hl : lv_has ls 8 [(0, .ref vo), (1, .int pl), (2, .int fr), (3, .int (nI a)), (4, .int (nI (vs_st 0)))] := hl
    obtain ⟨h1, h2, h3⟩ := hinv
    refine lv_iload hx hb qd_V_linesUpTo_7 (lv_at hl 4 rfl) ?_
    refine lv_if_le (tgt := 96) hx hb qd_V_linesUpTo_9 (by decide) (fun c_13 => ?_) (fun c_13 => ?_)
    · refine lv_iload_n hx hb qd_V_linesUpTo_96 rfl (lv_at hl 3 rfl) ?_
      exact mk_iret hx hb hr hlocks hS qd_V_linesUpTo_97 (by rw [show a = k by omega])
    · exact absurd (show nI (vs_st 0) ≤ 0 from by decide) c_13
set_option maxHeartbeats 4000000 in
set_option maxRecDepth 100000 in
/-- startOf(place) -/
theorem c_V_startOf (l : Launch) (dC : Nat → ClassId) (dI : Nat → Nat → Nat) (cA : ClassId) (sz : Nat) (vo h b : Nat) (f : Nat → Int32) (L : List (Nat → Int32)) (hwf : sh_wf 3 160 f L) (pl : Int32) (k : Nat) (hcut : vs_cut L pl 0 k) : Met l qy_V_startOf qw_V_startOf ({ frames := 2, cells := 0, slots := 0, locals := 49 }) (mk_ro [.ref vo, .int pl] sz (dC, dI) vwCl [(cA, .int)] (wV vo h b cA L.length f)) (mk_roQ (fun r => r = nI k) sz) 0 0 (mk_new sz) := by
  refine Met.ofW (cc := qb_V_startOf) (maxL := 2) (ret := (some .int)) (by decide) rfl ?_
  intro p e s m args below meth c s₁ B hml hpre
  obtain ⟨rfl, hsz, hP, hK⟩ := hpre
  have hx := B.exec
  have hb := B.bytes
  have hr := B.returns
  have hts0 := atoms_spec (ws := qw_V_startOf) B.pre
  have hts := fun w (h : w ∈ lw_gd) => hts0 w (List.mem_cons_of_mem _ h)
  have hown : s.vm.findClass qR_V = some m.cls := findClass_of_methodNamed B.named
  have hlocks := B.notSynchronized
  subst hsz
  have hA : ∀ q : Nat, s.heap.size ≤ q → mk_new s.heap.size q := fun _ h => h
  have hS : va_S (mk_new s.heap.size) s.heap s.heap [] := va_S.rf
  have hl := lv_entry ([.ref vo, .int pl]) (n := 2) (Nat.le_of_ble_eq_true rfl)
  rw [lg_entry_eq]
  generalize (lg_sl ([.ref vo, .int pl]) ++ List.replicate (2 - (lg_sl ([.ref vo, .int pl])).length) Slot.unset).toArray = ls at hl ⊢
  have hl : lv_has ls 2 [(0, .ref vo), (1, .int pl)] := hl
  have hP : va_P (dC, dI) vwCl (wV vo h b cA L.length f) s.heap := hP
  refine mk_start (A := (mk_new s.heap.size)) hP (fun H locs hP hS => ?_)
  refine lv_aload_n hx hb qd_V_startOf_0 rfl (lv_at hl 0 rfl) ?_
  refine lv_iload_n hx hb qd_V_startOf_1 rfl (lv_at hl 1 rfl) ?_
  refine lv_iconst (v := 0) hx hb qd_V_startOf_2 (by decide) ?_
  refine mk_calli (va_runV (As := [.int pl, .int 0]) (rest := []) ⟨hx, hb, hml, hown, hts⟩ (c_V_linesUpTo l dC dI cA H.size vo h b f L hwf pl 0 k hcut) (cwV 2 hts gc_V_32 rfl rfl rfl (by decide +kernel) ⟨Nat.le_of_ble_eq_true rfl, Nat.le_of_ble_eq_true rfl⟩) (mk_roV hP [0, 1, 2] rfl hK (va_recv hK hP (ci := 5) (q0 := 0) rfl rfl)) rfl rfl hl.1 rfl (lv_room (Nat.le_of_ble_eq_true rfl)) qd_V_startOf_3 ⟨(Nat.zero_le _), (Nat.zero_le _)⟩) hS hA hP (fun r_1 H locs hr_1 hP hS => ?_)
  obtain rfl : r_1 = nI k := hr_1
  exact mk_iret hx hb hr hlocks hS qd_V_startOf_6 (rfl)
set_option maxHeartbeats 4000000 in
set_option maxRecDepth 100000 in
/-- sizeAt(place) -/
theorem c_V_sizeAt (l : Launch) (dC : Nat → ClassId) (dI : Nat → Nat → Nat) (cA : ClassId) (sz : Nat) (vo h b : Nat) (f : Nat → Int32) (L : List (Nat → Int32)) (hwf : sh_wf 3 160 f L) (pl : Int32) (k k2 : Nat) (hcut : vs_cut L pl 0 k) (hcut2 : vs_cut L pl 100000 k2) (hkk : k ≤ k2) : Met l qy_V_sizeAt qw_V_sizeAt ({ frames := 3, cells := 0, slots := 0, locals := 70 }) (mk_ro [.ref vo, .int pl] sz (dC, dI) vwCl [(cA, .int)] (wV vo h b cA L.length f)) (mk_roQ (fun r => r = nI (k2 - k)) sz) 0 0 (mk_new sz) := by
  refine Met.ofW (cc := qb_V_sizeAt) (maxL := 2) (ret := (some .int)) (by decide) rfl ?_
  intro p e s m args below meth c s₁ B hml hpre
  obtain ⟨rfl, hsz, hP, hK⟩ := hpre
  have hx := B.exec
  have hb := B.bytes
  have hr := B.returns
  have hts0 := atoms_spec (ws := qw_V_sizeAt) B.pre
  have hts := fun w (h : w ∈ lw_gd) => hts0 w (List.mem_cons_of_mem _ h)
  have hown : s.vm.findClass qR_V = some m.cls := findClass_of_methodNamed B.named
  have hlocks := B.notSynchronized
  subst hsz
  have hA : ∀ q : Nat, s.heap.size ≤ q → mk_new s.heap.size q := fun _ h => h
  have hS : va_S (mk_new s.heap.size) s.heap s.heap [] := va_S.rf
  have hl := lv_entry ([.ref vo, .int pl]) (n := 2) (Nat.le_of_ble_eq_true rfl)
  rw [lg_entry_eq]
  generalize (lg_sl ([.ref vo, .int pl]) ++ List.replicate (2 - (lg_sl ([.ref vo, .int pl])).length) Slot.unset).toArray = ls at hl ⊢
  have hl : lv_has ls 2 [(0, .ref vo), (1, .int pl)] := hl
  have hP : va_P (dC, dI) vwCl (wV vo h b cA L.length f) s.heap := hP
  refine mk_start (A := (mk_new s.heap.size)) hP (fun H locs hP hS => ?_)
  refine lv_aload_n hx hb qd_V_sizeAt_0 rfl (lv_at hl 0 rfl) ?_
  refine lv_iload_n hx hb qd_V_sizeAt_1 rfl (lv_at hl 1 rfl) ?_
  refine lv_ldc (v := 100000) hx hb hown (hts _ mw_303) qd_V_sizeAt_2 ?_
  refine mk_calli (va_runV (As := [.int pl, .int 100000]) (rest := []) ⟨hx, hb, hml, hown, hts⟩ (c_V_linesUpTo l dC dI cA H.size vo h b f L hwf pl 100000 k2 hcut2) (cwV 2 hts gc_V_32 rfl rfl rfl (by decide +kernel) ⟨Nat.le_of_ble_eq_true rfl, Nat.le_of_ble_eq_true rfl⟩) (mk_roV hP [0, 1, 2] rfl hK (va_recv hK hP (ci := 5) (q0 := 0) rfl rfl)) rfl rfl hl.1 rfl (lv_room (Nat.le_of_ble_eq_true rfl)) qd_V_sizeAt_4 ⟨(Nat.zero_le _), (Nat.zero_le _)⟩) hS hA hP (fun r_1 H locs hr_1 hP hS => ?_)
  obtain rfl : r_1 = nI k2 := hr_1
  refine lv_aload_n hx hb qd_V_sizeAt_7 rfl (lv_at hl 0 rfl) ?_
  refine lv_iload_n hx hb qd_V_sizeAt_8 rfl (lv_at hl 1 rfl) ?_
  refine mk_calli (va_runV (As := [.int pl]) (rest := [.int (nI k2)]) ⟨hx, hb, hml, hown, hts⟩ (c_V_startOf l dC dI cA H.size vo h b f L hwf pl k hcut) (cwV 1 hts gc_V_36 rfl rfl rfl (by decide +kernel) ⟨Nat.le_of_ble_eq_true rfl, Nat.le_of_ble_eq_true rfl⟩) (mk_roV hP [0, 1, 2] rfl hK (va_recv hK hP (ci := 5) (q0 := 0) rfl rfl)) rfl rfl hl.1 rfl (lv_room (Nat.le_of_ble_eq_true rfl)) qd_V_sizeAt_9 ⟨(Nat.zero_le _), (Nat.zero_le _)⟩) hS hA hP (fun r_2 H locs hr_2 hP hS => ?_)
  obtain rfl : r_2 = nI k := hr_2
  refine lv_isub hx hb qd_V_sizeAt_12 ?_
  exact mk_iret hx hb hr hlocks hS qd_V_sizeAt_13 (pk_sub hkk)
set_option maxHeartbeats 4000000 in
set_option maxRecDepth 100000 in
/-- lineAsOf(place, from) -/
theorem c_V_lineAsOf (l : Launch) (dC : Nat → ClassId) (dI : Nat → Nat → Nat) (cA : ClassId) (sz : Nat) (vo h b : Nat) (f : Nat → Int32) (L : List (Nat → Int32)) (hwf : sh_wf 3 160 f L) (pl fr : Int32) (k : Nat) (hcut : vs_cut L pl fr k) (hpl : ¬ pl = -2) : Met l qy_V_lineAsOf qw_V_lineAsOf ({ frames := 2, cells := 0, slots := 0, locals := 49 }) (mk_ro [.ref vo, .int pl, .int fr] sz (dC, dI) vwCl [(cA, .int)] (wV vo h b cA L.length f)) (mk_roQ (fun r => vs_asof L pl k r) sz) 0 0 (mk_new sz) := by
  refine Met.ofW (cc := qb_V_lineAsOf) (maxL := 4) (ret := (some .int)) (by decide) rfl ?_
  intro p e s m args below meth c s₁ B hml hpre
  obtain ⟨rfl, hsz, hP, hK⟩ := hpre
  have hx := B.exec
  have hb := B.bytes
  have hr := B.returns
  have hts0 := atoms_spec (ws := qw_V_lineAsOf) B.pre
  have hts := fun w (h : w ∈ lw_gd) => hts0 w (List.mem_cons_of_mem _ h)
  have hown : s.vm.findClass qR_V = some m.cls := findClass_of_methodNamed B.named
  have hlocks := B.notSynchronized
  subst hsz
  have hA : ∀ q : Nat, s.heap.size ≤ q → mk_new s.heap.size q := fun _ h => h
  have hS : va_S (mk_new s.heap.size) s.heap s.heap [] := va_S.rf
  have hl := lv_entry ([.ref vo, .int pl, .int fr]) (n := 4) (Nat.le_of_ble_eq_true rfl)
  rw [lg_entry_eq]
  generalize (lg_sl ([.ref vo, .int pl, .int fr]) ++ List.replicate (4 - (lg_sl ([.ref vo, .int pl, .int fr])).length) Slot.unset).toArray = ls at hl ⊢
  have hl : lv_has ls 4 [(0, .ref vo), (1, .int pl), (2, .int fr)] := hl
  have hP : va_P (dC, dI) vwCl (wV vo h b cA L.length f) s.heap := hP
  refine mk_start (A := (mk_new s.heap.size)) hP (fun H locs hP hS => ?_)
  obtain ⟨hok, hlen, -, -, -⟩ := id hwf
  have hkl := hcut.1
  refine lv_aload_n hx hb qd_V_lineAsOf_0 rfl (lv_at hl 0 rfl) ?_
  refine lv_iload_n hx hb qd_V_lineAsOf_1 rfl (lv_at hl 1 rfl) ?_
  refine lv_iload_n hx hb qd_V_lineAsOf_2 rfl (lv_at hl 2 rfl) ?_
  refine mk_calli (va_runV (As := [.int pl, .int fr]) (rest := []) ⟨hx, hb, hml, hown, hts⟩ (c_V_linesUpTo l dC dI cA H.size vo h b f L hwf pl fr k hcut) (cwV 2 hts gc_V_32 rfl rfl rfl (by decide +kernel) ⟨Nat.le_of_ble_eq_true rfl, Nat.le_of_ble_eq_true rfl⟩) (mk_roV hP [0, 1, 2] rfl hK (va_recv hK hP (ci := 5) (q0 := 0) rfl rfl)) rfl rfl hl.1 rfl (lv_room (Nat.le_of_ble_eq_true rfl)) qd_V_lineAsOf_3 ⟨(Nat.zero_le _), (Nat.zero_le _)⟩) hS hA hP (fun r_1 H locs hr_1 hP hS => ?_)
  obtain rfl : r_1 = nI k := hr_1
  refine lv_iconst (v := 1) hx hb qd_V_lineAsOf_6 (by decide) ?_
  refine lv_isub hx hb qd_V_lineAsOf_7 ?_
  refine lv_istore_n (lv' := [(3, .int ((nI k) - 1)), (0, .ref vo), (1, .int pl), (2, .int fr)]) hx hb qd_V_lineAsOf_8 rfl hl (by decide) rfl (fun ls hl => ?_)
  refine lv_aload_n hx hb qd_V_lineAsOf_9 rfl (lv_at hl 1 rfl) ?_
  refine va_get (D := (dC, dI)) (ci := 5) (v := .ref h) (C := qR_V) (T := qT_V) (N := 1) hx hb hts qin_V hown hK hP 0 rfl rfl 0 (by decide) (hts _ mw_80) (fun _ h9 => h9) rfl qd_V_lineAsOf_10 ?_
  refine lv_iload_n hx hb qd_V_lineAsOf_13 rfl (lv_at hl 0 rfl) ?_
  refine lv_iconst (v := 2) hx hb qd_V_lineAsOf_14 (by decide) ?_
  refine mk_calli (va_runV (As := [.int ((nI k) - 1), .int 2]) (rest := []) ⟨hx, hb, hml, hown, hts⟩ (c_Sh_get l dC dI cA H.size h b 3 160 f L hwf ((nI k) - 1) 2) (cwV 2 hts gc_V_24 rfl rfl rfl (by decide +kernel) ⟨Nat.le_of_ble_eq_true rfl, Nat.le_of_ble_eq_true rfl⟩) (mk_roV hP [1, 2] rfl hK (va_recv hK hP (ci := 4) (q0 := 1) rfl rfl)) rfl rfl hl.1 rfl (lv_room (Nat.le_of_ble_eq_true rfl)) qd_V_lineAsOf_15 ⟨(Nat.zero_le _), (Nat.zero_le _)⟩) hS hA hP (fun r_2 H locs hr_2 hP hS => ?_)
  have hr_2 : r_2 = sh_get 3 L ((nI k) - 1) 2 := hr_2
  refine lv_iload_n hx hb qd_V_lineAsOf_18 rfl (lv_at hl 2 rfl) ?_
  refine lv_icmp_ne (tgt := 39) hx hb qd_V_lineAsOf_19 (by decide) (fun c_3 => ?_) (fun c_3 => ?_)
  · refine lv_iconst (v := (-1)) hx hb qd_V_lineAsOf_39 (by decide) ?_
    exact mk_iret hx hb hr hlocks hS qd_V_lineAsOf_40 (vs_a1 (by omega) hr_2 c_3)
  · refine lv_aload_n hx hb qd_V_lineAsOf_22 rfl (lv_at hl 1 rfl) ?_
    refine va_get (D := (dC, dI)) (ci := 5) (v := .ref h) (C := qR_V) (T := qT_V) (N := 1) hx hb hts qin_V hown hK hP 0 rfl rfl 0 (by decide) (hts _ mw_80) (fun _ h9 => h9) rfl qd_V_lineAsOf_23 ?_
    refine lv_iload_n hx hb qd_V_lineAsOf_26 rfl (lv_at hl 0 rfl) ?_
    refine lv_iconst (v := 1) hx hb qd_V_lineAsOf_27 (by decide) ?_
    refine mk_calli (va_runV (As := [.int ((nI k) - 1), .int 1]) (rest := []) ⟨hx, hb, hml, hown, hts⟩ (c_Sh_get l dC dI cA H.size h b 3 160 f L hwf ((nI k) - 1) 1) (cwV 2 hts gc_V_24 rfl rfl rfl (by decide +kernel) ⟨Nat.le_of_ble_eq_true rfl, Nat.le_of_ble_eq_true rfl⟩) (mk_roV hP [1, 2] rfl hK (va_recv hK hP (ci := 4) (q0 := 1) rfl rfl)) rfl rfl hl.1 rfl (lv_room (Nat.le_of_ble_eq_true rfl)) qd_V_lineAsOf_28 ⟨(Nat.zero_le _), (Nat.zero_le _)⟩) hS hA hP (fun r_4 H locs hr_4 hP hS => ?_)
    have hr_4 : r_4 = sh_get 3 L ((nI k) - 1) 1 := hr_4
    refine lv_iconst (v := (-1)) hx hb qd_V_lineAsOf_31 (by decide) ?_
    refine lv_icmp_eq (tgt := 39) hx hb qd_V_lineAsOf_32 (by decide) (fun c_5 => ?_) (fun c_5 => ?_)
    · refine lv_iconst (v := (-1)) hx hb qd_V_lineAsOf_39 (by decide) ?_
      exact mk_iret hx hb hr hlocks hS qd_V_lineAsOf_40 (vs_a2 (by omega) hr_4 c_5)
    · refine lv_iload_n hx hb qd_V_lineAsOf_35 rfl (lv_at hl 0 rfl) ?_
      refine lv_goto (tgt := 40) hx hb qd_V_lineAsOf_36 (by decide) ?_
      exact mk_iret hx hb hr hlocks hS qd_V_lineAsOf_40 (vs_a3 (by omega) hkl hpl hr_2 hr_4 c_3 c_5)
set_option maxHeartbeats 4000000 in
set_option maxRecDepth 100000 in
/-- put(place, from, value) -/
theorem c_V_put (l : Launch) (dC : Nat → ClassId) (dI : Nat → Nat → Nat) (cA : ClassId) (sz : Nat) (vo h b : Nat) (f : Nat → Int32) (L : List (Nat → Int32)) (hwf : sh_wf 3 160 f L) (pl fr vl : Int32) (k : Nat) (hcut : vs_cut L pl fr k) (hpl : ¬ pl = -2) (hroom : L.length < 160) : Met l qy_V_put qw_V_put ({ frames := 2, cells := 0, slots := 0, locals := 82 }) (mk_mu [.ref vo, .int pl, .int fr, .int vl] sz (dC, dI) vwCl [(cA, .int)] (wV vo h b cA L.length f)) (mk_muV (S := List (Nat → Int32) × (Nat → Int32)) (fun u => vs_put L pl fr vl k u.1 ∧ sh_ok 3 u.2 u.1) (fun u => wV vo h b cA u.1.length u.2) (dC, dI) vwCl [(cA, .int)] (va_A (wV vo h b cA L.length f) sz)) 0 0 (va_A (wV vo h b cA L.length f) sz) := by
  refine Met.ofW (cc := qb_V_put) (maxL := 5) (ret := none) (by decide) rfl ?_
  intro p e s m args below meth c s₁ B hml hpre
  obtain ⟨rfl, hsz, hP, hK, hD0⟩ := hpre
  have hx := B.exec
  have hb := B.bytes
  have hr := B.returns
  have hts0 := atoms_spec (ws := qw_V_put) B.pre
  have hts := fun w (h : w ∈ lw_gd) => hts0 w (List.mem_cons_of_mem _ h)
  have hown : s.vm.findClass qR_V = some m.cls := findClass_of_methodNamed B.named
  have hlocks := B.notSynchronized
  subst hsz
  have hD := hD0.self (sz := s.heap.size)
  generalize hAe : va_A (wV vo h b cA L.length f) s.heap.size = A at hD ⊢
  have hA : ∀ q : Nat, s.heap.size ≤ q → A q := fun q h => by rw [← hAe]; exact Or.inr h
  have hS : va_S A s.heap s.heap [] := va_S.rf
  have hl := lv_entry ([.ref vo, .int pl, .int fr, .int vl]) (n := 5) (Nat.le_of_ble_eq_true rfl)
  rw [lg_entry_eq]
  generalize (lg_sl ([.ref vo, .int pl, .int fr, .int vl]) ++ List.replicate (5 - (lg_sl ([.ref vo, .int pl, .int fr, .int vl])).length) Slot.unset).toArray = ls at hl ⊢
  have hl : lv_has ls 5 [(0, .ref vo), (1, .int pl), (2, .int fr), (3, .int vl)] := hl
  have hP : va_P (dC, dI) vwCl (wV vo h b cA L.length f) s.heap := hP
  refine mk_start (A := A) hP (fun H locs hP hS => ?_)
  obtain ⟨hok, hlen, -, -, -⟩ := id hwf
  have hkl := hcut.1
  refine lv_aload_n hx hb qd_V_put_0 rfl (lv_at hl 0 rfl) ?_
  refine lv_iload_n hx hb qd_V_put_1 rfl (lv_at hl 1 rfl) ?_
  refine lv_iload_n hx hb qd_V_put_2 rfl (lv_at hl 2 rfl) ?_
  refine mk_calli (va_runV (As := [.int pl, .int fr]) (rest := []) ⟨hx, hb, hml, hown, hts⟩ (c_V_linesUpTo l dC dI cA H.size vo h b f L hwf pl fr k hcut) (cwV 2 hts gc_V_32 rfl rfl rfl (by decide +kernel) ⟨Nat.le_of_ble_eq_true rfl, Nat.le_of_ble_eq_true rfl⟩) (mk_roV hP [0, 1, 2] rfl hK (va_recv hK hP (ci := 5) (q0 := 0) rfl rfl)) rfl rfl hl.1 rfl (lv_room (Nat.le_of_ble_eq_true rfl)) qd_V_put_3 ⟨(Nat.zero_le _), (Nat.zero_le _)⟩) hS hA hP (fun r_1 H locs hr_1 hP hS => ?_)
  obtain rfl : r_1 = nI k := hr_1
  refine lv_istore (lv' := [(4, .int (nI k)), (0, .ref vo), (1, .int pl), (2, .int fr), (3, .int vl)]) hx hb qd_V_put_6 hl (by decide) rfl (fun ls hl => ?_)
  refine lv_aload_n hx hb qd_V_put_8 rfl (lv_at hl 1 rfl) ?_
  refine va_get (D := (dC, dI)) (ci := 5) (v := .ref h) (C := qR_V) (T := qT_V) (N := 1) hx hb hts qin_V hown hK hP 0 rfl rfl 0 (by decide) (hts _ mw_80) (fun _ h9 => h9) rfl qd_V_put_9 ?_
  refine lv_iload hx hb qd_V_put_12 (lv_at hl 0 rfl) ?_
  refine lv_iconst (v := 1) hx hb qd_V_put_14 (by decide) ?_
  refine lv_isub hx hb qd_V_put_15 ?_
  refine lv_iconst (v := 2) hx hb qd_V_put_16 (by decide) ?_
  refine mk_calli (va_runV (As := [.int ((nI k) - 1), .int 2]) (rest := []) ⟨hx, hb, hml, hown, hts⟩ (c_Sh_get l dC dI cA H.size h b 3 160 f L hwf ((nI k) - 1) 2) (cwV 2 hts gc_V_24 rfl rfl rfl (by decide +kernel) ⟨Nat.le_of_ble_eq_true rfl, Nat.le_of_ble_eq_true rfl⟩) (mk_roV hP [1, 2] rfl hK (va_recv hK hP (ci := 4) (q0 := 1) rfl rfl)) rfl rfl hl.1 rfl (lv_room (Nat.le_of_ble_eq_true rfl)) qd_V_put_17 ⟨(Nat.zero_le _), (Nat.zero_le _)⟩) hS hA hP (fun r_2 H locs hr_2 hP hS => ?_)
  have hr_2 : r_2 = sh_get 3 L ((nI k) - 1) 2 := hr_2
  refine lv_iload_n hx hb qd_V_put_20 rfl (lv_at hl 2 rfl) ?_
  refine lv_icmp_ne (tgt := 56) hx hb qd_V_put_21 (by decide) (fun c_3 => ?_) (fun c_3 => ?_)
  · have hmiss := vs_p2 (fr := fr) (by omega) hr_2 c_3
    refine lv_aload_n hx hb qd_V_put_56 rfl (lv_at hl 1 rfl) ?_
    refine va_get (D := (dC, dI)) (ci := 5) (v := .ref h) (C := qR_V) (T := qT_V) (N := 1) hx hb hts qin_V hown hK hP 0 rfl rfl 0 (by decide) (hts _ mw_80) (fun _ h9 => h9) rfl qd_V_put_57 ?_
    refine lv_iload hx hb qd_V_put_60 (lv_at hl 0 rfl) ?_
    refine mk_mcalli (wr := [(vo, .inr (5, [.ref h]))]) (wf := (fun u => wV vo h b cA u.1.length u.2)) (va_runV (As := [.int (nI k)]) (rest := []) ⟨hx, hb, hml, hown, hts⟩ (c_Sh_open l dC dI cA H.size h b 3 160 f L hwf k hkl hroom) (cwV 1 hts gc_V_44 rfl rfl rfl (by decide +kernel) ⟨Nat.le_of_ble_eq_true rfl, Nat.le_of_ble_eq_true rfl⟩) (mk_muP hP hD [1, 2] (by decide) rfl hK (va_recv hK hP (ci := 4) (q0 := 1) rfl rfl)) rfl rfl hl.1 rfl (lv_room (Nat.le_of_ble_eq_true rfl)) qd_V_put_62 ⟨(Nat.zero_le _), (Nat.zero_le _)⟩) hS hA hP hD [1, 2] [0] [0, 1, 2] rfl rfl (by decide) (by decide) (by decide) (fun _ => rfl) (fun r_4 u_5 H locs hr_4 hP hD hS => ?_)
    obtain ⟨L1, f1⟩ := u_5
    obtain ⟨rfl, rfl, hok1⟩ : r_4 = 1 ∧ L1 = L.take k ++ (fun j => f (k * 3 + j)) :: L.drop k ∧ sh_ok 3 f1 L1 := hr_4
    have hP : va_P (dC, dI) vwCl (wV vo h b cA ((L.take k ++ (fun j => f (k * 3 + j)) :: L.drop k).length) f1) H := hP
    have hD : va_D A (wV vo h b cA ((L.take k ++ (fun j => f (k * 3 + j)) :: L.drop k).length) f1) := hD
    refine lv_if_eq (tgt := 101) hx hb qd_V_put_65 (by decide) (fun c_6 => ?_) (fun c_6 => ?_)
    · exact absurd c_6 (by decide)
    · refine lv_aload_n hx hb qd_V_put_68 rfl (lv_at hl 1 rfl) ?_
      refine va_get (D := (dC, dI)) (ci := 5) (v := .ref h) (C := qR_V) (T := qT_V) (N := 1) hx hb hts qin_V hown hK hP 0 rfl rfl 0 (by decide) (hts _ mw_80) (fun _ h9 => h9) rfl qd_V_put_69 ?_
      refine lv_iload hx hb qd_V_put_72 (lv_at hl 0 rfl) ?_
      refine lv_iconst (v := 0) hx hb qd_V_put_74 (by decide) ?_
      refine lv_iload_n hx hb qd_V_put_75 rfl (lv_at hl 3 rfl) ?_
      have hwf1 : sh_wf 3 160 f1 (L.take k ++ (fun j => f (k * 3 + j)) :: L.drop k) := ⟨hok1, by rw [ls_ins_len hkl]; omega, by decide, by decide, by decide⟩
      refine mk_mcallv (wr := [(vo, .inr (5, [.ref h]))]) (wf := (fun u => wV vo h b cA u.1.length u.2)) (va_runV (As := [.int (nI k), .int 0, .int fr]) (rest := []) ⟨hx, hb, hml, hown, hts⟩ (c_Sh_set l dC dI cA H.size h b 3 160 f1 (L.take k ++ (fun j => f (k * 3 + j)) :: L.drop k) hwf1 k 0 fr (fun j => f (k * 3 + j)) (ls_ins_at hkl) (by decide)) (cwV 3 hts gc_V_40 rfl rfl rfl (by decide +kernel) ⟨Nat.le_of_ble_eq_true rfl, Nat.le_of_ble_eq_true rfl⟩) (mk_muP hP hD [1, 2] (by decide) rfl hK (va_recv hK hP (ci := 4) (q0 := 1) rfl rfl)) rfl rfl hl.1 rfl (lv_room (Nat.le_of_ble_eq_true rfl)) qd_V_put_76 ⟨(Nat.zero_le _), (Nat.zero_le _)⟩) hS hA hP hD [1, 2] [0] [0, 1, 2] rfl rfl (by decide) (by decide) (by decide) (fun _ => rfl) (fun u_8 H locs hu_8 hP hD hS => ?_)
      obtain ⟨L1, f2⟩ := u_8
      have hu_8 : L1 = (L.take k ++ (fun j => f (k * 3 + j)) :: L.drop k).set k (upd (fun j => f (k * 3 + j)) 0 fr) ∧ sh_ok 3 f2 L1 := hu_8
      rw [ls_ins_set hkl] at hu_8
      obtain ⟨rfl, hok2⟩ := hu_8
      have hP : va_P (dC, dI) vwCl (wV vo h b cA ((L.take k ++ (upd (fun j => f (k * 3 + j)) 0 fr) :: L.drop k).length) f2) H := hP
      have hD : va_D A (wV vo h b cA ((L.take k ++ (upd (fun j => f (k * 3 + j)) 0 fr) :: L.drop k).length) f2) := hD
      refine lv_aload_n hx hb qd_V_put_79 rfl (lv_at hl 1 rfl) ?_
      refine va_get (D := (dC, dI)) (ci := 5) (v := .ref h) (C := qR_V) (T := qT_V) (N := 1) hx hb hts qin_V hown hK hP 0 rfl rfl 0 (by decide) (hts _ mw_80) (fun _ h9 => h9) rfl qd_V_put_80 ?_
      refine lv_iload hx hb qd_V_put_83 (lv_at hl 0 rfl) ?_
      refine lv_iconst (v := 1) hx hb qd_V_put_85 (by decide) ?_
      refine lv_iload_n hx hb qd_V_put_86 rfl (lv_at hl 4 rfl) ?_
      have hwf2 : sh_wf 3 160 f2 (L.take k ++ (upd (fun j => f (k * 3 + j)) 0 fr) :: L.drop k) := ⟨hok2, by rw [ls_ins_len hkl]; omega, by decide, by decide, by decide⟩
      refine mk_mcallv (wr := [(vo, .inr (5, [.ref h]))]) (wf := (fun u => wV vo h b cA u.1.length u.2)) (va_runV (As := [.int (nI k), .int 1, .int vl]) (rest := []) ⟨hx, hb, hml, hown, hts⟩ (c_Sh_set l dC dI cA H.size h b 3 160 f2 (L.take k ++ (upd (fun j => f (k * 3 + j)) 0 fr) :: L.drop k) hwf2 k 1 vl (upd (fun j => f (k * 3 + j)) 0 fr) (ls_ins_at hkl) (by decide)) (cwV 3 hts gc_V_40 rfl rfl rfl (by decide +kernel) ⟨Nat.le_of_ble_eq_true rfl, Nat.le_of_ble_eq_true rfl⟩) (mk_muP hP hD [1, 2] (by decide) rfl hK (va_recv hK hP (ci := 4) (q0 := 1) rfl rfl)) rfl rfl hl.1 rfl (lv_room (Nat.le_of_ble_eq_true rfl)) qd_V_put_87 ⟨(Nat.zero_le _), (Nat.zero_le _)⟩) hS hA hP hD [1, 2] [0] [0, 1, 2] rfl rfl (by decide) (by decide) (by decide) (fun _ => rfl) (fun u_10 H locs hu_10 hP hD hS => ?_)
      obtain ⟨L1, f3⟩ := u_10
      have hu_10 : L1 = (L.take k ++ (upd (fun j => f (k * 3 + j)) 0 fr) :: L.drop k).set k (upd (upd (fun j => f (k * 3 + j)) 0 fr) 1 vl) ∧ sh_ok 3 f3 L1 := hu_10
      rw [ls_ins_set hkl] at hu_10
      obtain ⟨rfl, hok3⟩ := hu_10
      have hP : va_P (dC, dI) vwCl (wV vo h b cA ((L.take k ++ (upd (upd (fun j => f (k * 3 + j)) 0 fr) 1 vl) :: L.drop k).length) f3) H := hP
      have hD : va_D A (wV vo h b cA ((L.take k ++ (upd (upd (fun j => f (k * 3 + j)) 0 fr) 1 vl) :: L.drop k).length) f3) := hD
      refine lv_aload_n hx hb qd_V_put_90 rfl (lv_at hl 1 rfl) ?_
      refine va_get (D := (dC, dI)) (ci := 5) (v := .ref h) (C := qR_V) (T := qT_V) (N := 1) hx hb hts qin_V hown hK hP 0 rfl rfl 0 (by decide) (hts _ mw_80) (fun _ h9 => h9) rfl qd_V_put_91 ?_
      refine lv_iload hx hb qd_V_put_94 (lv_at hl 0 rfl) ?_
      refine lv_iconst (v := 2) hx hb qd_V_put_96 (by decide) ?_
      refine lv_iload_n hx hb qd_V_put_97 rfl (lv_at hl 2 rfl) ?_
      have hwf3 : sh_wf 3 160 f3 (L.take k ++ (upd (upd (fun j => f (k * 3 + j)) 0 fr) 1 vl) :: L.drop k) := ⟨hok3, by rw [ls_ins_len hkl]; omega, by decide, by decide, by decide⟩
      refine mk_mcallv (wr := [(vo, .inr (5, [.ref h]))]) (wf := (fun u => wV vo h b cA u.1.length u.2)) (va_runV (As := [.int (nI k), .int 2, .int pl]) (rest := []) ⟨hx, hb, hml, hown, hts⟩ (c_Sh_set l dC dI cA H.size h b 3 160 f3 (L.take k ++ (upd (upd (fun j => f (k * 3 + j)) 0 fr) 1 vl) :: L.drop k) hwf3 k 2 pl (upd (upd (fun j => f (k * 3 + j)) 0 fr) 1 vl) (ls_ins_at hkl) (by decide)) (cwV 3 hts gc_V_40 rfl rfl rfl (by decide +kernel) ⟨Nat.le_of_ble_eq_true rfl, Nat.le_of_ble_eq_true rfl⟩) (mk_muP hP hD [1, 2] (by decide) rfl hK (va_recv hK hP (ci := 4) (q0 := 1) rfl rfl)) rfl rfl hl.1 rfl (lv_room (Nat.le_of_ble_eq_true rfl)) qd_V_put_98 ⟨(Nat.zero_le _), (Nat.zero_le _)⟩) hS hA hP hD [1, 2] [0] [0, 1, 2] rfl rfl (by decide) (by decide) (by decide) (fun _ => rfl) (fun u_12 H locs hu_12 hP hD hS => ?_)
      obtain ⟨L1, f4⟩ := u_12
      have hu_12 : L1 = (L.take k ++ (upd (upd (fun j => f (k * 3 + j)) 0 fr) 1 vl) :: L.drop k).set k (upd (upd (upd (fun j => f (k * 3 + j)) 0 fr) 1 vl) 2 pl) ∧ sh_ok 3 f4 L1 := hu_12
      rw [ls_ins_set hkl] at hu_12
      obtain ⟨rfl, hok4⟩ := hu_12
      have hP : va_P (dC, dI) vwCl (wV vo h b cA ((L.take k ++ (upd (upd (upd (fun j => f (k * 3 + j)) 0 fr) 1 vl) 2 pl) :: L.drop k).length) f4) H := hP
      have hD : va_D A (wV vo h b cA ((L.take k ++ (upd (upd (upd (fun j => f (k * 3 + j)) 0 fr) 1 vl) 2 pl) :: L.drop k).length) f4) := hD
      exact mk_mvret (L.take k ++ (upd (upd (upd (fun j => f (k * 3 + j)) 0 fr) 1 vl) 2 pl) :: L.drop k, f4) hx hb hr hlocks hP hK hD hS qd_V_put_101 (⟨Or.inr ⟨hmiss, (upd (upd (upd (fun j => f (k * 3 + j)) 0 fr) 1 vl) 2 pl), rfl, rfl, rfl, rfl⟩, hok4⟩)
  · refine lv_aload_n hx hb qd_V_put_24 rfl (lv_at hl 1 rfl) ?_
    refine va_get (D := (dC, dI)) (ci := 5) (v := .ref h) (C := qR_V) (T := qT_V) (N := 1) hx hb hts qin_V hown hK hP 0 rfl rfl 0 (by decide) (hts _ mw_80) (fun _ h9 => h9) rfl qd_V_put_25 ?_
    refine lv_iload hx hb qd_V_put_28 (lv_at hl 0 rfl) ?_
    refine lv_iconst (v := 1) hx hb qd_V_put_30 (by decide) ?_
    refine lv_isub hx hb qd_V_put_31 ?_
    refine lv_iconst (v := 0) hx hb qd_V_put_32 (by decide) ?_
    refine mk_calli (va_runV (As := [.int ((nI k) - 1), .int 0]) (rest := []) ⟨hx, hb, hml, hown, hts⟩ (c_Sh_get l dC dI cA H.size h b 3 160 f L hwf ((nI k) - 1) 0) (cwV 2 hts gc_V_24 rfl rfl rfl (by decide +kernel) ⟨Nat.le_of_ble_eq_true rfl, Nat.le_of_ble_eq_true rfl⟩) (mk_roV hP [1, 2] rfl hK (va_recv hK hP (ci := 4) (q0 := 1) rfl rfl)) rfl rfl hl.1 rfl (lv_room (Nat.le_of_ble_eq_true rfl)) qd_V_put_33 ⟨(Nat.zero_le _), (Nat.zero_le _)⟩) hS hA hP (fun r_13 H locs hr_13 hP hS => ?_)
    have hr_13 : r_13 = sh_get 3 L ((nI k) - 1) 0 := hr_13
    refine lv_iload_n hx hb qd_V_put_36 rfl (lv_at hl 3 rfl) ?_
    refine lv_icmp_ne (tgt := 56) hx hb qd_V_put_37 (by decide) (fun c_14 => ?_) (fun c_14 => ?_)
    · have hmiss := vs_p3 (pl := pl) (by omega) hr_13 c_14
      refine lv_aload_n hx hb qd_V_put_56 rfl (lv_at hl 1 rfl) ?_
      refine va_get (D := (dC, dI)) (ci := 5) (v := .ref h) (C := qR_V) (T := qT_V) (N := 1) hx hb hts qin_V hown hK hP 0 rfl rfl 0 (by decide) (hts _ mw_80) (fun _ h9 => h9) rfl qd_V_put_57 ?_
      refine lv_iload hx hb qd_V_put_60 (lv_at hl 0 rfl) ?_
      refine mk_mcalli (wr := [(vo, .inr (5, [.ref h]))]) (wf := (fun u => wV vo h b cA u.1.length u.2)) (va_runV (As := [.int (nI k)]) (rest := []) ⟨hx, hb, hml, hown, hts⟩ (c_Sh_open l dC dI cA H.size h b 3 160 f L hwf k hkl hroom) (cwV 1 hts gc_V_44 rfl rfl rfl (by decide +kernel) ⟨Nat.le_of_ble_eq_true rfl, Nat.le_of_ble_eq_true rfl⟩) (mk_muP hP hD [1, 2] (by decide) rfl hK (va_recv hK hP (ci := 4) (q0 := 1) rfl rfl)) rfl rfl hl.1 rfl (lv_room (Nat.le_of_ble_eq_true rfl)) qd_V_put_62 ⟨(Nat.zero_le _), (Nat.zero_le _)⟩) hS hA hP hD [1, 2] [0] [0, 1, 2] rfl rfl (by decide) (by decide) (by decide) (fun _ => rfl) (fun r_15 u_16 H locs hr_15 hP hD hS => ?_)
      obtain ⟨L1, f1⟩ := u_16
      obtain ⟨rfl, rfl, hok1⟩ : r_15 = 1 ∧ L1 = L.take k ++ (fun j => f (k * 3 + j)) :: L.drop k ∧ sh_ok 3 f1 L1 := hr_15
      have hP : va_P (dC, dI) vwCl (wV vo h b cA ((L.take k ++ (fun j => f (k * 3 + j)) :: L.drop k).length) f1) H := hP
      have hD : va_D A (wV vo h b cA ((L.take k ++ (fun j => f (k * 3 + j)) :: L.drop k).length) f1) := hD
      refine lv_if_eq (tgt := 101) hx hb qd_V_put_65 (by decide) (fun c_17 => ?_) (fun c_17 => ?_)
      · exact absurd c_17 (by decide)
      · refine lv_aload_n hx hb qd_V_put_68 rfl (lv_at hl 1 rfl) ?_
        refine va_get (D := (dC, dI)) (ci := 5) (v := .ref h) (C := qR_V) (T := qT_V) (N := 1) hx hb hts qin_V hown hK hP 0 rfl rfl 0 (by decide) (hts _ mw_80) (fun _ h9 => h9) rfl qd_V_put_69 ?_
        refine lv_iload hx hb qd_V_put_72 (lv_at hl 0 rfl) ?_
        refine lv_iconst (v := 0) hx hb qd_V_put_74 (by decide) ?_
        refine lv_iload_n hx hb qd_V_put_75 rfl (lv_at hl 3 rfl) ?_
        have hwf1 : sh_wf 3 160 f1 (L.take k ++ (fun j => f (k * 3 + j)) :: L.drop k) := ⟨hok1, by rw [ls_ins_len hkl]; omega, by decide, by decide, by decide⟩
        refine mk_mcallv (wr := [(vo, .inr (5, [.ref h]))]) (wf := (fun u => wV vo h b cA u.1.length u.2)) (va_runV (As := [.int (nI k), .int 0, .int fr]) (rest := []) ⟨hx, hb, hml, hown, hts⟩ (c_Sh_set l dC dI cA H.size h b 3 160 f1 (L.take k ++ (fun j => f (k * 3 + j)) :: L.drop k) hwf1 k 0 fr (fun j => f (k * 3 + j)) (ls_ins_at hkl) (by decide)) (cwV 3 hts gc_V_40 rfl rfl rfl (by decide +kernel) ⟨Nat.le_of_ble_eq_true rfl, Nat.le_of_ble_eq_true rfl⟩) (mk_muP hP hD [1, 2] (by decide) rfl hK (va_recv hK hP (ci := 4) (q0 := 1) rfl rfl)) rfl rfl hl.1 rfl (lv_room (Nat.le_of_ble_eq_true rfl)) qd_V_put_76 ⟨(Nat.zero_le _), (Nat.zero_le _)⟩) hS hA hP hD [1, 2] [0] [0, 1, 2] rfl rfl (by decide) (by decide) (by decide) (fun _ => rfl) (fun u_19 H locs hu_19 hP hD hS => ?_)
        obtain ⟨L1, f2⟩ := u_19
        have hu_19 : L1 = (L.take k ++ (fun j => f (k * 3 + j)) :: L.drop k).set k (upd (fun j => f (k * 3 + j)) 0 fr) ∧ sh_ok 3 f2 L1 := hu_19
        rw [ls_ins_set hkl] at hu_19
        obtain ⟨rfl, hok2⟩ := hu_19
        have hP : va_P (dC, dI) vwCl (wV vo h b cA ((L.take k ++ (upd (fun j => f (k * 3 + j)) 0 fr) :: L.drop k).length) f2) H := hP
        have hD : va_D A (wV vo h b cA ((L.take k ++ (upd (fun j => f (k * 3 + j)) 0 fr) :: L.drop k).length) f2) := hD
        refine lv_aload_n hx hb qd_V_put_79 rfl (lv_at hl 1 rfl) ?_
        refine va_get (D := (dC, dI)) (ci := 5) (v := .ref h) (C := qR_V) (T := qT_V) (N := 1) hx hb hts qin_V hown hK hP 0 rfl rfl 0 (by decide) (hts _ mw_80) (fun _ h9 => h9) rfl qd_V_put_80 ?_
        refine lv_iload hx hb qd_V_put_83 (lv_at hl 0 rfl) ?_
        refine lv_iconst (v := 1) hx hb qd_V_put_85 (by decide) ?_
        refine lv_iload_n hx hb qd_V_put_86 rfl (lv_at hl 4 rfl) ?_
        have hwf2 : sh_wf 3 160 f2 (L.take k ++ (upd (fun j => f (k * 3 + j)) 0 fr) :: L.drop k) := ⟨hok2, by rw [ls_ins_len hkl]; omega, by decide, by decide, by decide⟩
        refine mk_mcallv (wr := [(vo, .inr (5, [.ref h]))]) (wf := (fun u => wV vo h b cA u.1.length u.2)) (va_runV (As := [.int (nI k), .int 1, .int vl]) (rest := []) ⟨hx, hb, hml, hown, hts⟩ (c_Sh_set l dC dI cA H.size h b 3 160 f2 (L.take k ++ (upd (fun j => f (k * 3 + j)) 0 fr) :: L.drop k) hwf2 k 1 vl (upd (fun j => f (k * 3 + j)) 0 fr) (ls_ins_at hkl) (by decide)) (cwV 3 hts gc_V_40 rfl rfl rfl (by decide +kernel) ⟨Nat.le_of_ble_eq_true rfl, Nat.le_of_ble_eq_true rfl⟩) (mk_muP hP hD [1, 2] (by decide) rfl hK (va_recv hK hP (ci := 4) (q0 := 1) rfl rfl)) rfl rfl hl.1 rfl (lv_room (Nat.le_of_ble_eq_true rfl)) qd_V_put_87 ⟨(Nat.zero_le _), (Nat.zero_le _)⟩) hS hA hP hD [1, 2] [0] [0, 1, 2] rfl rfl (by decide) (by decide) (by decide) (fun _ => rfl) (fun u_21 H locs hu_21 hP hD hS => ?_)
        obtain ⟨L1, f3⟩ := u_21
        have hu_21 : L1 = (L.take k ++ (upd (fun j => f (k * 3 + j)) 0 fr) :: L.drop k).set k (upd (upd (fun j => f (k * 3 + j)) 0 fr) 1 vl) ∧ sh_ok 3 f3 L1 := hu_21
        rw [ls_ins_set hkl] at hu_21
        obtain ⟨rfl, hok3⟩ := hu_21
        have hP : va_P (dC, dI) vwCl (wV vo h b cA ((L.take k ++ (upd (upd (fun j => f (k * 3 + j)) 0 fr) 1 vl) :: L.drop k).length) f3) H := hP
        have hD : va_D A (wV vo h b cA ((L.take k ++ (upd (upd (fun j => f (k * 3 + j)) 0 fr) 1 vl) :: L.drop k).length) f3) := hD
        refine lv_aload_n hx hb qd_V_put_90 rfl (lv_at hl 1 rfl) ?_
        refine va_get (D := (dC, dI)) (ci := 5) (v := .ref h) (C := qR_V) (T := qT_V) (N := 1) hx hb hts qin_V hown hK hP 0 rfl rfl 0 (by decide) (hts _ mw_80) (fun _ h9 => h9) rfl qd_V_put_91 ?_
        refine lv_iload hx hb qd_V_put_94 (lv_at hl 0 rfl) ?_
        refine lv_iconst (v := 2) hx hb qd_V_put_96 (by decide) ?_
        refine lv_iload_n hx hb qd_V_put_97 rfl (lv_at hl 2 rfl) ?_
        have hwf3 : sh_wf 3 160 f3 (L.take k ++ (upd (upd (fun j => f (k * 3 + j)) 0 fr) 1 vl) :: L.drop k) := ⟨hok3, by rw [ls_ins_len hkl]; omega, by decide, by decide, by decide⟩
        refine mk_mcallv (wr := [(vo, .inr (5, [.ref h]))]) (wf := (fun u => wV vo h b cA u.1.length u.2)) (va_runV (As := [.int (nI k), .int 2, .int pl]) (rest := []) ⟨hx, hb, hml, hown, hts⟩ (c_Sh_set l dC dI cA H.size h b 3 160 f3 (L.take k ++ (upd (upd (fun j => f (k * 3 + j)) 0 fr) 1 vl) :: L.drop k) hwf3 k 2 pl (upd (upd (fun j => f (k * 3 + j)) 0 fr) 1 vl) (ls_ins_at hkl) (by decide)) (cwV 3 hts gc_V_40 rfl rfl rfl (by decide +kernel) ⟨Nat.le_of_ble_eq_true rfl, Nat.le_of_ble_eq_true rfl⟩) (mk_muP hP hD [1, 2] (by decide) rfl hK (va_recv hK hP (ci := 4) (q0 := 1) rfl rfl)) rfl rfl hl.1 rfl (lv_room (Nat.le_of_ble_eq_true rfl)) qd_V_put_98 ⟨(Nat.zero_le _), (Nat.zero_le _)⟩) hS hA hP hD [1, 2] [0] [0, 1, 2] rfl rfl (by decide) (by decide) (by decide) (fun _ => rfl) (fun u_23 H locs hu_23 hP hD hS => ?_)
        obtain ⟨L1, f4⟩ := u_23
        have hu_23 : L1 = (L.take k ++ (upd (upd (fun j => f (k * 3 + j)) 0 fr) 1 vl) :: L.drop k).set k (upd (upd (upd (fun j => f (k * 3 + j)) 0 fr) 1 vl) 2 pl) ∧ sh_ok 3 f4 L1 := hu_23
        rw [ls_ins_set hkl] at hu_23
        obtain ⟨rfl, hok4⟩ := hu_23
        have hP : va_P (dC, dI) vwCl (wV vo h b cA ((L.take k ++ (upd (upd (upd (fun j => f (k * 3 + j)) 0 fr) 1 vl) 2 pl) :: L.drop k).length) f4) H := hP
        have hD : va_D A (wV vo h b cA ((L.take k ++ (upd (upd (upd (fun j => f (k * 3 + j)) 0 fr) 1 vl) 2 pl) :: L.drop k).length) f4) := hD
        exact mk_mvret (L.take k ++ (upd (upd (upd (fun j => f (k * 3 + j)) 0 fr) 1 vl) 2 pl) :: L.drop k, f4) hx hb hr hlocks hP hK hD hS qd_V_put_101 (⟨Or.inr ⟨hmiss, (upd (upd (upd (fun j => f (k * 3 + j)) 0 fr) 1 vl) 2 pl), rfl, rfl, rfl, rfl⟩, hok4⟩)
    · obtain ⟨r0, hk0, hr0, e1, e2⟩ := vs_p1 (by omega) hkl hpl hr_2 hr_13 c_3 c_14
      refine lv_aload_n hx hb qd_V_put_40 rfl (lv_at hl 1 rfl) ?_
      refine va_get (D := (dC, dI)) (ci := 5) (v := .ref h) (C := qR_V) (T := qT_V) (N := 1) hx hb hts qin_V hown hK hP 0 rfl rfl 0 (by decide) (hts _ mw_80) (fun _ h9 => h9) rfl qd_V_put_41 ?_
      refine lv_iload hx hb qd_V_put_44 (lv_at hl 0 rfl) ?_
      refine lv_iconst (v := 1) hx hb qd_V_put_46 (by decide) ?_
      refine lv_isub hx hb qd_V_put_47 ?_
      refine lv_iconst (v := 1) hx hb qd_V_put_48 (by decide) ?_
      refine lv_iload_n hx hb qd_V_put_49 rfl (lv_at hl 4 rfl) ?_
      refine mk_rw3 (y := nI (k - 1)) (pk_sub (b := 1) (by omega)) ?_
      refine mk_mcallv (wr := [(vo, .inr (5, [.ref h]))]) (wf := (fun u => wV vo h b cA u.1.length u.2)) (va_runV (As := [.int (nI (k - 1)), .int 1, .int vl]) (rest := []) ⟨hx, hb, hml, hown, hts⟩ (c_Sh_set l dC dI cA H.size h b 3 160 f L hwf (k - 1) 1 vl r0 hr0 (by decide)) (cwV 3 hts gc_V_40 rfl rfl rfl (by decide +kernel) ⟨Nat.le_of_ble_eq_true rfl, Nat.le_of_ble_eq_true rfl⟩) (mk_muP hP hD [1, 2] (by decide) rfl hK (va_recv hK hP (ci := 4) (q0 := 1) rfl rfl)) rfl rfl hl.1 rfl (lv_room (Nat.le_of_ble_eq_true rfl)) qd_V_put_50 ⟨(Nat.zero_le _), (Nat.zero_le _)⟩) hS hA hP hD [1, 2] [0] [0, 1, 2] rfl rfl (by decide) (by decide) (by decide) (fun _ => rfl) (fun u_25 H locs hu_25 hP hD hS => ?_)
      obtain ⟨L1, f1⟩ := u_25
      obtain ⟨rfl, hok1⟩ : L1 = L.set (k - 1) (upd r0 1 vl) ∧ sh_ok 3 f1 L1 := hu_25
      have hP : va_P (dC, dI) vwCl (wV vo h b cA ((L.set (k - 1) (upd r0 1 vl)).length) f1) H := hP
      have hD : va_D A (wV vo h b cA ((L.set (k - 1) (upd r0 1 vl)).length) f1) := hD
      refine lv_goto (tgt := 101) hx hb qd_V_put_53 (by decide) ?_
      exact mk_mvret (L.set (k - 1) (upd r0 1 vl), f1) hx hb hr hlocks hP hK hD hS qd_V_put_101 (⟨Or.inl ⟨r0, hk0, hr0, e1, e2, rfl⟩, hok1⟩)
