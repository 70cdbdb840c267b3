set_option maxHeartbeats 4000000 in
set_option maxRecDepth 100000 in
/-- size() -/
theorem c_R_size (l : Launch) (dC : Nat → ClassId) (dI : Nat → Nat → Nat) (cA : ClassId) (sz : Nat) (ro h b : Nat) (f : Nat → Int32) (L : List (Nat → Int32)) (hwf : sh_wf 12 96 f L) : Met l qy_R_size qw_R_size ({ frames := 1, cells := 0, slots := 0, locals := 20 }) (mk_ro [.ref ro] sz (dC, dI) vwCl [(cA, .int)] (wR ro h b cA L.length f)) (mk_roQ (fun r => r = nI L.length) sz) 0 0 (mk_new sz) := by
  refine Met.ofW (cc := qb_R_size) (maxL := 1) (ret := (some .int)) (by decide) rfl ?_
  intro p e s m args below meth c s₁ B hml hpre
  obtain ⟨rfl, hsz, hP, hK⟩ := hpre
  have hx := B.exec
  have hb := B.bytes
  have hr := B.returns
  have hts0 := atoms_spec (ws := qw_R_size) B.pre
  have hts := fun w (h : w ∈ lw_gd) => hts0 w (List.mem_cons_of_mem _ h)
  have hown : s.vm.findClass qR_R = some m.cls := findClass_of_methodNamed B.named
  have hlocks := B.notSynchronized
  subst hsz
  have hA : ∀ q : Nat, s.heap.size ≤ q → mk_new s.heap.size q := fun _ h => h
  have hS : va_S (mk_new s.heap.size) s.heap s.heap [] := va_S.rf
  have hl := lv_entry ([.ref ro]) (n := 1) (Nat.le_of_ble_eq_true rfl)
  rw [lg_entry_eq]
  generalize (lg_sl ([.ref ro]) ++ List.replicate (1 - (lg_sl ([.ref ro])).length) Slot.unset).toArray = ls at hl ⊢
  have hl : lv_has ls 1 [(0, .ref ro)] := hl
  have hP : va_P (dC, dI) vwCl (wR ro h b cA L.length f) s.heap := hP
  refine mk_start (A := (mk_new s.heap.size)) hP (fun H locs hP hS => ?_)
  refine lv_aload_n hx hb qd_R_size_0 rfl (lv_at hl 0 rfl) ?_
  refine va_get (D := (dC, dI)) (ci := 3) (v := .ref h) (C := qR_R) (T := qT_R) (N := 1) hx hb hts qin_R hown hK hP 0 rfl rfl 0 (by decide) (hts _ mw_92) (fun _ h9 => h9) rfl qd_R_size_1 ?_
  refine mk_calli (va_runV (As := []) (rest := []) ⟨hx, hb, hml, hown, hts⟩ (c_Sh_size l dC dI cA H.size h b 12 96 f L hwf) (cwV 0 hts gc_R_20 rfl rfl rfl (by decide +kernel) ⟨Nat.le_of_ble_eq_true rfl, Nat.le_of_ble_eq_true rfl⟩) (mk_roV hP [1, 2] rfl hK (va_recv hK hP (ci := 4) (q0 := 1) rfl rfl)) rfl rfl hl.1 rfl (lv_room (Nat.le_of_ble_eq_true rfl)) qd_R_size_4 ⟨(Nat.zero_le _), (Nat.zero_le _)⟩) hS hA hP (fun r_1 H locs hr_1 hP hS => ?_)
  obtain rfl : r_1 = nI L.length := hr_1
  exact mk_iret hx hb hr hlocks hS qd_R_size_7 (rfl)
set_option maxHeartbeats 4000000 in
set_option maxRecDepth 100000 in
/-- get(line, column) -/
theorem c_R_get (l : Launch) (dC : Nat → ClassId) (dI : Nat → Nat → Nat) (cA : ClassId) (sz : Nat) (ro h b : Nat) (f : Nat → Int32) (L : List (Nat → Int32)) (hwf : sh_wf 12 96 f L) (i j : Int32) : Met l qy_R_get qw_R_get ({ frames := 1, cells := 0, slots := 0, locals := 22 }) (mk_ro [.ref ro, .int i, .int j] sz (dC, dI) vwCl [(cA, .int)] (wR ro h b cA L.length f)) (mk_roQ (fun r => r = sh_get 12 L i j) sz) 0 0 (mk_new sz) := by
  refine Met.ofW (cc := qb_R_get) (maxL := 3) (ret := (some .int)) (by decide) rfl ?_
  intro p e s m args below meth c s₁ B hml hpre
  obtain ⟨rfl, hsz, hP, hK⟩ := hpre
  have hx := B.exec
  have hb := B.bytes
  have hr := B.returns
  have hts0 := atoms_spec (ws := qw_R_get) B.pre
  have hts := fun w (h : w ∈ lw_gd) => hts0 w (List.mem_cons_of_mem _ h)
  have hown : s.vm.findClass qR_R = some m.cls := findClass_of_methodNamed B.named
  have hlocks := B.notSynchronized
  subst hsz
  have hA : ∀ q : Nat, s.heap.size ≤ q → mk_new s.heap.size q := fun _ h => h
  have hS : va_S (mk_new s.heap.size) s.heap s.heap [] := va_S.rf
  have hl := lv_entry ([.ref ro, .int i, .int j]) (n := 3) (Nat.le_of_ble_eq_true rfl)
  rw [lg_entry_eq]
  generalize (lg_sl ([.ref ro, .int i, .int j]) ++ List.replicate (3 - (lg_sl ([.ref ro, .int i, .int j])).length) Slot.unset).toArray = ls at hl ⊢
  have hl : lv_has ls 3 [(0, .ref ro), (1, .int i), (2, .int j)] := hl
  have hP : va_P (dC, dI) vwCl (wR ro h b cA L.length f) s.heap := hP
  refine mk_start (A := (mk_new s.heap.size)) hP (fun H locs hP hS => ?_)
  refine lv_aload_n hx hb qd_R_get_0 rfl (lv_at hl 0 rfl) ?_
  refine va_get (D := (dC, dI)) (ci := 3) (v := .ref h) (C := qR_R) (T := qT_R) (N := 1) hx hb hts qin_R hown hK hP 0 rfl rfl 0 (by decide) (hts _ mw_92) (fun _ h9 => h9) rfl qd_R_get_1 ?_
  refine lv_iload_n hx hb qd_R_get_4 rfl (lv_at hl 1 rfl) ?_
  refine lv_iload_n hx hb qd_R_get_5 rfl (lv_at hl 2 rfl) ?_
  refine mk_calli (va_runV (As := [.int i, .int j]) (rest := []) ⟨hx, hb, hml, hown, hts⟩ (c_Sh_get l dC dI cA H.size h b 12 96 f L hwf i j) (cwV 2 hts gc_R_24 rfl rfl rfl (by decide +kernel) ⟨Nat.le_of_ble_eq_true rfl, Nat.le_of_ble_eq_true rfl⟩) (mk_roV hP [1, 2] rfl hK (va_recv hK hP (ci := 4) (q0 := 1) rfl rfl)) rfl rfl hl.1 rfl (lv_room (Nat.le_of_ble_eq_true rfl)) qd_R_get_6 ⟨(Nat.zero_le _), (Nat.zero_le _)⟩) hS hA hP (fun r_1 H locs hr_1 hP hS => ?_)
  obtain rfl : r_1 = sh_get 12 L i j := hr_1
  exact mk_iret hx hb hr hlocks hS qd_R_get_9 (rfl)
set_option maxHeartbeats 4000000 in
set_option maxRecDepth 100000 in
/-- waits(line) -/
theorem c_R_waits (l : Launch) (dC : Nat → ClassId) (dI : Nat → Nat → Nat) (cA : ClassId) (sz : Nat) (ro h b : Nat) (f : Nat → Int32) (L : List (Nat → Int32)) (hwf : sh_wf 12 96 f L) (i : Int32) : Met l qy_R_waits qw_R_waits ({ frames := 1, cells := 0, slots := 0, locals := 22 }) (mk_ro [.ref ro, .int i] sz (dC, dI) vwCl [(cA, .int)] (wR ro h b cA L.length f)) (mk_roQ (fun r => r = if sh_get 12 L i 4 = 1 then 1 else 0) sz) 0 0 (mk_new sz) := by
  refine Met.ofW (cc := qb_R_waits) (maxL := 2) (ret := (some .boolean)) (by decide) rfl ?_
  intro p e s m args below meth c s₁ B hml hpre
  obtain ⟨rfl, hsz, hP, hK⟩ := hpre
  have hx := B.exec
  have hb := B.bytes
  have hr := B.returns
  have hts0 := atoms_spec (ws := qw_R_waits) B.pre
  have hts := fun w (h : w ∈ lw_gd) => hts0 w (List.mem_cons_of_mem _ h)
  have hown : s.vm.findClass qR_R = some m.cls := findClass_of_methodNamed B.named
  have hlocks := B.notSynchronized
  subst hsz
  have hA : ∀ q : Nat, s.heap.size ≤ q → mk_new s.heap.size q := fun _ h => h
  have hS : va_S (mk_new s.heap.size) s.heap s.heap [] := va_S.rf
  have hl := lv_entry ([.ref ro, .int i]) (n := 2) (Nat.le_of_ble_eq_true rfl)
  rw [lg_entry_eq]
  generalize (lg_sl ([.ref ro, .int i]) ++ List.replicate (2 - (lg_sl ([.ref ro, .int i])).length) Slot.unset).toArray = ls at hl ⊢
  have hl : lv_has ls 2 [(0, .ref ro), (1, .int i)] := hl
  have hP : va_P (dC, dI) vwCl (wR ro h b cA L.length f) s.heap := hP
  refine mk_start (A := (mk_new s.heap.size)) hP (fun H locs hP hS => ?_)
  refine lv_aload_n hx hb qd_R_waits_0 rfl (lv_at hl 0 rfl) ?_
  refine va_get (D := (dC, dI)) (ci := 3) (v := .ref h) (C := qR_R) (T := qT_R) (N := 1) hx hb hts qin_R hown hK hP 0 rfl rfl 0 (by decide) (hts _ mw_92) (fun _ h9 => h9) rfl qd_R_waits_1 ?_
  refine lv_iload_n hx hb qd_R_waits_4 rfl (lv_at hl 1 rfl) ?_
  refine lv_iconst (v := 4) hx hb qd_R_waits_5 (by decide) ?_
  refine mk_calli (va_runV (As := [.int i, .int 4]) (rest := []) ⟨hx, hb, hml, hown, hts⟩ (c_Sh_get l dC dI cA H.size h b 12 96 f L hwf i 4) (cwV 2 hts gc_R_24 rfl rfl rfl (by decide +kernel) ⟨Nat.le_of_ble_eq_true rfl, Nat.le_of_ble_eq_true rfl⟩) (mk_roV hP [1, 2] rfl hK (va_recv hK hP (ci := 4) (q0 := 1) rfl rfl)) rfl rfl hl.1 rfl (lv_room (Nat.le_of_ble_eq_true rfl)) qd_R_waits_6 ⟨(Nat.zero_le _), (Nat.zero_le _)⟩) hS hA hP (fun r_1 H locs hr_1 hP hS => ?_)
  obtain rfl : r_1 = sh_get 12 L i 4 := hr_1
  refine lv_iconst (v := 1) hx hb qd_R_waits_9 (by decide) ?_
  refine lv_icmp_ne (tgt := 17) hx hb qd_R_waits_10 (by decide) (fun c_2 => ?_) (fun c_2 => ?_)
  · refine lv_iconst (v := 0) hx hb qd_R_waits_17 (by decide) ?_
    exact mk_zret hx hb hr hlocks hS qd_R_waits_18 (by decide) ((if_neg c_2).symm)
  · refine lv_iconst (v := 1) hx hb qd_R_waits_13 (by decide) ?_
    refine lv_goto (tgt := 18) hx hb qd_R_waits_14 (by decide) ?_
    exact mk_zret hx hb hr hlocks hS qd_R_waits_18 (by decide) ((if_pos c_2).symm)
set_option maxHeartbeats 4000000 in
set_option maxRecDepth 100000 in
/-- wasGiven(line) -/
theorem c_R_wasGiven (l : Launch) (dC : Nat → ClassId) (dI : Nat → Nat → Nat) (cA : ClassId) (sz : Nat) (ro h b : Nat) (f : Nat → Int32) (L : List (Nat → Int32)) (hwf : sh_wf 12 96 f L) (i : Int32) : Met l qy_R_wasGiven qw_R_wasGiven ({ frames := 1, cells := 0, slots := 0, locals := 22 }) (mk_ro [.ref ro, .int i] sz (dC, dI) vwCl [(cA, .int)] (wR ro h b cA L.length f)) (mk_roQ (fun r => r = if sh_get 12 L i 5 = 1 then 1 else 0) sz) 0 0 (mk_new sz) := by
  refine Met.ofW (cc := qb_R_wasGiven) (maxL := 2) (ret := (some .boolean)) (by decide) rfl ?_
  intro p e s m args below meth c s₁ B hml hpre
  obtain ⟨rfl, hsz, hP, hK⟩ := hpre
  have hx := B.exec
  have hb := B.bytes
  have hr := B.returns
  have hts0 := atoms_spec (ws := qw_R_wasGiven) B.pre
  have hts := fun w (h : w ∈ lw_gd) => hts0 w (List.mem_cons_of_mem _ h)
  have hown : s.vm.findClass qR_R = some m.cls := findClass_of_methodNamed B.named
  have hlocks := B.notSynchronized
  subst hsz
  have hA : ∀ q : Nat, s.heap.size ≤ q → mk_new s.heap.size q := fun _ h => h
  have hS : va_S (mk_new s.heap.size) s.heap s.heap [] := va_S.rf
  have hl := lv_entry ([.ref ro, .int i]) (n := 2) (Nat.le_of_ble_eq_true rfl)
  rw [lg_entry_eq]
  generalize (lg_sl ([.ref ro, .int i]) ++ List.replicate (2 - (lg_sl ([.ref ro, .int i])).length) Slot.unset).toArray = ls at hl ⊢
  have hl : lv_has ls 2 [(0, .ref ro), (1, .int i)] := hl
  have hP : va_P (dC, dI) vwCl (wR ro h b cA L.length f) s.heap := hP
  refine mk_start (A := (mk_new s.heap.size)) hP (fun H locs hP hS => ?_)
  refine lv_aload_n hx hb qd_R_wasGiven_0 rfl (lv_at hl 0 rfl) ?_
  refine va_get (D := (dC, dI)) (ci := 3) (v := .ref h) (C := qR_R) (T := qT_R) (N := 1) hx hb hts qin_R hown hK hP 0 rfl rfl 0 (by decide) (hts _ mw_92) (fun _ h9 => h9) rfl qd_R_wasGiven_1 ?_
  refine lv_iload_n hx hb qd_R_wasGiven_4 rfl (lv_at hl 1 rfl) ?_
  refine lv_iconst (v := 5) hx hb qd_R_wasGiven_5 (by decide) ?_
  refine mk_calli (va_runV (As := [.int i, .int 5]) (rest := []) ⟨hx, hb, hml, hown, hts⟩ (c_Sh_get l dC dI cA H.size h b 12 96 f L hwf i 5) (cwV 2 hts gc_R_24 rfl rfl rfl (by decide +kernel) ⟨Nat.le_of_ble_eq_true rfl, Nat.le_of_ble_eq_true rfl⟩) (mk_roV hP [1, 2] rfl hK (va_recv hK hP (ci := 4) (q0 := 1) rfl rfl)) rfl rfl hl.1 rfl (lv_room (Nat.le_of_ble_eq_true rfl)) qd_R_wasGiven_6 ⟨(Nat.zero_le _), (Nat.zero_le _)⟩) hS hA hP (fun r_1 H locs hr_1 hP hS => ?_)
  obtain rfl : r_1 = sh_get 12 L i 5 := hr_1
  refine lv_iconst (v := 1) hx hb qd_R_wasGiven_9 (by decide) ?_
  refine lv_icmp_ne (tgt := 17) hx hb qd_R_wasGiven_10 (by decide) (fun c_2 => ?_) (fun c_2 => ?_)
  · refine lv_iconst (v := 0) hx hb qd_R_wasGiven_17 (by decide) ?_
    exact mk_zret hx hb hr hlocks hS qd_R_wasGiven_18 (by decide) ((if_neg c_2).symm)
  · refine lv_iconst (v := 1) hx hb qd_R_wasGiven_13 (by decide) ?_
    refine lv_goto (tgt := 18) hx hb qd_R_wasGiven_14 (by decide) ?_
    exact mk_zret hx hb hr hlocks hS qd_R_wasGiven_18 (by decide) ((if_pos c_2).symm)
set_option maxHeartbeats 4000000 in
set_option maxRecDepth 100000 in
/-- add(number, key, time, value), where there is room -/
theorem c_R_add (l : Launch) (dC : Nat → ClassId) (dI : Nat → Nat → Nat) (cA : ClassId) (sz : Nat) (ro h b : Nat) (f : Nat → Int32) (L : List (Nat → Int32)) (hwf : sh_wf 12 96 f L) (nu ky tm vl : Int32) (hroom : L.length < 96) : Met l qy_R_add qw_R_add ({ frames := 2, cells := 0, slots := 0, locals := 82 }) (mk_mu [.ref ro, .int nu, .int ky, .int tm, .int vl] sz (dC, dI) vwCl [(cA, .int)] (wR ro h b cA L.length f)) (mk_muV (S := List (Nat → Int32) × (Nat → Int32)) (fun u => rs_add L nu ky tm vl u.1 ∧ sh_ok 12 u.2 u.1) (fun u => wR ro h b cA u.1.length u.2) (dC, dI) vwCl [(cA, .int)] (va_A (wR ro h b cA L.length f) sz)) 0 0 (va_A (wR ro h b cA L.length f) sz) := by
  refine Met.ofW (cc := qb_R_add) (maxL := 6) (ret := none) (by decide) rfl ?_
  intro p e s m args below meth c s₁ B hml hpre
  obtain ⟨rfl, hsz, hP, hK, hD0⟩ := hpre
  have hx := B.exec
  have hb := B.bytes
  have hr := B.returns
  have hts0 := atoms_spec (ws := qw_R_add) B.pre
  have hts := fun w (h : w ∈ lw_gd) => hts0 w (List.mem_cons_of_mem _ h)
  have hown : s.vm.findClass qR_R = some m.cls := findClass_of_methodNamed B.named
  have hlocks := B.notSynchronized
  subst hsz
  have hD := hD0.self (sz := s.heap.size)
  generalize hAe : va_A (wR ro h b cA L.length f) s.heap.size = A at hD ⊢
  have hA : ∀ q : Nat, s.heap.size ≤ q → A q := fun q h => by rw [← hAe]; exact Or.inr h
  have hS : va_S A s.heap s.heap [] := va_S.rf
  have hl := lv_entry ([.ref ro, .int nu, .int ky, .int tm, .int vl]) (n := 6) (Nat.le_of_ble_eq_true rfl)
  rw [lg_entry_eq]
  generalize (lg_sl ([.ref ro, .int nu, .int ky, .int tm, .int vl]) ++ List.replicate (6 - (lg_sl ([.ref ro, .int nu, .int ky, .int tm, .int vl])).length) Slot.unset).toArray = ls at hl ⊢
  have hl : lv_has ls 6 [(0, .ref ro), (1, .int nu), (2, .int ky), (3, .int tm), (4, .int vl)] := hl
  have hP : va_P (dC, dI) vwCl (wR ro h b cA L.length f) s.heap := hP
  refine mk_start (A := A) hP (fun H locs hP hS => ?_)
  obtain ⟨hok, hlen, -, -, -⟩ := id hwf
  refine lv_aload_n hx hb qd_R_add_0 rfl (lv_at hl 0 rfl) ?_
  refine va_get (D := (dC, dI)) (ci := 3) (v := .ref h) (C := qR_R) (T := qT_R) (N := 1) hx hb hts qin_R hown hK hP 0 rfl rfl 0 (by decide) (hts _ mw_92) (fun _ h9 => h9) rfl qd_R_add_1 ?_
  refine mk_calli (va_runV (As := []) (rest := []) ⟨hx, hb, hml, hown, hts⟩ (c_Sh_size l dC dI cA H.size h b 12 96 f L hwf) (cwV 0 hts gc_R_20 rfl rfl rfl (by decide +kernel) ⟨Nat.le_of_ble_eq_true rfl, Nat.le_of_ble_eq_true rfl⟩) (mk_roV hP [1, 2] rfl hK (va_recv hK hP (ci := 4) (q0 := 1) rfl rfl)) rfl rfl hl.1 rfl (lv_room (Nat.le_of_ble_eq_true rfl)) qd_R_add_4 ⟨(Nat.zero_le _), (Nat.zero_le _)⟩) hS hA hP (fun r_1 H locs hr_1 hP hS => ?_)
  obtain rfl : r_1 = nI L.length := hr_1
  refine lv_istore (lv' := [(5, .int (nI L.length)), (0, .ref ro), (1, .int nu), (2, .int ky), (3, .int tm), (4, .int vl)]) hx hb qd_R_add_7 hl (by decide) rfl (fun ls hl => ?_)
  refine mk_after (σ := Nat) (fun y9 H locs ls => (rs_pos L tm y9) ∧ va_P (dC, dI) vwCl (wR ro h b cA L.length f) H ∧ va_D A (wR ro h b cA L.length f) ∧ va_S A s.heap H locs ∧ lv_has ls 6 [(0, .ref ro), (1, .int nu), (2, .int ky), (3, .int tm), (4, .int vl), (5, .int (nI y9))]) (fun ls => F0 m 36 ls []) (fun y9 H locs ls hI => ?_) (fun J_2 => ?_)
  · obtain ⟨k, rfl⟩ : ∃ z, z = y9 := ⟨_, rfl⟩
    obtain ⟨hinv, hP, hD, hS, hl⟩ := hI
    have hinv : rs_pos L tm k := hinv
    have hP : va_P (dC, dI) vwCl (wR ro h b cA L.length f) H := hP
    have hD : va_D A (wR ro h b cA L.length f) := hD
    have hl : lv_has ls 6 [(0, .ref ro), (1, .int nu), (2, .int ky), (3, .int tm), (4, .int vl), (5, .int (nI k))] := hl
    have hkl := hinv.1
    refine lv_aload_n hx hb qd_R_add_36 rfl (lv_at hl 0 rfl) ?_
    refine va_get (D := (dC, dI)) (ci := 3) (v := .ref h) (C := qR_R) (T := qT_R) (N := 1) hx hb hts qin_R hown hK hP 0 rfl rfl 0 (by decide) (hts _ mw_92) (fun _ h9 => h9) rfl qd_R_add_37 ?_
    refine lv_iload hx hb qd_R_add_40 (lv_at hl 5 rfl) ?_
    refine mk_mcalli (wr := [(ro, .inr (3, [.ref h]))]) (wf := (fun u => wR ro h b cA u.1.length u.2)) (va_runV (As := [.int (nI k)]) (rest := []) ⟨hx, hb, hml, hown, hts⟩ (c_Sh_open l dC dI cA H.size h b 12 96 f L hwf k hkl hroom) (cwV 1 hts gc_R_28 rfl rfl rfl (by decide +kernel) ⟨Nat.le_of_ble_eq_true rfl, Nat.le_of_ble_eq_true rfl⟩) (mk_muP hP hD [1, 2] (by decide) rfl hK (va_recv hK hP (ci := 4) (q0 := 1) rfl rfl)) rfl rfl hl.1 rfl (lv_room (Nat.le_of_ble_eq_true rfl)) qd_R_add_42 ⟨(Nat.zero_le _), (Nat.zero_le _)⟩) hS hA hP hD [1, 2] [0] [0, 1, 2] rfl rfl (by decide) (by decide) (by decide) (fun _ => rfl) (fun r_3 u_4 H locs hr_3 hP hD hS => ?_)
    obtain ⟨L1, f1⟩ := u_4
    obtain ⟨rfl, rfl, hok1⟩ : r_3 = 1 ∧ L1 = L.take k ++ (fun j => f (k * 12 + j)) :: L.drop k ∧ sh_ok 12 f1 L1 := hr_3
    generalize (fun j => f (k * 12 + j)) = r1 at hP hD hok1
    have hP : va_P (dC, dI) vwCl (wR ro h b cA ((L.take k ++ r1 :: L.drop k).length) f1) H := hP
    have hD : va_D A (wR ro h b cA ((L.take k ++ r1 :: L.drop k).length) f1) := hD
    refine lv_if_eq (tgt := 115) hx hb qd_R_add_45 (by decide) (fun c_5 => ?_) (fun c_5 => ?_)
    · exact absurd c_5 (by decide)
    · refine lv_aload_n hx hb qd_R_add_48 rfl (lv_at hl 0 rfl) ?_
      refine va_get (D := (dC, dI)) (ci := 3) (v := .ref h) (C := qR_R) (T := qT_R) (N := 1) hx hb hts qin_R hown hK hP 0 rfl rfl 0 (by decide) (hts _ mw_92) (fun _ h9 => h9) rfl qd_R_add_49 ?_
      refine lv_iload hx hb qd_R_add_52 (lv_at hl 5 rfl) ?_
      refine lv_iconst (v := 0) hx hb qd_R_add_54 (by decide) ?_
      refine lv_iload_n hx hb qd_R_add_55 rfl (lv_at hl 1 rfl) ?_
      have hwf1 : sh_wf 12 96 f1 (L.take k ++ r1 :: L.drop k) := ⟨hok1, by rw [ls_ins_len hkl]; omega, by decide, by decide, by decide⟩
      refine mk_mcallv (wr := [(ro, .inr (3, [.ref h]))]) (wf := (fun u => wR ro h b cA u.1.length u.2)) (va_runV (As := [.int (nI k), .int 0, .int nu]) (rest := []) ⟨hx, hb, hml, hown, hts⟩ (c_Sh_set l dC dI cA H.size h b 12 96 f1 (L.take k ++ r1 :: L.drop k) hwf1 k 0 nu r1 (ls_ins_at hkl) (by decide)) (cwV 3 hts gc_R_32 rfl rfl rfl (by decide +kernel) ⟨Nat.le_of_ble_eq_true rfl, Nat.le_of_ble_eq_true rfl⟩) (mk_muP hP hD [1, 2] (by decide) rfl hK (va_recv hK hP (ci := 4) (q0 := 1) rfl rfl)) rfl rfl hl.1 rfl (lv_room (Nat.le_of_ble_eq_true rfl)) qd_R_add_56 ⟨(Nat.zero_le _), (Nat.zero_le _)⟩) hS hA hP hD [1, 2] [0] [0, 1, 2] rfl rfl (by decide) (by decide) (by decide) (fun _ => rfl) (fun u_7 H locs hu_7 hP hD hS => ?_)
      obtain ⟨L1, f2⟩ := u_7
      have hu_7 : L1 = (L.take k ++ r1 :: L.drop k).set k (upd r1 0 nu) ∧ sh_ok 12 f2 L1 := hu_7
      rw [ls_ins_set hkl] at hu_7
      obtain ⟨rfl, hok2⟩ := hu_7
      have hP : va_P (dC, dI) vwCl (wR ro h b cA ((L.take k ++ (upd r1 0 nu) :: L.drop k).length) f2) H := hP
      have hD : va_D A (wR ro h b cA ((L.take k ++ (upd r1 0 nu) :: L.drop k).length) f2) := hD
      refine lv_aload_n hx hb qd_R_add_59 rfl (lv_at hl 0 rfl) ?_
      refine va_get (D := (dC, dI)) (ci := 3) (v := .ref h) (C := qR_R) (T := qT_R) (N := 1) hx hb hts qin_R hown hK hP 0 rfl rfl 0 (by decide) (hts _ mw_92) (fun _ h9 => h9) rfl qd_R_add_60 ?_
      refine lv_iload hx hb qd_R_add_63 (lv_at hl 5 rfl) ?_
      refine lv_iconst (v := 1) hx hb qd_R_add_65 (by decide) ?_
      refine lv_iload_n hx hb qd_R_add_66 rfl (lv_at hl 2 rfl) ?_
      have hwf2 : sh_wf 12 96 f2 (L.take k ++ (upd r1 0 nu) :: L.drop k) := ⟨hok2, by rw [ls_ins_len hkl]; omega, by decide, by decide, by decide⟩
      refine mk_mcallv (wr := [(ro, .inr (3, [.ref h]))]) (wf := (fun u => wR ro h b cA u.1.length u.2)) (va_runV (As := [.int (nI k), .int 1, .int ky]) (rest := []) ⟨hx, hb, hml, hown, hts⟩ (c_Sh_set l dC dI cA H.size h b 12 96 f2 (L.take k ++ (upd r1 0 nu) :: L.drop k) hwf2 k 1 ky (upd r1 0 nu) (ls_ins_at hkl) (by decide)) (cwV 3 hts gc_R_32 rfl rfl rfl (by decide +kernel) ⟨Nat.le_of_ble_eq_true rfl, Nat.le_of_ble_eq_true rfl⟩) (mk_muP hP hD [1, 2] (by decide) rfl hK (va_recv hK hP (ci := 4) (q0 := 1) rfl rfl)) rfl rfl hl.1 rfl (lv_room (Nat.le_of_ble_eq_true rfl)) qd_R_add_67 ⟨(Nat.zero_le _), (Nat.zero_le _)⟩) hS hA hP hD [1, 2] [0] [0, 1, 2] rfl rfl (by decide) (by decide) (by decide) (fun _ => rfl) (fun u_9 H locs hu_9 hP hD hS => ?_)
      obtain ⟨L1, f3⟩ := u_9
      have hu_9 : L1 = (L.take k ++ (upd r1 0 nu) :: L.drop k).set k (upd (upd r1 0 nu) 1 ky) ∧ sh_ok 12 f3 L1 := hu_9
      rw [ls_ins_set hkl] at hu_9
      obtain ⟨rfl, hok3⟩ := hu_9
      have hP : va_P (dC, dI) vwCl (wR ro h b cA ((L.take k ++ (upd (upd r1 0 nu) 1 ky) :: L.drop k).length) f3) H := hP
      have hD : va_D A (wR ro h b cA ((L.take k ++ (upd (upd r1 0 nu) 1 ky) :: L.drop k).length) f3) := hD
      refine lv_aload_n hx hb qd_R_add_70 rfl (lv_at hl 0 rfl) ?_
      refine va_get (D := (dC, dI)) (ci := 3) (v := .ref h) (C := qR_R) (T := qT_R) (N := 1) hx hb hts qin_R hown hK hP 0 rfl rfl 0 (by decide) (hts _ mw_92) (fun _ h9 => h9) rfl qd_R_add_71 ?_
      refine lv_iload hx hb qd_R_add_74 (lv_at hl 5 rfl) ?_
      refine lv_iconst (v := 2) hx hb qd_R_add_76 (by decide) ?_
      refine lv_iload_n hx hb qd_R_add_77 rfl (lv_at hl 3 rfl) ?_
      have hwf3 : sh_wf 12 96 f3 (L.take k ++ (upd (upd r1 0 nu) 1 ky) :: L.drop k) := ⟨hok3, by rw [ls_ins_len hkl]; omega, by decide, by decide, by decide⟩
      refine mk_mcallv (wr := [(ro, .inr (3, [.ref h]))]) (wf := (fun u => wR ro h b cA u.1.length u.2)) (va_runV (As := [.int (nI k), .int 2, .int tm]) (rest := []) ⟨hx, hb, hml, hown, hts⟩ (c_Sh_set l dC dI cA H.size h b 12 96 f3 (L.take k ++ (upd (upd r1 0 nu) 1 ky) :: L.drop k) hwf3 k 2 tm (upd (upd r1 0 nu) 1 ky) (ls_ins_at hkl) (by decide)) (cwV 3 hts gc_R_32 rfl rfl rfl (by decide +kernel) ⟨Nat.le_of_ble_eq_true rfl, Nat.le_of_ble_eq_true rfl⟩) (mk_muP hP hD [1, 2] (by decide) rfl hK (va_recv hK hP (ci := 4) (q0 := 1) rfl rfl)) rfl rfl hl.1 rfl (lv_room (Nat.le_of_ble_eq_true rfl)) qd_R_add_78 ⟨(Nat.zero_le _), (Nat.zero_le _)⟩) hS hA hP hD [1, 2] [0] [0, 1, 2] rfl rfl (by decide) (by decide) (by decide) (fun _ => rfl) (fun u_11 H locs hu_11 hP hD hS => ?_)
      obtain ⟨L1, f4⟩ := u_11
      have hu_11 : L1 = (L.take k ++ (upd (upd r1 0 nu) 1 ky) :: L.drop k).set k (upd (upd (upd r1 0 nu) 1 ky) 2 tm) ∧ sh_ok 12 f4 L1 := hu_11
      rw [ls_ins_set hkl] at hu_11
      obtain ⟨rfl, hok4⟩ := hu_11
      have hP : va_P (dC, dI) vwCl (wR ro h b cA ((L.take k ++ (upd (upd (upd r1 0 nu) 1 ky) 2 tm) :: L.drop k).length) f4) H := hP
      have hD : va_D A (wR ro h b cA ((L.take k ++ (upd (upd (upd r1 0 nu) 1 ky) 2 tm) :: L.drop k).length) f4) := hD
      refine lv_aload_n hx hb qd_R_add_81 rfl (lv_at hl 0 rfl) ?_
      refine va_get (D := (dC, dI)) (ci := 3) (v := .ref h) (C := qR_R) (T := qT_R) (N := 1) hx hb hts qin_R hown hK hP 0 rfl rfl 0 (by decide) (hts _ mw_92) (fun _ h9 => h9) rfl qd_R_add_82 ?_
      refine lv_iload hx hb qd_R_add_85 (lv_at hl 5 rfl) ?_
      refine lv_iconst (v := 3) hx hb qd_R_add_87 (by decide) ?_
      refine lv_iload hx hb qd_R_add_88 (lv_at hl 4 rfl) ?_
      have hwf4 : sh_wf 12 96 f4 (L.take k ++ (upd (upd (upd r1 0 nu) 1 ky) 2 tm) :: L.drop k) := ⟨hok4, by rw [ls_ins_len hkl]; omega, by decide, by decide, by decide⟩
      refine mk_mcallv (wr := [(ro, .inr (3, [.ref h]))]) (wf := (fun u => wR ro h b cA u.1.length u.2)) (va_runV (As := [.int (nI k), .int 3, .int vl]) (rest := []) ⟨hx, hb, hml, hown, hts⟩ (c_Sh_set l dC dI cA H.size h b 12 96 f4 (L.take k ++ (upd (upd (upd r1 0 nu) 1 ky) 2 tm) :: L.drop k) hwf4 k 3 vl (upd (upd (upd r1 0 nu) 1 ky) 2 tm) (ls_ins_at hkl) (by decide)) (cwV 3 hts gc_R_32 rfl rfl rfl (by decide +kernel) ⟨Nat.le_of_ble_eq_true rfl, Nat.le_of_ble_eq_true rfl⟩) (mk_muP hP hD [1, 2] (by decide) rfl hK (va_recv hK hP (ci := 4) (q0 := 1) rfl rfl)) rfl rfl hl.1 rfl (lv_room (Nat.le_of_ble_eq_true rfl)) qd_R_add_90 ⟨(Nat.zero_le _), (Nat.zero_le _)⟩) hS hA hP hD [1, 2] [0] [0, 1, 2] rfl rfl (by decide) (by decide) (by decide) (fun _ => rfl) (fun u_13 H locs hu_13 hP hD hS => ?_)
      obtain ⟨L1, f5⟩ := u_13
      have hu_13 : L1 = (L.take k ++ (upd (upd (upd r1 0 nu) 1 ky) 2 tm) :: L.drop k).set k (upd (upd (upd (upd r1 0 nu) 1 ky) 2 tm) 3 vl) ∧ sh_ok 12 f5 L1 := hu_13
      rw [ls_ins_set hkl] at hu_13
      obtain ⟨rfl, hok5⟩ := hu_13
      have hP : va_P (dC, dI) vwCl (wR ro h b cA ((L.take k ++ (upd (upd (upd (upd r1 0 nu) 1 ky) 2 tm) 3 vl) :: L.drop k).length) f5) H := hP
      have hD : va_D A (wR ro h b cA ((L.take k ++ (upd (upd (upd (upd r1 0 nu) 1 ky) 2 tm) 3 vl) :: L.drop k).length) f5) := hD
      refine lv_aload_n hx hb qd_R_add_93 rfl (lv_at hl 0 rfl) ?_
      refine va_get (D := (dC, dI)) (ci := 3) (v := .ref h) (C := qR_R) (T := qT_R) (N := 1) hx hb hts qin_R hown hK hP 0 rfl rfl 0 (by decide) (hts _ mw_92) (fun _ h9 => h9) rfl qd_R_add_94 ?_
      refine lv_iload hx hb qd_R_add_97 (lv_at hl 5 rfl) ?_
      refine lv_iconst (v := 4) hx hb qd_R_add_99 (by decide) ?_
      refine lv_iconst (v := 1) hx hb qd_R_add_100 (by decide) ?_
      have hwf5 : sh_wf 12 96 f5 (L.take k ++ (upd (upd (upd (upd r1 0 nu) 1 ky) 2 tm) 3 vl) :: L.drop k) := ⟨hok5, by rw [ls_ins_len hkl]; omega, by decide, by decide, by decide⟩
      refine mk_mcallv (wr := [(ro, .inr (3, [.ref h]))]) (wf := (fun u => wR ro h b cA u.1.length u.2)) (va_runV (As := [.int (nI k), .int 4, .int 1]) (rest := []) ⟨hx, hb, hml, hown, hts⟩ (c_Sh_set l dC dI cA H.size h b 12 96 f5 (L.take k ++ (upd (upd (upd (upd r1 0 nu) 1 ky) 2 tm) 3 vl) :: L.drop k) hwf5 k 4 1 (upd (upd (upd (upd r1 0 nu) 1 ky) 2 tm) 3 vl) (ls_ins_at hkl) (by decide)) (cwV 3 hts gc_R_32 rfl rfl rfl (by decide +kernel) ⟨Nat.le_of_ble_eq_true rfl, Nat.le_of_ble_eq_true rfl⟩) (mk_muP hP hD [1, 2] (by decide) rfl hK (va_recv hK hP (ci := 4) (q0 := 1) rfl rfl)) rfl rfl hl.1 rfl (lv_room (Nat.le_of_ble_eq_true rfl)) qd_R_add_101 ⟨(Nat.zero_le _), (Nat.zero_le _)⟩) hS hA hP hD [1, 2] [0] [0, 1, 2] rfl rfl (by decide) (by decide) (by decide) (fun _ => rfl) (fun u_15 H locs hu_15 hP hD hS => ?_)
      obtain ⟨L1, f6⟩ := u_15
      have hu_15 : L1 = (L.take k ++ (upd (upd (upd (upd r1 0 nu) 1 ky) 2 tm) 3 vl) :: L.drop k).set k (upd (upd (upd (upd (upd r1 0 nu) 1 ky) 2 tm) 3 vl) 4 1) ∧ sh_ok 12 f6 L1 := hu_15
      rw [ls_ins_set hkl] at hu_15
      obtain ⟨rfl, hok6⟩ := hu_15
      have hP : va_P (dC, dI) vwCl (wR ro h b cA ((L.take k ++ (upd (upd (upd (upd (upd r1 0 nu) 1 ky) 2 tm) 3 vl) 4 1) :: L.drop k).length) f6) H := hP
      have hD : va_D A (wR ro h b cA ((L.take k ++ (upd (upd (upd (upd (upd r1 0 nu) 1 ky) 2 tm) 3 vl) 4 1) :: L.drop k).length) f6) := hD
      refine lv_aload_n hx hb qd_R_add_104 rfl (lv_at hl 0 rfl) ?_
      refine va_get (D := (dC, dI)) (ci := 3) (v := .ref h) (C := qR_R) (T := qT_R) (N := 1) hx hb hts qin_R hown hK hP 0 rfl rfl 0 (by decide) (hts _ mw_92) (fun _ h9 => h9) rfl qd_R_add_105 ?_
      refine lv_iload hx hb qd_R_add_108 (lv_at hl 5 rfl) ?_
      refine lv_iconst (v := 5) hx hb qd_R_add_110 (by decide) ?_
      refine lv_iconst (v := 0) hx hb qd_R_add_111 (by decide) ?_
      have hwf6 : sh_wf 12 96 f6 (L.take k ++ (upd (upd (upd (upd (upd r1 0 nu) 1 ky) 2 tm) 3 vl) 4 1) :: L.drop k) := ⟨hok6, by rw [ls_ins_len hkl]; omega, by decide, by decide, by decide⟩
      refine mk_mcallv (wr := [(ro, .inr (3, [.ref h]))]) (wf := (fun u => wR ro h b cA u.1.length u.2)) (va_runV (As := [.int (nI k), .int 5, .int 0]) (rest := []) ⟨hx, hb, hml, hown, hts⟩ (c_Sh_set l dC dI cA H.size h b 12 96 f6 (L.take k ++ (upd (upd (upd (upd (upd r1 0 nu) 1 ky) 2 tm) 3 vl) 4 1) :: L.drop k) hwf6 k 5 0 (upd (upd (upd (upd (upd r1 0 nu) 1 ky) 2 tm) 3 vl) 4 1) (ls_ins_at hkl) (by decide)) (cwV 3 hts gc_R_32 rfl rfl rfl (by decide +kernel) ⟨Nat.le_of_ble_eq_true rfl, Nat.le_of_ble_eq_true rfl⟩) (mk_muP hP hD [1, 2] (by decide) rfl hK (va_recv hK hP (ci := 4) (q0 := 1) rfl rfl)) rfl rfl hl.1 rfl (lv_room (Nat.le_of_ble_eq_true rfl)) qd_R_add_112 ⟨(Nat.zero_le _), (Nat.zero_le _)⟩) hS hA hP hD [1, 2] [0] [0, 1, 2] rfl rfl (by decide) (by decide) (by decide) (fun _ => rfl) (fun u_17 H locs hu_17 hP hD hS => ?_)
      obtain ⟨L1, f7⟩ := u_17
      have hu_17 : L1 = (L.take k ++ (upd (upd (upd (upd (upd r1 0 nu) 1 ky) 2 tm) 3 vl) 4 1) :: L.drop k).set k (upd (upd (upd (upd (upd (upd r1 0 nu) 1 ky) 2 tm) 3 vl) 4 1) 5 0) ∧ sh_ok 12 f7 L1 := hu_17
      rw [ls_ins_set hkl] at hu_17
      obtain ⟨rfl, hok7⟩ := hu_17
      have hP : va_P (dC, dI) vwCl (wR ro h b cA ((L.take k ++ (upd (upd (upd (upd (upd (upd r1 0 nu) 1 ky) 2 tm) 3 vl) 4 1) 5 0) :: L.drop k).length) f7) H := hP
      have hD : va_D A (wR ro h b cA ((L.take k ++ (upd (upd (upd (upd (upd (upd r1 0 nu) 1 ky) 2 tm) 3 vl) 4 1) 5 0) :: L.drop k).length) f7) := hD
      exact mk_mvret (L.take k ++ (upd (upd (upd (upd (upd (upd r1 0 nu) 1 ky) 2 tm) 3 vl) 4 1) 5 0) :: L.drop k, f7) hx hb hr hlocks hP hK hD hS qd_R_add_115 (⟨⟨k, (upd (upd (upd (upd (upd (upd r1 0 nu) 1 ky) 2 tm) 3 vl) 4 1) 5 0), hinv, rfl, rfl, rfl, rfl, rfl, rfl, rfl⟩, hok7⟩)
  · refine mk_loop (σ := Nat) (fun n y9 H locs ls => (y9 = n ∧ y9 ≤ L.length ∧ ∀ (i : Nat) (r : Nat → Int32), y9 ≤ i → L[i]? = some r → tm < r 2) ∧ va_P (dC, dI) vwCl (wR ro h b cA L.length f) H ∧ va_D A (wR ro h b cA L.length f) ∧ va_S A s.heap H locs ∧ lv_has ls 6 [(0, .ref ro), (1, .int nu), (2, .int ky), (3, .int tm), (4, .int vl), (5, .int (nI y9))]) (fun ls => F0 m 9 ls []) (fun n y9 H locs ls hI ih_18 => ?_) (fun y9 H locs ls hI => ?_) L.length L.length H locs ls ⟨⟨rfl, Nat.le_refl _, fun i r h1 h2 => absurd (List.getElem?_eq_some_iff.mp h2).1 (by omega)⟩, hP, hD, hS, lv_sub hl [1, 2, 3, 4, 5, 0] rfl⟩
    · obtain ⟨a, rfl⟩ : ∃ z, z = y9 := ⟨_, rfl⟩
      obtain ⟨hinv, hP, hD, hS, hl⟩ := hI
      have hinv : a = (n + 1) ∧ a ≤ L.length ∧ ∀ (i : Nat) (r : Nat → Int32), a ≤ i → L[i]? = some r → tm < r 2 := hinv
      have hP : va_P (dC, dI) vwCl (wR ro h b cA L.length f) H := hP
      have hD : va_D A (wR ro h b cA L.length f) := hD
      have hl : lv_has ls 6 [(0, .ref ro), (1, .int nu), (2, .int ky), (3, .int tm), (4, .int vl), (5, .int (nI a))] := hl
      obtain ⟨rfl, ha, hin⟩ := id hinv
      refine lv_iload hx hb qd_R_add_9 (lv_at hl 5 rfl) ?_
      refine lv_if_le (tgt := 36) hx hb qd_R_add_11 (by decide) (fun c_19 => ?_) (fun c_19 => ?_)
      · exact absurd c_19 (nI_nle (Nat.succ_pos _) (by omega))
      · refine lv_aload_n hx hb qd_R_add_14 rfl (lv_at hl 0 rfl) ?_
        refine va_get (D := (dC, dI)) (ci := 3) (v := .ref h) (C := qR_R) (T := qT_R) (N := 1) hx hb hts qin_R hown hK hP 0 rfl rfl 0 (by decide) (hts _ mw_92) (fun _ h9 => h9) rfl qd_R_add_15 ?_
        refine lv_iload hx hb qd_R_add_18 (lv_at hl 5 rfl) ?_
        refine lv_iconst (v := 1) hx hb qd_R_add_20 (by decide) ?_
        refine lv_isub hx hb qd_R_add_21 ?_
        refine mk_rw (y := nI n) (nI_pred n) ?_
        refine lv_iconst (v := 2) hx hb qd_R_add_22 (by decide) ?_
        refine mk_calli (va_runV (As := [.int (nI n), .int 2]) (rest := []) ⟨hx, hb, hml, hown, hts⟩ (c_Sh_get l dC dI cA H.size h b 12 96 f L hwf (nI n) 2) (cwV 2 hts gc_R_24 rfl rfl rfl (by decide +kernel) ⟨Nat.le_of_ble_eq_true rfl, Nat.le_of_ble_eq_true rfl⟩) (mk_roV hP [1, 2] rfl hK (va_recv hK hP (ci := 4) (q0 := 1) rfl rfl)) rfl rfl hl.1 rfl (lv_room (Nat.le_of_ble_eq_true rfl)) qd_R_add_23 ⟨(Nat.zero_le _), (Nat.zero_le _)⟩) hS hA hP (fun r_20 H locs hr_20 hP hS => ?_)
        have hr_20 : r_20 = sh_get 12 L (nI n) 2 := hr_20
        refine lv_iload_n hx hb qd_R_add_26 rfl (lv_at hl 3 rfl) ?_
        refine lv_icmp_le (tgt := 36) hx hb qd_R_add_27 (by decide) (fun c_21 => ?_) (fun c_21 => ?_)
        · exact J_2 (n + 1) H locs ls ⟨⟨by omega, hinv.2.2, rs_s2 (by omega) hr_20 c_21⟩, hP, hD, hS, lv_sub hl [0, 1, 2, 3, 4, 5] rfl⟩
        · refine lv_iinc (v := nI n) (lv' := [(5, .int (nI n)), (0, .ref ro), (1, .int nu), (2, .int ky), (3, .int tm), (4, .int vl)]) hx hb qd_R_add_30 hl (k := 5) rfl (mk_dec n) (by decide) rfl (fun ls hl => ?_)
          refine lv_goto (tgt := 9) hx hb qd_R_add_33 (by decide) ?_
          have hq := sh_lt_of (x := tm) c_21
          exact ih_18 n H locs ls ⟨⟨rfl, by omega, rs_s1 (by omega) hr_20 hq hinv.2.2⟩, hP, hD, hS, lv_sub hl [1, 2, 3, 4, 5, 0] rfl⟩
    · obtain ⟨a, rfl⟩ : ∃ z, z = y9 := ⟨_, rfl⟩
      obtain ⟨hinv, hP, hD, hS, hl⟩ := hI
      have hinv : a = 0 ∧ a ≤ L.length ∧ ∀ (i : Nat) (r : Nat → Int32), a ≤ i → L[i]? = some r → tm < r 2 := hinv
      have hP : va_P (dC, dI) vwCl (wR ro h b cA L.length f) H := hP
      have hD : va_D A (wR ro h b cA L.length f) := hD
      have hl : lv_has ls 6 [(0, .ref ro), (1, .int nu), (2, .int ky), (3, .int tm), (4, .int vl), (5, .int (nI a))] := hl
      obtain ⟨rfl, ha, hin⟩ := id hinv
      refine lv_iload hx hb qd_R_add_9 (lv_at hl 5 rfl) ?_
      refine lv_if_le (tgt := 36) hx hb qd_R_add_11 (by decide) (fun c_22 => ?_) (fun c_22 => ?_)
      · exact J_2 0 H locs ls ⟨⟨Nat.zero_le _, hinv.2.2, fun _ q => absurd q (by decide)⟩, hP, hD, hS, lv_sub hl [0, 1, 2, 3, 4, 5] rfl⟩
      · exact absurd (show nI 0 ≤ 0 from by decide) c_22
set_option maxHeartbeats 4000000 in
set_option maxRecDepth 100000 in
/-- setJoin(line, join, given) -/
theorem c_R_setJoin (l : Launch) (dC : Nat → ClassId) (dI : Nat → Nat → Nat) (cA : ClassId) (sz : Nat) (ro h b ja : Nat) (f jo : Nat → Int32) (L : List (Nat → Int32)) (hwf : sh_wf 12 96 f L) (i' : Nat) (r0 : Nat → Int32) (hr0 : L[i']? = some r0) (gv : Int32) (hgv : gv = 0 ∨ gv = 1) : Met l qy_R_setJoin qw_R_setJoin ({ frames := 1, cells := 0, slots := 0, locals := 23 }) (mk_mu [.ref ro, .int (nI i'), .ref ja, .int gv] sz (dC, dI) vwCl [(cA, .int)] (wRJ ro h b cA L.length f ja jo)) (mk_muV (S := List (Nat → Int32) × (Nat → Int32)) (fun u => u.1 = L.set i' (rs_jn r0 gv jo 6) ∧ sh_ok 12 u.2 u.1) (fun u => wRJ ro h b cA u.1.length u.2 ja jo) (dC, dI) vwCl [(cA, .int)] (va_A (wRJ ro h b cA L.length f ja jo) sz)) 0 0 (va_A (wRJ ro h b cA L.length f ja jo) sz) := by
  refine Met.ofW (cc := qb_R_setJoin) (maxL := 5) (ret := none) (by decide) rfl ?_
  intro p e s m args below meth c s₁ B hml hpre
  obtain ⟨rfl, hsz, hP, hK, hD0⟩ := hpre
  have hx := B.exec
  have hb := B.bytes
  have hr := B.returns
  have hts0 := atoms_spec (ws := qw_R_setJoin) B.pre
  have hts := fun w (h : w ∈ lw_gd) => hts0 w (List.mem_cons_of_mem _ h)
  have hown : s.vm.findClass qR_R = some m.cls := findClass_of_methodNamed B.named
  have hlocks := B.notSynchronized
  subst hsz
  have hD := hD0.self (sz := s.heap.size)
  generalize hAe : va_A (wRJ ro h b cA L.length f ja jo) s.heap.size = A at hD ⊢
  have hA : ∀ q : Nat, s.heap.size ≤ q → A q := fun q h => by rw [← hAe]; exact Or.inr h
  have hS : va_S A s.heap s.heap [] := va_S.rf
  have hl := lv_entry ([.ref ro, .int (nI i'), .ref ja, .int gv]) (n := 5) (Nat.le_of_ble_eq_true rfl)
  rw [lg_entry_eq]
  generalize (lg_sl ([.ref ro, .int (nI i'), .ref ja, .int gv]) ++ List.replicate (5 - (lg_sl ([.ref ro, .int (nI i'), .ref ja, .int gv])).length) Slot.unset).toArray = ls at hl ⊢
  have hl : lv_has ls 5 [(0, .ref ro), (1, .int (nI i')), (2, .ref ja), (3, .int gv)] := hl
  have hP : va_P (dC, dI) vwCl (wRJ ro h b cA L.length f ja jo) s.heap := hP
  refine mk_start (A := A) hP (fun H locs hP hS => ?_)
  obtain ⟨hok, hlen, -, -, -⟩ := id hwf
  refine lv_aload_n hx hb qd_R_setJoin_0 rfl (lv_at hl 2 rfl) ?_
  refine lv_ifnonnull (tgt := 5) hx hb qd_R_setJoin_1 (by decide) ?_
  refine lv_aload_n hx hb qd_R_setJoin_5 rfl (lv_at hl 0 rfl) ?_
  refine va_get (D := (dC, dI)) (ci := 3) (v := .ref h) (C := qR_R) (T := qT_R) (N := 1) hx hb hts qin_R hown hK hP 0 rfl rfl 0 (by decide) (hts _ mw_92) (fun _ h9 => h9) rfl qd_R_setJoin_6 ?_
  refine lv_iload_n hx hb qd_R_setJoin_9 rfl (lv_at hl 1 rfl) ?_
  refine lv_iconst (v := 4) hx hb qd_R_setJoin_10 (by decide) ?_
  refine lv_iconst (v := 0) hx hb qd_R_setJoin_11 (by decide) ?_
  refine mk_mcallv (wr := [(ro, .inr (3, [.ref h])), (ja, .inl (cA, 6, .inl jo))]) (wf := (fun u => wRJ ro h b cA u.1.length u.2 ja jo)) (va_runV (As := [.int (nI i'), .int 4, .int 0]) (rest := []) ⟨hx, hb, hml, hown, hts⟩ (c_Sh_set l dC dI cA H.size h b 12 96 f L hwf i' 4 0 r0 hr0 (by omega)) (cwV 3 hts gc_R_32 rfl rfl rfl (by decide +kernel) ⟨Nat.le_of_ble_eq_true rfl, Nat.le_of_ble_eq_true rfl⟩) (mk_muP hP hD [1, 2] (by decide) rfl hK (va_recv hK hP (ci := 4) (q0 := 1) rfl rfl)) rfl rfl hl.1 rfl (lv_room (Nat.le_of_ble_eq_true rfl)) qd_R_setJoin_12 ⟨(Nat.zero_le _), (Nat.zero_le _)⟩) hS hA hP hD [1, 2] [0, 3] [0, 2, 3, 1] rfl rfl (by decide) (by decide) (by decide) (fun _ => rfl) (fun u_2 H locs hu_2 hP hD hS => ?_)
  obtain ⟨L1, f1⟩ := u_2
  have hu_2 : L1 = L.set i' (upd r0 4 0) ∧ sh_ok 12 f1 L1 := hu_2
  obtain ⟨rfl, hok1⟩ := hu_2
  have hP : va_P (dC, dI) vwCl (wRJ ro h b cA ((L.set i' (upd r0 4 0)).length) f1 ja jo) H := hP
  have hD : va_D A (wRJ ro h b cA ((L.set i' (upd r0 4 0)).length) f1 ja jo) := hD
  refine lv_aload_n hx hb qd_R_setJoin_15 rfl (lv_at hl 0 rfl) ?_
  refine va_get (D := (dC, dI)) (ci := 3) (v := .ref h) (C := qR_R) (T := qT_R) (N := 1) hx hb hts qin_R hown hK hP 0 rfl rfl 0 (by decide) (hts _ mw_92) (fun _ h9 => h9) rfl qd_R_setJoin_16 ?_
  refine lv_iload_n hx hb qd_R_setJoin_19 rfl (lv_at hl 1 rfl) ?_
  refine lv_iconst (v := 5) hx hb qd_R_setJoin_20 (by decide) ?_
  refine mk_meetH (D := (dC, dI)) (cl := vwCl) (ws := (wRJ ro h b cA ((L.set i' (upd r0 4 0)).length) f1 ja jo)) (A0 := A) (H0 := s.heap) (fun v => v = gv) (fun v => F0 m 30 ls (.int v :: .int 5 :: .int (nI i') :: .ref h :: [])) (fun v_4 H locs hv_4 hP hS => ?_) (fun J_3 => ?_)
  · have hv_4 : v_4 = gv := hv_4
    refine mk_rw (y := gv) (hv_4) ?_
    have hwf1 : sh_wf 12 96 f1 (L.set i' (upd r0 4 0)) := ⟨hok1, by rw [List.length_set]; exact hlen, by decide, by decide, by decide⟩
    refine mk_mcallv (wr := [(ro, .inr (3, [.ref h])), (ja, .inl (cA, 6, .inl jo))]) (wf := (fun u => wRJ ro h b cA u.1.length u.2 ja jo)) (va_runV (As := [.int (nI i'), .int 5, .int gv]) (rest := []) ⟨hx, hb, hml, hown, hts⟩ (c_Sh_set l dC dI cA H.size h b 12 96 f1 (L.set i' (upd r0 4 0)) hwf1 i' 5 gv (upd r0 4 0) (rs_set_at hr0) (by omega)) (cwV 3 hts gc_R_32 rfl rfl rfl (by decide +kernel) ⟨Nat.le_of_ble_eq_true rfl, Nat.le_of_ble_eq_true rfl⟩) (mk_muP hP hD [1, 2] (by decide) rfl hK (va_recv hK hP (ci := 4) (q0 := 1) rfl rfl)) rfl rfl hl.1 rfl (lv_room (Nat.le_of_ble_eq_true rfl)) qd_R_setJoin_30 ⟨(Nat.zero_le _), (Nat.zero_le _)⟩) hS hA hP hD [1, 2] [0, 3] [0, 2, 3, 1] rfl rfl (by decide) (by decide) (by decide) (fun _ => rfl) (fun u_6 H locs hu_6 hP hD hS => ?_)
    obtain ⟨L1, f1⟩ := u_6
    have hu_6 : L1 = (L.set i' (upd r0 4 0)).set i' (upd (upd r0 4 0) 5 gv) ∧ sh_ok 12 f1 L1 := hu_6
    rw [List.set_set, rs_j0 (jo := jo)] at hu_6
    obtain ⟨rfl, hok1⟩ := hu_6
    have hP : va_P (dC, dI) vwCl (wRJ ro h b cA ((L.set i' (rs_jn r0 gv jo 0)).length) f1 ja jo) H := hP
    have hD : va_D A (wRJ ro h b cA ((L.set i' (rs_jn r0 gv jo 0)).length) f1 ja jo) := hD
    refine lv_iconst (v := 0) hx hb qd_R_setJoin_33 (by decide) ?_
    refine mk_rw (y := nI 0) (rfl) ?_
    refine lv_istore (lv' := [(4, .int (nI 0)), (0, .ref ro), (1, .int (nI i')), (2, .ref ja), (3, .int gv)]) hx hb qd_R_setJoin_34 hl (by decide) rfl (fun ls hl => ?_)
    refine mk_loop (σ := Nat × (Nat → Int32)) (fun n y9 H locs ls => (y9.1 + n = 6 ∧ sh_ok 12 y9.2 (L.set i' (rs_jn r0 gv jo y9.1))) ∧ va_P (dC, dI) vwCl (wRJ ro h b cA ((L.set i' (rs_jn r0 gv jo y9.1)).length) y9.2 ja jo) H ∧ va_D A (wRJ ro h b cA ((L.set i' (rs_jn r0 gv jo y9.1)).length) y9.2 ja jo) ∧ va_S A s.heap H locs ∧ lv_has ls 5 [(0, .ref ro), (1, .int (nI i')), (2, .ref ja), (3, .int gv), (4, .int (nI y9.1))]) (fun ls => F0 m 36 ls []) (fun n y9 H locs ls hI ih_7 => ?_) (fun y9 H locs ls hI => ?_) 6 (0, f1) H locs ls ⟨⟨rfl, hok1⟩, hP, hD, hS, lv_sub hl [1, 2, 3, 4, 0] rfl⟩
    · obtain ⟨a, f1⟩ := y9
      obtain ⟨hinv, hP, hD, hS, hl⟩ := hI
      have hinv : a + (n + 1) = 6 ∧ sh_ok 12 f1 (L.set i' (rs_jn r0 gv jo a)) := hinv
      have hP : va_P (dC, dI) vwCl (wRJ ro h b cA ((L.set i' (rs_jn r0 gv jo a)).length) f1 ja jo) H := hP
      have hD : va_D A (wRJ ro h b cA ((L.set i' (rs_jn r0 gv jo a)).length) f1 ja jo) := hD
      have hl : lv_has ls 5 [(0, .ref ro), (1, .int (nI i')), (2, .ref ja), (3, .int gv), (4, .int (nI a))] := hl
      obtain ⟨ha, hok1⟩ := hinv
      refine lv_iload hx hb qd_R_setJoin_36 (lv_at hl 4 rfl) ?_
      refine lv_bipush (v := 6) hx hb qd_R_setJoin_38 (by decide) ?_
      refine lv_icmp_ge (tgt := 73) hx hb qd_R_setJoin_40 (by decide) (fun c_8 => ?_) (fun c_8 => ?_)
      · exact absurd c_8 (nI_ge (a := a) (b := 6) (by omega) (by decide))
      · refine lv_iload hx hb qd_R_setJoin_43 (lv_at hl 4 rfl) ?_
        refine lv_aload_n hx hb qd_R_setJoin_45 rfl (lv_at hl 2 rfl) ?_
        refine va_alen (v := 6) hx hb hK hP 3 0 rfl rfl rfl qd_R_setJoin_46 ?_
        refine lv_icmp_ge (tgt := 73) hx hb qd_R_setJoin_47 (by decide) (fun c_9 => ?_) (fun c_9 => ?_)
        · exact absurd c_9 (nI_ge (a := a) (b := 6) (by omega) (by decide))
        · refine lv_aload_n hx hb qd_R_setJoin_50 rfl (lv_at hl 0 rfl) ?_
          refine va_get (D := (dC, dI)) (ci := 3) (v := .ref h) (C := qR_R) (T := qT_R) (N := 1) hx hb hts qin_R hown hK hP 0 rfl rfl 0 (by decide) (hts _ mw_92) (fun _ h9 => h9) rfl qd_R_setJoin_51 ?_
          refine lv_iload_n hx hb qd_R_setJoin_54 rfl (lv_at hl 1 rfl) ?_
          refine lv_bipush (v := 6) hx hb qd_R_setJoin_55 (by decide) ?_
          refine lv_iload hx hb qd_R_setJoin_57 (lv_at hl 4 rfl) ?_
          refine lv_iadd hx hb qd_R_setJoin_59 ?_
          refine mk_rw (y := nI (6 + a)) (nI_add 6 a) ?_
          refine lv_aload_n hx hb qd_R_setJoin_60 rfl (lv_at hl 2 rfl) ?_
          refine lv_iload hx hb qd_R_setJoin_61 (lv_at hl 4 rfl) ?_
          refine va_iald (i := (nI a)) hx hb hK hP 3 0 rfl rfl (vp_in_nI (by omega) (by omega)) qd_R_setJoin_63 ?_
          refine mk_rw (y := jo a) (congrArg _ (nI_clamp (by omega))) ?_
          have hwf1 : sh_wf 12 96 f1 (L.set i' (rs_jn r0 gv jo a)) := ⟨hok1, by rw [List.length_set]; exact hlen, by decide, by decide, by decide⟩
          refine mk_mcallv (wr := [(ro, .inr (3, [.ref h])), (ja, .inl (cA, 6, .inl jo))]) (wf := (fun u => wRJ ro h b cA u.1.length u.2 ja jo)) (va_runV (As := [.int (nI i'), .int (nI (6 + a)), .int (jo a)]) (rest := []) ⟨hx, hb, hml, hown, hts⟩ (c_Sh_set l dC dI cA H.size h b 12 96 f1 (L.set i' (rs_jn r0 gv jo a)) hwf1 i' (6 + a) (jo a) (rs_jn r0 gv jo a) (rs_set_at hr0) (by omega)) (cwV 3 hts gc_R_32 rfl rfl rfl (by decide +kernel) ⟨Nat.le_of_ble_eq_true rfl, Nat.le_of_ble_eq_true rfl⟩) (mk_muP hP hD [1, 2] (by decide) rfl hK (va_recv hK hP (ci := 4) (q0 := 1) rfl rfl)) rfl rfl hl.1 rfl (lv_room (Nat.le_of_ble_eq_true rfl)) qd_R_setJoin_64 ⟨(Nat.zero_le _), (Nat.zero_le _)⟩) hS hA hP hD [1, 2] [0, 3] [0, 2, 3, 1] rfl rfl (by decide) (by decide) (by decide) (fun _ => rfl) (fun u_11 H locs hu_11 hP hD hS => ?_)
          obtain ⟨L1, f1⟩ := u_11
          have hu_11 : L1 = (L.set i' (rs_jn r0 gv jo a)).set i' (upd (rs_jn r0 gv jo a) (6 + a) (jo a)) ∧ sh_ok 12 f1 L1 := hu_11
          rw [List.set_set, rs_js] at hu_11
          obtain ⟨rfl, hok1⟩ := hu_11
          have hP : va_P (dC, dI) vwCl (wRJ ro h b cA ((L.set i' (rs_jn r0 gv jo (a + 1))).length) f1 ja jo) H := hP
          have hD : va_D A (wRJ ro h b cA ((L.set i' (rs_jn r0 gv jo (a + 1))).length) f1 ja jo) := hD
          refine lv_iinc (v := nI (a + 1)) (lv' := [(4, .int (nI (a + 1))), (0, .ref ro), (1, .int (nI i')), (2, .ref ja), (3, .int gv)]) hx hb qd_R_setJoin_67 hl (k := 4) rfl (mk_inc a) (by decide) rfl (fun ls hl => ?_)
          refine lv_goto (tgt := 36) hx hb qd_R_setJoin_70 (by decide) ?_
          exact ih_7 ((a + 1), f1) H locs ls ⟨⟨by omega, hok1⟩, hP, hD, hS, lv_sub hl [1, 2, 3, 4, 0] rfl⟩
    · obtain ⟨a, f1⟩ := y9
      obtain ⟨hinv, hP, hD, hS, hl⟩ := hI
      have hinv : a + 0 = 6 ∧ sh_ok 12 f1 (L.set i' (rs_jn r0 gv jo a)) := hinv
      have hP : va_P (dC, dI) vwCl (wRJ ro h b cA ((L.set i' (rs_jn r0 gv jo a)).length) f1 ja jo) H := hP
      have hD : va_D A (wRJ ro h b cA ((L.set i' (rs_jn r0 gv jo a)).length) f1 ja jo) := hD
      have hl : lv_has ls 5 [(0, .ref ro), (1, .int (nI i')), (2, .ref ja), (3, .int gv), (4, .int (nI a))] := hl
      obtain ⟨ha, hok1⟩ := hinv
      obtain rfl : a = 6 := by omega
      refine lv_iload hx hb qd_R_setJoin_36 (lv_at hl 4 rfl) ?_
      refine lv_bipush (v := 6) hx hb qd_R_setJoin_38 (by decide) ?_
      refine lv_icmp_ge (tgt := 73) hx hb qd_R_setJoin_40 (by decide) (fun c_12 => ?_) (fun c_12 => ?_)
      · exact mk_mvret (L.set i' (rs_jn r0 gv jo 6), f1) hx hb hr hlocks hP hK hD hS qd_R_setJoin_73 (⟨rfl, hok1⟩)
      · exact absurd (show nI 6 ≥ 6 from by decide) c_12
  · refine lv_iload_n hx hb qd_R_setJoin_21 rfl (lv_at hl 3 rfl) ?_
    refine lv_if_eq (tgt := 29) hx hb qd_R_setJoin_22 (by decide) (fun c_13 => ?_) (fun c_13 => ?_)
    · refine lv_iconst (v := 0) hx hb qd_R_setJoin_29 (by decide) ?_
      exact J_3 _ H locs (c_13.symm) hP hS
    · refine lv_iconst (v := 1) hx hb qd_R_setJoin_25 (by decide) ?_
      refine lv_goto (tgt := 30) hx hb qd_R_setJoin_26 (by decide) ?_
      exact J_3 _ H locs (hgv.resolve_left c_13 ▸ rfl) hP hS
set_option maxHeartbeats 4000000 in
set_option maxRecDepth 100000 in
/-- hasJoin(line, join) -/
theorem c_R_hasJoin (l : Launch) (dC : Nat → ClassId) (dI : Nat → Nat → Nat) (cA : ClassId) (sz : Nat) (ro h b ja : Nat) (f jo : Nat → Int32) (L : List (Nat → Int32)) (hwf : sh_wf 12 96 f L) (i' : Nat) (r0 : Nat → Int32) (hr0 : L[i']? = some r0) : Met l qy_R_hasJoin qw_R_hasJoin ({ frames := 1, cells := 0, slots := 0, locals := 22 }) (mk_ro [.ref ro, .int (nI i'), .ref ja] sz (dC, dI) vwCl [(cA, .int)] (wRJ ro h b cA L.length f ja jo)) (mk_roQ (fun r => (r = 1 ∧ ∀ c, c < 6 → r0 (6 + c) = jo c) ∨ (r = 0 ∧ ¬ ∀ c, c < 6 → r0 (6 + c) = jo c)) sz) 0 0 (mk_new sz) := by
  refine Met.ofW (cc := qb_R_hasJoin) (maxL := 4) (ret := (some .boolean)) (by decide) rfl ?_
  intro p e s m args below meth c s₁ B hml hpre
  obtain ⟨rfl, hsz, hP, hK⟩ := hpre
  have hx := B.exec
  have hb := B.bytes
  have hr := B.returns
  have hts0 := atoms_spec (ws := qw_R_hasJoin) B.pre
  have hts := fun w (h : w ∈ lw_gd) => hts0 w (List.mem_cons_of_mem _ h)
  have hown : s.vm.findClass qR_R = some m.cls := findClass_of_methodNamed B.named
  have hlocks := B.notSynchronized
  subst hsz
  have hA : ∀ q : Nat, s.heap.size ≤ q → mk_new s.heap.size q := fun _ h => h
  have hS : va_S (mk_new s.heap.size) s.heap s.heap [] := va_S.rf
  have hl := lv_entry ([.ref ro, .int (nI i'), .ref ja]) (n := 4) (Nat.le_of_ble_eq_true rfl)
  rw [lg_entry_eq]
  generalize (lg_sl ([.ref ro, .int (nI i'), .ref ja]) ++ List.replicate (4 - (lg_sl ([.ref ro, .int (nI i'), .ref ja])).length) Slot.unset).toArray = ls at hl ⊢
  have hl : lv_has ls 4 [(0, .ref ro), (1, .int (nI i')), (2, .ref ja)] := hl
  have hP : va_P (dC, dI) vwCl (wRJ ro h b cA L.length f ja jo) s.heap := hP
  refine mk_start (A := (mk_new s.heap.size)) hP (fun H locs hP hS => ?_)
  obtain ⟨hok, hlen, -, -, -⟩ := id hwf
  refine lv_aload_n hx hb qd_R_hasJoin_0 rfl (lv_at hl 2 rfl) ?_
  refine lv_ifnonnull (tgt := 6) hx hb qd_R_hasJoin_1 (by decide) ?_
  refine lv_iconst (v := 0) hx hb qd_R_hasJoin_6 (by decide) ?_
  refine mk_rw (y := nI 0) (rfl) ?_
  refine lv_istore_n (lv' := [(3, .int (nI 0)), (0, .ref ro), (1, .int (nI i')), (2, .ref ja)]) hx hb qd_R_hasJoin_7 rfl hl (by decide) rfl (fun ls hl => ?_)
  refine mk_loop (σ := Nat) (fun n y9 H locs ls => (y9 + n = 6 ∧ ∀ c, c < y9 → r0 (6 + c) = jo c) ∧ va_P (dC, dI) vwCl (wRJ ro h b cA L.length f ja jo) H ∧ va_S (mk_new s.heap.size) s.heap H locs ∧ lv_has ls 4 [(0, .ref ro), (1, .int (nI i')), (2, .ref ja), (3, .int (nI y9))]) (fun ls => F0 m 8 ls []) (fun n y9 H locs ls hI ih_1 => ?_) (fun y9 H locs ls hI => ?_) 6 0 H locs ls ⟨⟨rfl, fun _ q => absurd q (Nat.not_lt_zero _)⟩, hP, hS, lv_sub hl [1, 2, 3, 0] rfl⟩
  · obtain ⟨a, rfl⟩ : ∃ z, z = y9 := ⟨_, rfl⟩
    obtain ⟨hinv, hP, hS, hl⟩ := hI
    have hinv : a + (n + 1) = 6 ∧ ∀ c, c < a → r0 (6 + c) = jo c := hinv
    have hP : va_P (dC, dI) vwCl (wRJ ro h b cA L.length f ja jo) H := hP
    have hl : lv_has ls 4 [(0, .ref ro), (1, .int (nI i')), (2, .ref ja), (3, .int (nI a))] := hl
    refine lv_iload_n hx hb qd_R_hasJoin_8 rfl (lv_at hl 3 rfl) ?_
    refine lv_bipush (v := 6) hx hb qd_R_hasJoin_9 (by decide) ?_
    refine lv_icmp_ge (tgt := 46) hx hb qd_R_hasJoin_11 (by decide) (fun c_2 => ?_) (fun c_2 => ?_)
    · exact absurd c_2 (nI_ge (a := a) (b := 6) (by omega) (by decide))
    · refine lv_iload_n hx hb qd_R_hasJoin_14 rfl (lv_at hl 3 rfl) ?_
      refine lv_aload_n hx hb qd_R_hasJoin_15 rfl (lv_at hl 2 rfl) ?_
      refine va_alen (v := 6) hx hb hK hP 3 0 rfl rfl rfl qd_R_hasJoin_16 ?_
      refine lv_icmp_ge (tgt := 46) hx hb qd_R_hasJoin_17 (by decide) (fun c_3 => ?_) (fun c_3 => ?_)
      · exact absurd c_3 (nI_ge (a := a) (b := 6) (by omega) (by decide))
      · refine lv_aload_n hx hb qd_R_hasJoin_20 rfl (lv_at hl 0 rfl) ?_
        refine va_get (D := (dC, dI)) (ci := 3) (v := .ref h) (C := qR_R) (T := qT_R) (N := 1) hx hb hts qin_R hown hK hP 0 rfl rfl 0 (by decide) (hts _ mw_92) (fun _ h9 => h9) rfl qd_R_hasJoin_21 ?_
        refine lv_iload_n hx hb qd_R_hasJoin_24 rfl (lv_at hl 1 rfl) ?_
        refine lv_bipush (v := 6) hx hb qd_R_hasJoin_25 (by decide) ?_
        refine lv_iload_n hx hb qd_R_hasJoin_27 rfl (lv_at hl 3 rfl) ?_
        refine lv_iadd hx hb qd_R_hasJoin_28 ?_
        refine mk_rw (y := nI (6 + a)) (nI_add 6 a) ?_
        refine mk_calli (va_runV (As := [.int (nI i'), .int (nI (6 + a))]) (rest := []) ⟨hx, hb, hml, hown, hts⟩ (c_Sh_get l dC dI cA H.size h b 12 96 f L hwf (nI i') (nI (6 + a))) (cwV 2 hts gc_R_24 rfl rfl rfl (by decide +kernel) ⟨Nat.le_of_ble_eq_true rfl, Nat.le_of_ble_eq_true rfl⟩) (mk_roV hP [1, 2] rfl hK (va_recv hK hP (ci := 4) (q0 := 1) rfl rfl)) rfl rfl hl.1 rfl (lv_room (Nat.le_of_ble_eq_true rfl)) qd_R_hasJoin_29 ⟨(Nat.zero_le _), (Nat.zero_le _)⟩) hS hA hP (fun r_4 H locs hr_4 hP hS => ?_)
        obtain rfl : r_4 = r0 (6 + a) := Eq.trans hr_4 (sh_get_in (by omega) (by decide) hr0 (by omega))
        refine lv_aload_n hx hb qd_R_hasJoin_32 rfl (lv_at hl 2 rfl) ?_
        refine lv_iload_n hx hb qd_R_hasJoin_33 rfl (lv_at hl 3 rfl) ?_
        refine va_iald (i := (nI a)) hx hb hK hP 3 0 rfl rfl (vp_in_nI (by omega) (by omega)) qd_R_hasJoin_34 ?_
        refine mk_rw (y := jo a) (congrArg _ (nI_clamp (by omega))) ?_
        refine lv_icmp_eq (tgt := 40) hx hb qd_R_hasJoin_35 (by decide) (fun c_5 => ?_) (fun c_5 => ?_)
        · refine lv_iinc (v := nI (a + 1)) (lv' := [(3, .int (nI (a + 1))), (0, .ref ro), (1, .int (nI i')), (2, .ref ja)]) hx hb qd_R_hasJoin_40 hl (k := 3) rfl (mk_inc a) (by decide) rfl (fun ls hl => ?_)
          refine lv_goto (tgt := 8) hx hb qd_R_hasJoin_43 (by decide) ?_
          exact ih_1 (a + 1) H locs ls ⟨⟨by omega, fun c q => by rcases Nat.lt_or_ge c a with q2 | q2; exact hinv.2 c q2; obtain rfl : c = a := (by omega); exact c_5⟩, hP, hS, lv_sub hl [1, 2, 3, 0] rfl⟩
        · refine lv_iconst (v := 0) hx hb qd_R_hasJoin_38 (by decide) ?_
          exact mk_zret hx hb hr hlocks hS qd_R_hasJoin_39 (by decide) (Or.inr ⟨rfl, fun q => c_5 (q a (by omega))⟩)
  · obtain ⟨a, rfl⟩ : ∃ z, z = y9 := ⟨_, rfl⟩
    obtain ⟨hinv, hP, hS, hl⟩ := hI
    have hinv : a + 0 = 6 ∧ ∀ c, c < a → r0 (6 + c) = jo c := hinv
    have hP : va_P (dC, dI) vwCl (wRJ ro h b cA L.length f ja jo) H := hP
    have hl : lv_has ls 4 [(0, .ref ro), (1, .int (nI i')), (2, .ref ja), (3, .int (nI a))] := hl
    refine lv_iload_n hx hb qd_R_hasJoin_8 rfl (lv_at hl 3 rfl) ?_
    refine lv_bipush (v := 6) hx hb qd_R_hasJoin_9 (by decide) ?_
    refine lv_icmp_ge (tgt := 46) hx hb qd_R_hasJoin_11 (by decide) (fun c_6 => ?_) (fun c_6 => ?_)
    · refine lv_iconst (v := 1) hx hb qd_R_hasJoin_46 (by decide) ?_
      exact mk_zret hx hb hr hlocks hS qd_R_hasJoin_47 (by decide) (Or.inl ⟨rfl, fun c q => hinv.2 c (by omega)⟩)
    · exact absurd (show nI 6 ≤ nI a from by rw [show a = 6 by omega]; exact nI_le (Nat.le_refl _) (by decide)) c_6
set_option maxHeartbeats 4000000 in
set_option maxRecDepth 100000 in
/-- waiting() -/
theorem c_R_waiting (l : Launch) (dC : Nat → ClassId) (dI : Nat → Nat → Nat) (cA : ClassId) (sz : Nat) (ro h b : Nat) (f : Nat → Int32) (L : List (Nat → Int32)) (hwf : sh_wf 12 96 f L) : Met l qy_R_waiting qw_R_waiting ({ frames := 1, cells := 0, slots := 0, locals := 22 }) (mk_ro [.ref ro] sz (dC, dI) vwCl [(cA, .int)] (wR ro h b cA L.length f)) (mk_roQ (fun r => r = rs_wt L) sz) 0 0 (mk_new sz) := by
  refine Met.ofW (cc := qb_R_waiting) (maxL := 3) (ret := (some .int)) (by decide) rfl ?_
  intro p e s m args below meth c s₁ B hml hpre
  obtain ⟨rfl, hsz, hP, hK⟩ := hpre
  have hx := B.exec
  have hb := B.bytes
  have hr := B.returns
  have hts0 := atoms_spec (ws := qw_R_waiting) B.pre
  have hts := fun w (h : w ∈ lw_gd) => hts0 w (List.mem_cons_of_mem _ h)
  have hown : s.vm.findClass qR_R = some m.cls := findClass_of_methodNamed B.named
  have hlocks := B.notSynchronized
  subst hsz
  have hA : ∀ q : Nat, s.heap.size ≤ q → mk_new s.heap.size q := fun _ h => h
  have hS : va_S (mk_new s.heap.size) s.heap s.heap [] := va_S.rf
  have hl := lv_entry ([.ref ro]) (n := 3) (Nat.le_of_ble_eq_true rfl)
  rw [lg_entry_eq]
  generalize (lg_sl ([.ref ro]) ++ List.replicate (3 - (lg_sl ([.ref ro])).length) Slot.unset).toArray = ls at hl ⊢
  have hl : lv_has ls 3 [(0, .ref ro)] := hl
  have hP : va_P (dC, dI) vwCl (wR ro h b cA L.length f) s.heap := hP
  refine mk_start (A := (mk_new s.heap.size)) hP (fun H locs hP hS => ?_)
  obtain ⟨hok, hlen, -, -, -⟩ := id hwf
  refine lv_iconst (v := 0) hx hb qd_R_waiting_0 (by decide) ?_
  refine mk_rw (y := rs_wt (L.take 0)) (rfl) ?_
  refine lv_istore_n (lv' := [(1, .int (rs_wt (L.take 0))), (0, .ref ro)]) hx hb qd_R_waiting_1 rfl hl (by decide) rfl (fun ls hl => ?_)
  refine lv_iconst (v := 0) hx hb qd_R_waiting_2 (by decide) ?_
  refine mk_rw (y := nI 0) (rfl) ?_
  refine lv_istore_n (lv' := [(2, .int (nI 0)), (1, .int (rs_wt (L.take 0))), (0, .ref ro)]) hx hb qd_R_waiting_3 rfl hl (by decide) rfl (fun ls hl => ?_)
  refine mk_loop (σ := Nat) (fun n y9 H locs ls => (y9 + n = L.length) ∧ va_P (dC, dI) vwCl (wR ro h b cA L.length f) H ∧ va_S (mk_new s.heap.size) s.heap H locs ∧ lv_has ls 3 [(0, .ref ro), (1, .int (rs_wt (L.take y9))), (2, .int (nI y9))]) (fun ls => F0 m 4 ls []) (fun n y9 H locs ls hI ih_1 => ?_) (fun y9 H locs ls hI => ?_) L.length 0 H locs ls ⟨Nat.zero_add _, hP, hS, lv_sub hl [2, 1, 0] rfl⟩
  · obtain ⟨a, rfl⟩ : ∃ z, z = y9 := ⟨_, rfl⟩
    obtain ⟨hinv, hP, hS, hl⟩ := hI
    have hinv : a + (n + 1) = L.length := hinv
    have hP : va_P (dC, dI) vwCl (wR ro h b cA L.length f) H := hP
    have hl : lv_has ls 3 [(0, .ref ro), (1, .int (rs_wt (L.take a))), (2, .int (nI a))] := hl
    have hlt : a < L.length := by omega
    refine lv_iload_n hx hb qd_R_waiting_4 rfl (lv_at hl 2 rfl) ?_
    refine lv_aload_n hx hb qd_R_waiting_5 rfl (lv_at hl 0 rfl) ?_
    refine va_get (D := (dC, dI)) (ci := 3) (v := .ref h) (C := qR_R) (T := qT_R) (N := 1) hx hb hts qin_R hown hK hP 0 rfl rfl 0 (by decide) (hts _ mw_92) (fun _ h9 => h9) rfl qd_R_waiting_6 ?_
    refine mk_calli (va_runV (As := []) (rest := [.int (nI a)]) ⟨hx, hb, hml, hown, hts⟩ (c_Sh_size l dC dI cA H.size h b 12 96 f L hwf) (cwV 0 hts gc_R_20 rfl rfl rfl (by decide +kernel) ⟨Nat.le_of_ble_eq_true rfl, Nat.le_of_ble_eq_true rfl⟩) (mk_roV hP [1, 2] rfl hK (va_recv hK hP (ci := 4) (q0 := 1) rfl rfl)) rfl rfl hl.1 rfl (lv_room (Nat.le_of_ble_eq_true rfl)) qd_R_waiting_9 ⟨(Nat.zero_le _), (Nat.zero_le _)⟩) hS hA hP (fun r_2 H locs hr_2 hP hS => ?_)
    obtain rfl : r_2 = nI L.length := hr_2
    refine lv_icmp_ge (tgt := 33) hx hb qd_R_waiting_12 (by decide) (fun c_3 => ?_) (fun c_3 => ?_)
    · exact absurd c_3 (nI_ge hlt (by omega))
    · refine lv_iload_n hx hb qd_R_waiting_15 rfl (lv_at hl 1 rfl) ?_
      refine lv_aload_n hx hb qd_R_waiting_16 rfl (lv_at hl 0 rfl) ?_
      refine va_get (D := (dC, dI)) (ci := 3) (v := .ref h) (C := qR_R) (T := qT_R) (N := 1) hx hb hts qin_R hown hK hP 0 rfl rfl 0 (by decide) (hts _ mw_92) (fun _ h9 => h9) rfl qd_R_waiting_17 ?_
      refine lv_iload_n hx hb qd_R_waiting_20 rfl (lv_at hl 2 rfl) ?_
      refine lv_iconst (v := 4) hx hb qd_R_waiting_21 (by decide) ?_
      refine mk_calli (va_runV (As := [.int (nI a), .int 4]) (rest := [.int (rs_wt (L.take a))]) ⟨hx, hb, hml, hown, hts⟩ (c_Sh_get l dC dI cA H.size h b 12 96 f L hwf (nI a) 4) (cwV 2 hts gc_R_24 rfl rfl rfl (by decide +kernel) ⟨Nat.le_of_ble_eq_true rfl, Nat.le_of_ble_eq_true rfl⟩) (mk_roV hP [1, 2] rfl hK (va_recv hK hP (ci := 4) (q0 := 1) rfl rfl)) rfl rfl hl.1 rfl (lv_room (Nat.le_of_ble_eq_true rfl)) qd_R_waiting_22 ⟨(Nat.zero_le _), (Nat.zero_le _)⟩) hS hA hP (fun r_4 H locs hr_4 hP hS => ?_)
      obtain rfl : r_4 = (L[a]'hlt) 4 := Eq.trans hr_4 (sh_get_in (by omega) (by decide) (List.getElem?_eq_getElem hlt) (by decide))
      refine lv_iadd hx hb qd_R_waiting_25 ?_
      refine mk_rw (y := rs_wt (L.take (a + 1))) (rs_wt_s hlt) ?_
      refine lv_istore_n (lv' := [(1, .int (rs_wt (L.take (a + 1)))), (0, .ref ro), (2, .int (nI a))]) hx hb qd_R_waiting_26 rfl hl (by decide) rfl (fun ls hl => ?_)
      refine lv_iinc (v := nI (a + 1)) (lv' := [(2, .int (nI (a + 1))), (1, .int (rs_wt (L.take (a + 1)))), (0, .ref ro)]) hx hb qd_R_waiting_27 hl (k := 2) rfl (mk_inc a) (by decide) rfl (fun ls hl => ?_)
      refine lv_goto (tgt := 4) hx hb qd_R_waiting_30 (by decide) ?_
      exact ih_1 (a + 1) H locs ls ⟨by omega, hP, hS, lv_sub hl [2, 1, 0] rfl⟩
  · obtain ⟨a, rfl⟩ : ∃ z, z = y9 := ⟨_, rfl⟩
    obtain ⟨hinv, hP, hS, hl⟩ := hI
    have hinv : a + 0 = L.length := hinv
    have hP : va_P (dC, dI) vwCl (wR ro h b cA L.length f) H := hP
    have hl : lv_has ls 3 [(0, .ref ro), (1, .int (rs_wt (L.take a))), (2, .int (nI a))] := hl
    have ea : a = L.length := by omega
    refine lv_iload_n hx hb qd_R_waiting_4 rfl (lv_at hl 2 rfl) ?_
    refine lv_aload_n hx hb qd_R_waiting_5 rfl (lv_at hl 0 rfl) ?_
    refine va_get (D := (dC, dI)) (ci := 3) (v := .ref h) (C := qR_R) (T := qT_R) (N := 1) hx hb hts qin_R hown hK hP 0 rfl rfl 0 (by decide) (hts _ mw_92) (fun _ h9 => h9) rfl qd_R_waiting_6 ?_
    refine mk_calli (va_runV (As := []) (rest := [.int (nI a)]) ⟨hx, hb, hml, hown, hts⟩ (c_Sh_size l dC dI cA H.size h b 12 96 f L hwf) (cwV 0 hts gc_R_20 rfl rfl rfl (by decide +kernel) ⟨Nat.le_of_ble_eq_true rfl, Nat.le_of_ble_eq_true rfl⟩) (mk_roV hP [1, 2] rfl hK (va_recv hK hP (ci := 4) (q0 := 1) rfl rfl)) rfl rfl hl.1 rfl (lv_room (Nat.le_of_ble_eq_true rfl)) qd_R_waiting_9 ⟨(Nat.zero_le _), (Nat.zero_le _)⟩) hS hA hP (fun r_5 H locs hr_5 hP hS => ?_)
    obtain rfl : r_5 = nI L.length := hr_5
    refine lv_icmp_ge (tgt := 33) hx hb qd_R_waiting_12 (by decide) (fun c_6 => ?_) (fun c_6 => ?_)
    · refine lv_iload_n hx hb qd_R_waiting_33 rfl (lv_at hl 1 rfl) ?_
      exact mk_iret hx hb hr hlocks hS qd_R_waiting_34 (by rw [ea, List.take_length])
    · exact absurd (nI_le (by omega) (by omega)) c_6
set_option maxHeartbeats 4000000 in
set_option maxRecDepth 100000 in
/-- anyWaits(key, first, last) -/
theorem c_R_anyWaits (l : Launch) (dC : Nat → ClassId) (dI : Nat → Nat → Nat) (cA : ClassId) (sz : Nat) (ro h b : Nat) (f : Nat → Int32) (L : List (Nat → Int32)) (hwf : sh_wf 12 96 f L) (ky fi la : Int32) : Met l qy_R_anyWaits qw_R_anyWaits ({ frames := 2, cells := 0, slots := 0, locals := 44 }) (mk_ro [.ref ro, .int ky, .int fi, .int la] sz (dC, dI) vwCl [(cA, .int)] (wR ro h b cA L.length f)) (mk_roQ (fun r => (r = 1 ∧ ∃ (i : Nat) (r0 : Nat → Int32), L[i]? = some r0 ∧ rs_any ky fi la r0) ∨ (r = 0 ∧ ∀ (i : Nat) (r0 : Nat → Int32), L[i]? = some r0 → ¬ rs_any ky fi la r0)) sz) 0 0 (mk_new sz) := by
  refine Met.ofW (cc := qb_R_anyWaits) (maxL := 6) (ret := (some .boolean)) (by decide) rfl ?_
  intro p e s m args below meth c s₁ B hml hpre
  obtain ⟨rfl, hsz, hP, hK⟩ := hpre
  have hx := B.exec
  have hb := B.bytes
  have hr := B.returns
  have hts0 := atoms_spec (ws := qw_R_anyWaits) B.pre
  have hts := fun w (h : w ∈ lw_gd) => hts0 w (List.mem_cons_of_mem _ h)
  have hown : s.vm.findClass qR_R = some m.cls := findClass_of_methodNamed B.named
  have hlocks := B.notSynchronized
  subst hsz
  have hA : ∀ q : Nat, s.heap.size ≤ q → mk_new s.heap.size q := fun _ h => h
  have hS : va_S (mk_new s.heap.size) s.heap s.heap [] := va_S.rf
  have hl := lv_entry ([.ref ro, .int ky, .int fi, .int la]) (n := 6) (Nat.le_of_ble_eq_true rfl)
  rw [lg_entry_eq]
  generalize (lg_sl ([.ref ro, .int ky, .int fi, .int la]) ++ List.replicate (6 - (lg_sl ([.ref ro, .int ky, .int fi, .int la])).length) Slot.unset).toArray = ls at hl ⊢
  have hl : lv_has ls 6 [(0, .ref ro), (1, .int ky), (2, .int fi), (3, .int la)] := hl
  have hP : va_P (dC, dI) vwCl (wR ro h b cA L.length f) s.heap := hP
  refine mk_start (A := (mk_new s.heap.size)) hP (fun H locs hP hS => ?_)
  obtain ⟨hok, hlen, -, -, -⟩ := id hwf
  refine lv_iconst (v := 0) hx hb qd_R_anyWaits_0 (by decide) ?_
  refine mk_rw (y := nI 0) (rfl) ?_
  refine lv_istore (lv' := [(4, .int (nI 0)), (0, .ref ro), (1, .int ky), (2, .int fi), (3, .int la)]) hx hb qd_R_anyWaits_1 hl (by decide) rfl (fun ls hl => ?_)
  refine mk_loop (σ := Nat) (fun n y9 H locs ls => (y9 + n = L.length ∧ ∀ (i : Nat) (r0 : Nat → Int32), L[i]? = some r0 → i < y9 → ¬ rs_any ky fi la r0) ∧ va_P (dC, dI) vwCl (wR ro h b cA L.length f) H ∧ va_S (mk_new s.heap.size) s.heap H locs ∧ lv_has ls 6 [(0, .ref ro), (1, .int ky), (2, .int fi), (3, .int la), (4, .int (nI y9))]) (fun ls => F0 m 3 ls []) (fun n y9 H locs ls hI ih_1 => ?_) (fun y9 H locs ls hI => ?_) L.length 0 H locs ls ⟨⟨Nat.zero_add _, fun _ _ _ q => absurd q (Nat.not_lt_zero _)⟩, hP, hS, lv_sub hl [1, 2, 3, 4, 0] rfl⟩
  · obtain ⟨a, rfl⟩ : ∃ z, z = y9 := ⟨_, rfl⟩
    obtain ⟨hinv, hP, hS, hl⟩ := hI
    have hinv : a + (n + 1) = L.length ∧ ∀ (i : Nat) (r0 : Nat → Int32), L[i]? = some r0 → i < a → ¬ rs_any ky fi la r0 := hinv
    have hP : va_P (dC, dI) vwCl (wR ro h b cA L.length f) H := hP
    have hl : lv_has ls 6 [(0, .ref ro), (1, .int ky), (2, .int fi), (3, .int la), (4, .int (nI a))] := hl
    have hlt : a < L.length := by omega
    refine lv_iload hx hb qd_R_anyWaits_3 (lv_at hl 4 rfl) ?_
    refine lv_aload_n hx hb qd_R_anyWaits_5 rfl (lv_at hl 0 rfl) ?_
    refine va_get (D := (dC, dI)) (ci := 3) (v := .ref h) (C := qR_R) (T := qT_R) (N := 1) hx hb hts qin_R hown hK hP 0 rfl rfl 0 (by decide) (hts _ mw_92) (fun _ h9 => h9) rfl qd_R_anyWaits_6 ?_
    refine mk_calli (va_runV (As := []) (rest := [.int (nI a)]) ⟨hx, hb, hml, hown, hts⟩ (c_Sh_size l dC dI cA H.size h b 12 96 f L hwf) (cwV 0 hts gc_R_20 rfl rfl rfl (by decide +kernel) ⟨Nat.le_of_ble_eq_true rfl, Nat.le_of_ble_eq_true rfl⟩) (mk_roV hP [1, 2] rfl hK (va_recv hK hP (ci := 4) (q0 := 1) rfl rfl)) rfl rfl hl.1 rfl (lv_room (Nat.le_of_ble_eq_true rfl)) qd_R_anyWaits_9 ⟨(Nat.zero_le _), (Nat.zero_le _)⟩) hS hA hP (fun r_2 H locs hr_2 hP hS => ?_)
    obtain rfl : r_2 = nI L.length := hr_2
    refine lv_icmp_ge (tgt := 70) hx hb qd_R_anyWaits_12 (by decide) (fun c_3 => ?_) (fun c_3 => ?_)
    · exact absurd c_3 (nI_ge hlt (by omega))
    · refine lv_aload_n hx hb qd_R_anyWaits_15 rfl (lv_at hl 0 rfl) ?_
      refine va_get (D := (dC, dI)) (ci := 3) (v := .ref h) (C := qR_R) (T := qT_R) (N := 1) hx hb hts qin_R hown hK hP 0 rfl rfl 0 (by decide) (hts _ mw_92) (fun _ h9 => h9) rfl qd_R_anyWaits_16 ?_
      refine lv_iload hx hb qd_R_anyWaits_19 (lv_at hl 4 rfl) ?_
      refine lv_iconst (v := 2) hx hb qd_R_anyWaits_21 (by decide) ?_
      refine mk_calli (va_runV (As := [.int (nI a), .int 2]) (rest := []) ⟨hx, hb, hml, hown, hts⟩ (c_Sh_get l dC dI cA H.size h b 12 96 f L hwf (nI a) 2) (cwV 2 hts gc_R_24 rfl rfl rfl (by decide +kernel) ⟨Nat.le_of_ble_eq_true rfl, Nat.le_of_ble_eq_true rfl⟩) (mk_roV hP [1, 2] rfl hK (va_recv hK hP (ci := 4) (q0 := 1) rfl rfl)) rfl rfl hl.1 rfl (lv_room (Nat.le_of_ble_eq_true rfl)) qd_R_anyWaits_22 ⟨(Nat.zero_le _), (Nat.zero_le _)⟩) hS hA hP (fun r_4 H locs hr_4 hP hS => ?_)
      obtain rfl : r_4 = (L[a]'hlt) 2 := Eq.trans hr_4 (sh_get_in (by omega) (by decide) (List.getElem?_eq_getElem hlt) (by decide))
      refine lv_istore (lv' := [(5, .int ((L[a]'hlt) 2)), (0, .ref ro), (1, .int ky), (2, .int fi), (3, .int la), (4, .int (nI a))]) hx hb qd_R_anyWaits_25 hl (by decide) rfl (fun ls hl => ?_)
      refine lv_aload_n hx hb qd_R_anyWaits_27 rfl (lv_at hl 1 rfl) ?_
      refine lv_iload hx hb qd_R_anyWaits_28 (lv_at hl 5 rfl) ?_
      refine mk_calli (va_runV (As := [.int (nI a)]) (rest := []) ⟨hx, hb, hml, hown, hts⟩ (c_R_waits l dC dI cA H.size ro h b f L hwf (nI a)) (cwV 1 hts gc_R_36 rfl rfl rfl (by decide +kernel) ⟨Nat.le_of_ble_eq_true rfl, Nat.le_of_ble_eq_true rfl⟩) (mk_roV hP [0, 1, 2] rfl hK (va_recv hK hP (ci := 3) (q0 := 0) rfl rfl)) rfl rfl hl.1 rfl (lv_room (Nat.le_of_ble_eq_true rfl)) qd_R_anyWaits_30 ⟨(Nat.zero_le _), (Nat.zero_le _)⟩) hS hA hP (fun r_5 H locs hr_5 hP hS => ?_)
      obtain rfl : r_5 = if (L[a]'hlt) 4 = 1 then 1 else 0 := Eq.trans hr_5 (by rw [show sh_get 12 L (nI a) 4 = (L[a]'hlt) 4 from sh_get_in (by omega) (by decide) (List.getElem?_eq_getElem hlt) (by decide)])
      refine lv_if_eq (tgt := 64) hx hb qd_R_anyWaits_33 (by decide) (fun c_6 => ?_) (fun c_6 => ?_)
      · refine lv_iinc (v := nI (a + 1)) (lv' := [(4, .int (nI (a + 1))), (5, .int ((L[a]'hlt) 2)), (0, .ref ro), (1, .int ky), (2, .int fi), (3, .int la)]) hx hb qd_R_anyWaits_64 hl (k := 5) rfl (mk_inc a) (by decide) rfl (fun ls hl => ?_)
        refine lv_goto (tgt := 3) hx hb qd_R_anyWaits_67 (by decide) ?_
        exact ih_1 (a + 1) H locs ls ⟨⟨by omega, fun i r0 q hi => by rcases Nat.lt_or_ge i a with q2 | q2; exact hinv.2 i r0 q q2; obtain rfl : i = a := (by omega); rw [List.getElem?_eq_getElem hlt] at q; obtain rfl := Option.some.inj q; exact fun hh => rs_n1 c_6 hh.1⟩, hP, hS, lv_sub hl [2, 3, 4, 5, 0] rfl⟩
      · refine lv_aload_n hx hb qd_R_anyWaits_36 rfl (lv_at hl 1 rfl) ?_
        refine va_get (D := (dC, dI)) (ci := 3) (v := .ref h) (C := qR_R) (T := qT_R) (N := 1) hx hb hts qin_R hown hK hP 0 rfl rfl 0 (by decide) (hts _ mw_92) (fun _ h9 => h9) rfl qd_R_anyWaits_37 ?_
        refine lv_iload hx hb qd_R_anyWaits_40 (lv_at hl 5 rfl) ?_
        refine lv_iconst (v := 1) hx hb qd_R_anyWaits_42 (by decide) ?_
        refine mk_calli (va_runV (As := [.int (nI a), .int 1]) (rest := []) ⟨hx, hb, hml, hown, hts⟩ (c_Sh_get l dC dI cA H.size h b 12 96 f L hwf (nI a) 1) (cwV 2 hts gc_R_24 rfl rfl rfl (by decide +kernel) ⟨Nat.le_of_ble_eq_true rfl, Nat.le_of_ble_eq_true rfl⟩) (mk_roV hP [1, 2] rfl hK (va_recv hK hP (ci := 4) (q0 := 1) rfl rfl)) rfl rfl hl.1 rfl (lv_room (Nat.le_of_ble_eq_true rfl)) qd_R_anyWaits_43 ⟨(Nat.zero_le _), (Nat.zero_le _)⟩) hS hA hP (fun r_7 H locs hr_7 hP hS => ?_)
        obtain rfl : r_7 = (L[a]'hlt) 1 := Eq.trans hr_7 (sh_get_in (by omega) (by decide) (List.getElem?_eq_getElem hlt) (by decide))
        refine lv_iload_n hx hb qd_R_anyWaits_46 rfl (lv_at hl 2 rfl) ?_
        refine lv_icmp_ne (tgt := 64) hx hb qd_R_anyWaits_47 (by decide) (fun c_8 => ?_) (fun c_8 => ?_)
        · refine lv_iinc (v := nI (a + 1)) (lv' := [(4, .int (nI (a + 1))), (5, .int ((L[a]'hlt) 2)), (0, .ref ro), (1, .int ky), (2, .int fi), (3, .int la)]) hx hb qd_R_anyWaits_64 hl (k := 5) rfl (mk_inc a) (by decide) rfl (fun ls hl => ?_)
          refine lv_goto (tgt := 3) hx hb qd_R_anyWaits_67 (by decide) ?_
          exact ih_1 (a + 1) H locs ls ⟨⟨by omega, fun i r0 q hi => by rcases Nat.lt_or_ge i a with q2 | q2; exact hinv.2 i r0 q q2; obtain rfl : i = a := (by omega); rw [List.getElem?_eq_getElem hlt] at q; obtain rfl := Option.some.inj q; exact fun hh => c_8 hh.2.1⟩, hP, hS, lv_sub hl [2, 3, 4, 5, 0] rfl⟩
        · refine lv_iload hx hb qd_R_anyWaits_50 (lv_at hl 0 rfl) ?_
          refine lv_iload_n hx hb qd_R_anyWaits_52 rfl (lv_at hl 3 rfl) ?_
          refine lv_icmp_lt (tgt := 64) hx hb qd_R_anyWaits_53 (by decide) (fun c_9 => ?_) (fun c_9 => ?_)
          · refine lv_iinc (v := nI (a + 1)) (lv' := [(4, .int (nI (a + 1))), (5, .int ((L[a]'hlt) 2)), (0, .ref ro), (1, .int ky), (2, .int fi), (3, .int la)]) hx hb qd_R_anyWaits_64 hl (k := 5) rfl (mk_inc a) (by decide) rfl (fun ls hl => ?_)
            refine lv_goto (tgt := 3) hx hb qd_R_anyWaits_67 (by decide) ?_
            exact ih_1 (a + 1) H locs ls ⟨⟨by omega, fun i r0 q hi => by rcases Nat.lt_or_ge i a with q2 | q2; exact hinv.2 i r0 q q2; obtain rfl : i = a := (by omega); rw [List.getElem?_eq_getElem hlt] at q; obtain rfl := Option.some.inj q; exact fun hh => sh_nle c_9 hh.2.2.1⟩, hP, hS, lv_sub hl [2, 3, 4, 5, 0] rfl⟩
          · refine lv_iload hx hb qd_R_anyWaits_56 (lv_at hl 0 rfl) ?_
            refine lv_iload_n hx hb qd_R_anyWaits_58 rfl (lv_at hl 4 rfl) ?_
            refine lv_icmp_gt (tgt := 64) hx hb qd_R_anyWaits_59 (by decide) (fun c_10 => ?_) (fun c_10 => ?_)
            · refine lv_iinc (v := nI (a + 1)) (lv' := [(4, .int (nI (a + 1))), (5, .int ((L[a]'hlt) 2)), (0, .ref ro), (1, .int ky), (2, .int fi), (3, .int la)]) hx hb qd_R_anyWaits_64 hl (k := 5) rfl (mk_inc a) (by decide) rfl (fun ls hl => ?_)
              refine lv_goto (tgt := 3) hx hb qd_R_anyWaits_67 (by decide) ?_
              exact ih_1 (a + 1) H locs ls ⟨⟨by omega, fun i r0 q hi => by rcases Nat.lt_or_ge i a with q2 | q2; exact hinv.2 i r0 q q2; obtain rfl : i = a := (by omega); rw [List.getElem?_eq_getElem hlt] at q; obtain rfl := Option.some.inj q; exact fun hh => sh_nle c_10 hh.2.2.2⟩, hP, hS, lv_sub hl [2, 3, 4, 5, 0] rfl⟩
            · refine lv_iconst (v := 1) hx hb qd_R_anyWaits_62 (by decide) ?_
              exact mk_zret hx hb hr hlocks hS qd_R_anyWaits_63 (by decide) (Or.inl ⟨rfl, a, _, List.getElem?_eq_getElem hlt, rs_n2 c_6, c_8, sh_le_of c_9, sh_le_of c_10⟩)
  · obtain ⟨a, rfl⟩ : ∃ z, z = y9 := ⟨_, rfl⟩
    obtain ⟨hinv, hP, hS, hl⟩ := hI
    have hinv : a + 0 = L.length ∧ ∀ (i : Nat) (r0 : Nat → Int32), L[i]? = some r0 → i < a → ¬ rs_any ky fi la r0 := hinv
    have hP : va_P (dC, dI) vwCl (wR ro h b cA L.length f) H := hP
    have hl : lv_has ls 6 [(0, .ref ro), (1, .int ky), (2, .int fi), (3, .int la), (4, .int (nI a))] := hl
    have ea : a = L.length := by omega
    refine lv_iload hx hb qd_R_anyWaits_3 (lv_at hl 4 rfl) ?_
    refine lv_aload_n hx hb qd_R_anyWaits_5 rfl (lv_at hl 0 rfl) ?_
    refine va_get (D := (dC, dI)) (ci := 3) (v := .ref h) (C := qR_R) (T := qT_R) (N := 1) hx hb hts qin_R hown hK hP 0 rfl rfl 0 (by decide) (hts _ mw_92) (fun _ h9 => h9) rfl qd_R_anyWaits_6 ?_
    refine mk_calli (va_runV (As := []) (rest := [.int (nI a)]) ⟨hx, hb, hml, hown, hts⟩ (c_Sh_size l dC dI cA H.size h b 12 96 f L hwf) (cwV 0 hts gc_R_20 rfl rfl rfl (by decide +kernel) ⟨Nat.le_of_ble_eq_true rfl, Nat.le_of_ble_eq_true rfl⟩) (mk_roV hP [1, 2] rfl hK (va_recv hK hP (ci := 4) (q0 := 1) rfl rfl)) rfl rfl hl.1 rfl (lv_room (Nat.le_of_ble_eq_true rfl)) qd_R_anyWaits_9 ⟨(Nat.zero_le _), (Nat.zero_le _)⟩) hS hA hP (fun r_11 H locs hr_11 hP hS => ?_)
    obtain rfl : r_11 = nI L.length := hr_11
    refine lv_icmp_ge (tgt := 70) hx hb qd_R_anyWaits_12 (by decide) (fun c_12 => ?_) (fun c_12 => ?_)
    · refine lv_iconst (v := 0) hx hb qd_R_anyWaits_70 (by decide) ?_
      exact mk_zret hx hb hr hlocks hS qd_R_anyWaits_71 (by decide) (Or.inr ⟨rfl, fun i r0 q => hinv.2 i r0 q (by rw [ea]; exact (List.getElem?_eq_some_iff.mp q).1)⟩)
    · exact absurd (nI_le (by omega) (by omega)) c_12
set_option maxHeartbeats 4000000 in
set_option maxRecDepth 100000 in
/-- dropJoined(horizon) -/
theorem c_R_dropJoined (l : Launch) (dC : Nat → ClassId) (dI : Nat → Nat → Nat) (cA : ClassId) (sz : Nat) (ro h b : Nat) (f : Nat → Int32) (L : List (Nat → Int32)) (hwf : sh_wf 12 96 f L) (hz : Int32) : Met l qy_R_dropJoined qw_R_dropJoined ({ frames := 2, cells := 0, slots := 0, locals := 82 }) (mk_mu [.ref ro, .int hz] sz (dC, dI) vwCl [(cA, .int)] (wR ro h b cA L.length f)) (mk_muQ (S := List (Nat → Int32) × (Nat → Int32)) (fun r u => r = nI (L.length - u.1.length) ∧ u.1 = L.filter (rs_keep hz) ∧ sh_ok 12 u.2 u.1) (fun u => wR ro h b cA u.1.length u.2) (dC, dI) vwCl [(cA, .int)] (va_A (wR ro h b cA L.length f) sz)) 0 0 (va_A (wR ro h b cA L.length f) sz) := by
  refine Met.ofW (cc := qb_R_dropJoined) (maxL := 4) (ret := (some .int)) (by decide) rfl ?_
  intro p e s m args below meth c s₁ B hml hpre
  obtain ⟨rfl, hsz, hP, hK, hD0⟩ := hpre
  have hx := B.exec
  have hb := B.bytes
  have hr := B.returns
  have hts0 := atoms_spec (ws := qw_R_dropJoined) B.pre
  have hts := fun w (h : w ∈ lw_gd) => hts0 w (List.mem_cons_of_mem _ h)
  have hown : s.vm.findClass qR_R = some m.cls := findClass_of_methodNamed B.named
  have hlocks := B.notSynchronized
  subst hsz
  have hD := hD0.self (sz := s.heap.size)
  generalize hAe : va_A (wR ro h b cA L.length f) s.heap.size = A at hD ⊢
  have hA : ∀ q : Nat, s.heap.size ≤ q → A q := fun q h => by rw [← hAe]; exact Or.inr h
  have hS : va_S A s.heap s.heap [] := va_S.rf
  have hl := lv_entry ([.ref ro, .int hz]) (n := 4) (Nat.le_of_ble_eq_true rfl)
  rw [lg_entry_eq]
  generalize (lg_sl ([.ref ro, .int hz]) ++ List.replicate (4 - (lg_sl ([.ref ro, .int hz])).length) Slot.unset).toArray = ls at hl ⊢
  have hl : lv_has ls 4 [(0, .ref ro), (1, .int hz)] := hl
  have hP : va_P (dC, dI) vwCl (wR ro h b cA L.length f) s.heap := hP
  refine mk_start (A := A) hP (fun H locs hP hS => ?_)
  obtain ⟨hok, hlen, -, -, -⟩ := id hwf
  refine lv_aload_n hx hb qd_R_dropJoined_0 rfl (lv_at hl 0 rfl) ?_
  refine va_get (D := (dC, dI)) (ci := 3) (v := .ref h) (C := qR_R) (T := qT_R) (N := 1) hx hb hts qin_R hown hK hP 0 rfl rfl 0 (by decide) (hts _ mw_92) (fun _ h9 => h9) rfl qd_R_dropJoined_1 ?_
  refine mk_calli (va_runV (As := []) (rest := []) ⟨hx, hb, hml, hown, hts⟩ (c_Sh_size l dC dI cA H.size h b 12 96 f L hwf) (cwV 0 hts gc_R_20 rfl rfl rfl (by decide +kernel) ⟨Nat.le_of_ble_eq_true rfl, Nat.le_of_ble_eq_true rfl⟩) (mk_roV hP [1, 2] rfl hK (va_recv hK hP (ci := 4) (q0 := 1) rfl rfl)) rfl rfl hl.1 rfl (lv_room (Nat.le_of_ble_eq_true rfl)) qd_R_dropJoined_4 ⟨(Nat.zero_le _), (Nat.zero_le _)⟩) hS hA hP (fun r_1 H locs hr_1 hP hS => ?_)
  obtain rfl : r_1 = nI L.length := hr_1
  refine lv_istore_n (lv' := [(2, .int (nI L.length)), (0, .ref ro), (1, .int hz)]) hx hb qd_R_dropJoined_7 rfl hl (by decide) rfl (fun ls hl => ?_)
  refine lv_iload_n hx hb qd_R_dropJoined_8 rfl (lv_at hl 0 rfl) ?_
  refine lv_iconst (v := 1) hx hb qd_R_dropJoined_9 (by decide) ?_
  refine lv_isub hx hb qd_R_dropJoined_10 ?_
  refine lv_istore_n (lv' := [(3, .int ((nI L.length) - 1)), (2, .int (nI L.length)), (0, .ref ro), (1, .int hz)]) hx hb qd_R_dropJoined_11 rfl hl (by decide) rfl (fun ls hl => ?_)
  have hP : va_P (dC, dI) vwCl (wR ro h b cA (L.take L.length ++ (L.drop L.length).filter (rs_keep hz)).length f) H := by rw [rs_dj0]; exact hP
  have hD : va_D A (wR ro h b cA (L.take L.length ++ (L.drop L.length).filter (rs_keep hz)).length f) := by rw [rs_dj0]; exact hD
  refine mk_loop (σ := Nat → Int32) (fun n y9 H locs ls => (n ≤ L.length ∧ sh_ok 12 y9 (L.take n ++ (L.drop n).filter (rs_keep hz))) ∧ va_P (dC, dI) vwCl (wR ro h b cA ((L.take n ++ (L.drop n).filter (rs_keep hz)).length) y9) H ∧ va_D A (wR ro h b cA ((L.take n ++ (L.drop n).filter (rs_keep hz)).length) y9) ∧ va_S A s.heap H locs ∧ lv_has ls 4 [(0, .ref ro), (1, .int hz), (2, .int (nI L.length)), (3, .int (nI n - 1))]) (fun ls => F0 m 12 ls []) (fun n y9 H locs ls hI ih_2 => ?_) (fun y9 H locs ls hI => ?_) L.length f H locs ls ⟨⟨Nat.le_refl _, by rw [rs_dj0]; exact hok⟩, hP, hD, hS, lv_sub hl [2, 3, 1, 0] rfl⟩
  · obtain ⟨f1, rfl⟩ : ∃ z, z = y9 := ⟨_, rfl⟩
    obtain ⟨hinv, hP, hD, hS, hl⟩ := hI
    have hinv : (n + 1) ≤ L.length ∧ sh_ok 12 f1 (L.take (n + 1) ++ (L.drop (n + 1)).filter (rs_keep hz)) := hinv
    have hP : va_P (dC, dI) vwCl (wR ro h b cA ((L.take (n + 1) ++ (L.drop (n + 1)).filter (rs_keep hz)).length) f1) H := hP
    have hD : va_D A (wR ro h b cA ((L.take (n + 1) ++ (L.drop (n + 1)).filter (rs_keep hz)).length) f1) := hD
    have hl : lv_has ls 4 [(0, .ref ro), (1, .int hz), (2, .int (nI L.length)), (3, .int (nI (n + 1) - 1))] := hl
    obtain ⟨hn, hok1⟩ := hinv
    have hlt : n < L.length := by omega
    have hat := rs_dj3 (hz := hz) hlt
    have hle := rs_djl L hz (n + 1)
    have hwf1 : sh_wf 12 96 f1 (L.take (n + 1) ++ (L.drop (n + 1)).filter (rs_keep hz)) := ⟨hok1, by omega, by decide, by decide, by decide⟩
    refine lv_iload_n hx hb qd_R_dropJoined_12 rfl (lv_at hl 3 rfl) ?_
    refine lv_if_lt (tgt := 51) hx hb qd_R_dropJoined_13 (by decide) (fun c_3 => ?_) (fun c_3 => ?_)
    · exact absurd c_3 (by rw [nI_pred]; exact nI_pos (by omega))
    · refine lv_aload_n hx hb qd_R_dropJoined_16 rfl (lv_at hl 0 rfl) ?_
      refine lv_iload_n hx hb qd_R_dropJoined_17 rfl (lv_at hl 3 rfl) ?_
      refine mk_rw (y := nI n) (nI_pred n) ?_
      refine mk_calli (va_runV (As := [.int (nI n)]) (rest := []) ⟨hx, hb, hml, hown, hts⟩ (c_R_waits l dC dI cA H.size ro h b f1 (L.take (n + 1) ++ (L.drop (n + 1)).filter (rs_keep hz)) hwf1 (nI n)) (cwV 1 hts gc_R_36 rfl rfl rfl (by decide +kernel) ⟨Nat.le_of_ble_eq_true rfl, Nat.le_of_ble_eq_true rfl⟩) (mk_roV hP [0, 1, 2] rfl hK (va_recv hK hP (ci := 3) (q0 := 0) rfl rfl)) rfl rfl hl.1 rfl (lv_room (Nat.le_of_ble_eq_true rfl)) qd_R_dropJoined_18 ⟨(Nat.zero_le _), (Nat.zero_le _)⟩) hS hA hP (fun r_4 H locs hr_4 hP hS => ?_)
      obtain rfl : r_4 = if (L[n]'hlt) 4 = 1 then 1 else 0 := Eq.trans hr_4 (by rw [show sh_get 12 (L.take (n + 1) ++ (L.drop (n + 1)).filter (rs_keep hz)) (nI n) 4 = (L[n]'hlt) 4 from sh_get_in (by omega) (by decide) hat (by decide)])
      refine lv_if_ne (tgt := 45) hx hb qd_R_dropJoined_21 (by decide) (fun c_5 => ?_) (fun c_5 => ?_)
      · refine lv_iinc (v := nI n - 1) (lv' := [(3, .int (nI n - 1)), (0, .ref ro), (1, .int hz), (2, .int (nI L.length))]) hx hb qd_R_dropJoined_45 hl (k := 3) rfl (mk_dec2 n) (by decide) rfl (fun ls hl => ?_)
        refine lv_goto (tgt := 12) hx hb qd_R_dropJoined_48 (by decide) ?_
        rw [rs_dj2 hlt (rs_kt1 (rs_n2 c_5))] at hok1 hP hD
        exact ih_2 f1 H locs ls ⟨⟨by omega, hok1⟩, hP, hD, hS, lv_sub hl [1, 2, 3, 0] rfl⟩
      · refine lv_aload_n hx hb qd_R_dropJoined_24 rfl (lv_at hl 0 rfl) ?_
        refine va_get (D := (dC, dI)) (ci := 3) (v := .ref h) (C := qR_R) (T := qT_R) (N := 1) hx hb hts qin_R hown hK hP 0 rfl rfl 0 (by decide) (hts _ mw_92) (fun _ h9 => h9) rfl qd_R_dropJoined_25 ?_
        refine lv_iload_n hx hb qd_R_dropJoined_28 rfl (lv_at hl 3 rfl) ?_
        refine mk_rw (y := nI n) (nI_pred n) ?_
        refine lv_iconst (v := 2) hx hb qd_R_dropJoined_29 (by decide) ?_
        refine mk_calli (va_runV (As := [.int (nI n), .int 2]) (rest := []) ⟨hx, hb, hml, hown, hts⟩ (c_Sh_get l dC dI cA H.size h b 12 96 f1 (L.take (n + 1) ++ (L.drop (n + 1)).filter (rs_keep hz)) hwf1 (nI n) 2) (cwV 2 hts gc_R_24 rfl rfl rfl (by decide +kernel) ⟨Nat.le_of_ble_eq_true rfl, Nat.le_of_ble_eq_true rfl⟩) (mk_roV hP [1, 2] rfl hK (va_recv hK hP (ci := 4) (q0 := 1) rfl rfl)) rfl rfl hl.1 rfl (lv_room (Nat.le_of_ble_eq_true rfl)) qd_R_dropJoined_30 ⟨(Nat.zero_le _), (Nat.zero_le _)⟩) hS hA hP (fun r_6 H locs hr_6 hP hS => ?_)
        obtain rfl : r_6 = (L[n]'hlt) 2 := Eq.trans hr_6 (sh_get_in (by omega) (by decide) hat (by decide))
        refine lv_iload_n hx hb qd_R_dropJoined_33 rfl (lv_at hl 1 rfl) ?_
        refine lv_icmp_gt (tgt := 45) hx hb qd_R_dropJoined_34 (by decide) (fun c_7 => ?_) (fun c_7 => ?_)
        · refine lv_iinc (v := nI n - 1) (lv' := [(3, .int (nI n - 1)), (0, .ref ro), (1, .int hz), (2, .int (nI L.length))]) hx hb qd_R_dropJoined_45 hl (k := 3) rfl (mk_dec2 n) (by decide) rfl (fun ls hl => ?_)
          refine lv_goto (tgt := 12) hx hb qd_R_dropJoined_48 (by decide) ?_
          rw [rs_dj2 hlt (rs_kt2 c_7)] at hok1 hP hD
          exact ih_2 f1 H locs ls ⟨⟨by omega, hok1⟩, hP, hD, hS, lv_sub hl [1, 2, 3, 0] rfl⟩
        · refine lv_aload_n hx hb qd_R_dropJoined_37 rfl (lv_at hl 0 rfl) ?_
          refine va_get (D := (dC, dI)) (ci := 3) (v := .ref h) (C := qR_R) (T := qT_R) (N := 1) hx hb hts qin_R hown hK hP 0 rfl rfl 0 (by decide) (hts _ mw_92) (fun _ h9 => h9) rfl qd_R_dropJoined_38 ?_
          refine lv_iload_n hx hb qd_R_dropJoined_41 rfl (lv_at hl 3 rfl) ?_
          refine mk_rw (y := nI n) (nI_pred n) ?_
          refine mk_mcallv (wr := [(ro, .inr (3, [.ref h]))]) (wf := (fun u => wR ro h b cA u.1.length u.2)) (va_runV (As := [.int (nI n)]) (rest := []) ⟨hx, hb, hml, hown, hts⟩ (c_Sh_drop l dC dI cA H.size h b 12 96 f1 (L.take (n + 1) ++ (L.drop (n + 1)).filter (rs_keep hz)) hwf1 n ((List.getElem?_eq_some_iff.mp hat).1)) (cwV 1 hts gc_R_39 rfl rfl rfl (by decide +kernel) ⟨Nat.le_of_ble_eq_true rfl, Nat.le_of_ble_eq_true rfl⟩) (mk_muP hP hD [1, 2] (by decide) rfl hK (va_recv hK hP (ci := 4) (q0 := 1) rfl rfl)) rfl rfl hl.1 rfl (lv_room (Nat.le_of_ble_eq_true rfl)) qd_R_dropJoined_42 ⟨(Nat.zero_le _), (Nat.zero_le _)⟩) hS hA hP hD [1, 2] [0] [0, 1, 2] rfl rfl (by decide) (by decide) (by decide) (fun _ => rfl) (fun u_9 H locs hu_9 hP hD hS => ?_)
          obtain ⟨L1, f2⟩ := u_9
          have hu_9 : L1 = (L.take (n + 1) ++ (L.drop (n + 1)).filter (rs_keep hz)).eraseIdx n ∧ sh_ok 12 f2 L1 := hu_9
          rw [rs_dj1 hlt (rs_kf (rs_n1 c_5) (sh_le_of c_7))] at hu_9
          obtain ⟨rfl, hok2⟩ := hu_9
          have hP : va_P (dC, dI) vwCl (wR ro h b cA ((L.take n ++ (L.drop n).filter (rs_keep hz)).length) f2) H := hP
          have hD : va_D A (wR ro h b cA ((L.take n ++ (L.drop n).filter (rs_keep hz)).length) f2) := hD
          refine lv_iinc (v := nI n - 1) (lv' := [(3, .int (nI n - 1)), (0, .ref ro), (1, .int hz), (2, .int (nI L.length))]) hx hb qd_R_dropJoined_45 hl (k := 3) rfl (mk_dec2 n) (by decide) rfl (fun ls hl => ?_)
          refine lv_goto (tgt := 12) hx hb qd_R_dropJoined_48 (by decide) ?_
          exact ih_2 f2 H locs ls ⟨⟨by omega, hok2⟩, hP, hD, hS, lv_sub hl [1, 2, 3, 0] rfl⟩
  · obtain ⟨f1, rfl⟩ : ∃ z, z = y9 := ⟨_, rfl⟩
    obtain ⟨hinv, hP, hD, hS, hl⟩ := hI
    have hinv : 0 ≤ L.length ∧ sh_ok 12 f1 (L.take 0 ++ (L.drop 0).filter (rs_keep hz)) := hinv
    have hP : va_P (dC, dI) vwCl (wR ro h b cA ((L.take 0 ++ (L.drop 0).filter (rs_keep hz)).length) f1) H := hP
    have hD : va_D A (wR ro h b cA ((L.take 0 ++ (L.drop 0).filter (rs_keep hz)).length) f1) := hD
    have hl : lv_has ls 4 [(0, .ref ro), (1, .int hz), (2, .int (nI L.length)), (3, .int (nI 0 - 1))] := hl
    obtain ⟨hn, hok1⟩ := hinv
    rw [rs_dj9] at hok1 hP hD
    have hle := List.length_filter_le (rs_keep hz) L
    have hwf1 : sh_wf 12 96 f1 (L.filter (rs_keep hz)) := ⟨hok1, by omega, by decide, by decide, by decide⟩
    refine lv_iload_n hx hb qd_R_dropJoined_12 rfl (lv_at hl 3 rfl) ?_
    refine lv_if_lt (tgt := 51) hx hb qd_R_dropJoined_13 (by decide) (fun c_10 => ?_) (fun c_10 => ?_)
    · refine lv_iload_n hx hb qd_R_dropJoined_51 rfl (lv_at hl 2 rfl) ?_
      refine lv_aload_n hx hb qd_R_dropJoined_52 rfl (lv_at hl 0 rfl) ?_
      refine va_get (D := (dC, dI)) (ci := 3) (v := .ref h) (C := qR_R) (T := qT_R) (N := 1) hx hb hts qin_R hown hK hP 0 rfl rfl 0 (by decide) (hts _ mw_92) (fun _ h9 => h9) rfl qd_R_dropJoined_53 ?_
      refine mk_calli (va_runV (As := []) (rest := [.int (nI L.length)]) ⟨hx, hb, hml, hown, hts⟩ (c_Sh_size l dC dI cA H.size h b 12 96 f1 (L.filter (rs_keep hz)) hwf1) (cwV 0 hts gc_R_20 rfl rfl rfl (by decide +kernel) ⟨Nat.le_of_ble_eq_true rfl, Nat.le_of_ble_eq_true rfl⟩) (mk_roV hP [1, 2] rfl hK (va_recv hK hP (ci := 4) (q0 := 1) rfl rfl)) rfl rfl hl.1 rfl (lv_room (Nat.le_of_ble_eq_true rfl)) qd_R_dropJoined_56 ⟨(Nat.zero_le _), (Nat.zero_le _)⟩) hS hA hP (fun r_11 H locs hr_11 hP hS => ?_)
      obtain rfl : r_11 = nI (L.filter (rs_keep hz)).length := hr_11
      refine lv_isub hx hb qd_R_dropJoined_59 ?_
      exact mk_miret (L.filter (rs_keep hz), f1) hx hb hr hlocks hP hK hD hS qd_R_dropJoined_60 (⟨pk_sub hle, rfl, hok1⟩)
    · exact absurd (show nI 0 - 1 < 0 from by decide) c_10
