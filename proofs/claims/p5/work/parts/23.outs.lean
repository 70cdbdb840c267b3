set_option maxHeartbeats 4000000 in
set_option maxRecDepth 100000 in
/-- size() -/
theorem c_O_size (l : Launch) (dC : Nat → ClassId) (dI : Nat → Nat → Nat) (cA : ClassId) (sz : Nat) (oo h b : Nat) (gv tk : Int32) (f : Nat → Int32) (Lo : List (Nat → Int32)) (hwf : sh_wf 11 192 f Lo) : Met l qy_O_size qw_O_size ({ frames := 1, cells := 0, slots := 0, locals := 20 }) (mk_ro [.ref oo] sz (dC, dI) vwCl [(cA, .int)] (wO oo h b cA gv tk Lo.length f)) (mk_roQ (fun r => r = nI Lo.length) sz) 0 0 (mk_new sz) := by
  refine Met.ofW (cc := qb_O_size) (maxL := 1) (ret := (some .int)) (by decide) rfl ?_
  intro p e s m args below meth c s₁ B hml hpre
  obtain ⟨rfl, hsz, hP, hK⟩ := hpre
  have hx := B.exec
  have hb := B.bytes
  have hr := B.returns
  have hts0 := atoms_spec (ws := qw_O_size) B.pre
  have hts := fun w (h : w ∈ lw_gd) => hts0 w (List.mem_cons_of_mem _ h)
  have hown : s.vm.findClass qR_O = some m.cls := findClass_of_methodNamed B.named
  have hlocks := B.notSynchronized
  subst hsz
  have hA : ∀ q : Nat, s.heap.size ≤ q → mk_new s.heap.size q := fun _ h => h
  have hS : va_S (mk_new s.heap.size) s.heap s.heap [] := va_S.rf
  have hl := lv_entry ([.ref oo]) (n := 1) (Nat.le_of_ble_eq_true rfl)
  rw [lg_entry_eq]
  generalize (lg_sl ([.ref oo]) ++ List.replicate (1 - (lg_sl ([.ref oo])).length) Slot.unset).toArray = ls at hl ⊢
  have hl : lv_has ls 1 [(0, .ref oo)] := hl
  have hP : va_P (dC, dI) vwCl (wO oo h b cA gv tk Lo.length f) s.heap := hP
  refine mk_start (A := (mk_new s.heap.size)) hP (fun H locs hP hS => ?_)
  refine lv_aload_n hx hb qd_O_size_0 rfl (lv_at hl 0 rfl) ?_
  refine va_get (D := (dC, dI)) (ci := 2) (v := .ref h) (C := qR_O) (T := qT_O) (N := 3) hx hb hts qin_O hown hK hP 0 rfl rfl 0 (by decide) (hts _ mw_104) (fun _ h9 => h9) rfl qd_O_size_1 ?_
  refine mk_calli (va_runV (As := []) (rest := []) ⟨hx, hb, hml, hown, hts⟩ (c_Sh_size l dC dI cA H.size h b 11 192 f Lo hwf) (cwV 0 hts gc_O_20 rfl rfl rfl (by decide +kernel) ⟨Nat.le_of_ble_eq_true rfl, Nat.le_of_ble_eq_true rfl⟩) (mk_roV hP [1, 2] rfl hK (va_recv hK hP (ci := 4) (q0 := 1) rfl rfl)) rfl rfl hl.1 rfl (lv_room (Nat.le_of_ble_eq_true rfl)) qd_O_size_4 ⟨(Nat.zero_le _), (Nat.zero_le _)⟩) hS hA hP (fun r_1 H locs hr_1 hP hS => ?_)
  obtain rfl : r_1 = nI Lo.length := hr_1
  exact mk_iret hx hb hr hlocks hS qd_O_size_7 (rfl)
set_option maxHeartbeats 4000000 in
set_option maxRecDepth 100000 in
/-- get(line, column) -/
theorem c_O_get (l : Launch) (dC : Nat → ClassId) (dI : Nat → Nat → Nat) (cA : ClassId) (sz : Nat) (oo h b : Nat) (gv tk : Int32) (f : Nat → Int32) (Lo : List (Nat → Int32)) (hwf : sh_wf 11 192 f Lo) (i j : Int32) : Met l qy_O_get qw_O_get ({ frames := 1, cells := 0, slots := 0, locals := 22 }) (mk_ro [.ref oo, .int i, .int j] sz (dC, dI) vwCl [(cA, .int)] (wO oo h b cA gv tk Lo.length f)) (mk_roQ (fun r => r = sh_get 11 Lo i j) sz) 0 0 (mk_new sz) := by
  refine Met.ofW (cc := qb_O_get) (maxL := 3) (ret := (some .int)) (by decide) rfl ?_
  intro p e s m args below meth c s₁ B hml hpre
  obtain ⟨rfl, hsz, hP, hK⟩ := hpre
  have hx := B.exec
  have hb := B.bytes
  have hr := B.returns
  have hts0 := atoms_spec (ws := qw_O_get) B.pre
  have hts := fun w (h : w ∈ lw_gd) => hts0 w (List.mem_cons_of_mem _ h)
  have hown : s.vm.findClass qR_O = some m.cls := findClass_of_methodNamed B.named
  have hlocks := B.notSynchronized
  subst hsz
  have hA : ∀ q : Nat, s.heap.size ≤ q → mk_new s.heap.size q := fun _ h => h
  have hS : va_S (mk_new s.heap.size) s.heap s.heap [] := va_S.rf
  have hl := lv_entry ([.ref oo, .int i, .int j]) (n := 3) (Nat.le_of_ble_eq_true rfl)
  rw [lg_entry_eq]
  generalize (lg_sl ([.ref oo, .int i, .int j]) ++ List.replicate (3 - (lg_sl ([.ref oo, .int i, .int j])).length) Slot.unset).toArray = ls at hl ⊢
  have hl : lv_has ls 3 [(0, .ref oo), (1, .int i), (2, .int j)] := hl
  have hP : va_P (dC, dI) vwCl (wO oo h b cA gv tk Lo.length f) s.heap := hP
  refine mk_start (A := (mk_new s.heap.size)) hP (fun H locs hP hS => ?_)
  refine lv_aload_n hx hb qd_O_get_0 rfl (lv_at hl 0 rfl) ?_
  refine va_get (D := (dC, dI)) (ci := 2) (v := .ref h) (C := qR_O) (T := qT_O) (N := 3) hx hb hts qin_O hown hK hP 0 rfl rfl 0 (by decide) (hts _ mw_104) (fun _ h9 => h9) rfl qd_O_get_1 ?_
  refine lv_iload_n hx hb qd_O_get_4 rfl (lv_at hl 1 rfl) ?_
  refine lv_iload_n hx hb qd_O_get_5 rfl (lv_at hl 2 rfl) ?_
  refine mk_calli (va_runV (As := [.int i, .int j]) (rest := []) ⟨hx, hb, hml, hown, hts⟩ (c_Sh_get l dC dI cA H.size h b 11 192 f Lo hwf i j) (cwV 2 hts gc_O_24 rfl rfl rfl (by decide +kernel) ⟨Nat.le_of_ble_eq_true rfl, Nat.le_of_ble_eq_true rfl⟩) (mk_roV hP [1, 2] rfl hK (va_recv hK hP (ci := 4) (q0 := 1) rfl rfl)) rfl rfl hl.1 rfl (lv_room (Nat.le_of_ble_eq_true rfl)) qd_O_get_6 ⟨(Nat.zero_le _), (Nat.zero_le _)⟩) hS hA hP (fun r_1 H locs hr_1 hP hS => ?_)
  obtain rfl : r_1 = sh_get 11 Lo i j := hr_1
  exact mk_iret hx hb hr hlocks hS qd_O_get_9 (rfl)
set_option maxHeartbeats 4000000 in
set_option maxRecDepth 100000 in
/-- clear() -/
theorem c_O_clear (l : Launch) (dC : Nat → ClassId) (dI : Nat → Nat → Nat) (cA : ClassId) (sz : Nat) (oo h b : Nat) (gv tk : Int32) (f : Nat → Int32) (Lo : List (Nat → Int32)) (hwf : sh_wf 11 192 f Lo) : Met l qy_O_clear qw_O_clear ({ frames := 1, cells := 0, slots := 0, locals := 20 }) (mk_mu [.ref oo] sz (dC, dI) vwCl [(cA, .int)] (wO oo h b cA gv tk Lo.length f)) (mk_muV (S := List (Nat → Int32) × (Nat → Int32)) (fun u => u.1 = [] ∧ sh_ok 11 u.2 u.1) (fun u => wO oo h b cA gv tk u.1.length u.2) (dC, dI) vwCl [(cA, .int)] (va_A (wO oo h b cA gv tk Lo.length f) sz)) 0 0 (va_A (wO oo h b cA gv tk Lo.length f) sz) := by
  refine Met.ofW (cc := qb_O_clear) (maxL := 1) (ret := none) (by decide) rfl ?_
  intro p e s m args below meth c s₁ B hml hpre
  obtain ⟨rfl, hsz, hP, hK, hD0⟩ := hpre
  have hx := B.exec
  have hb := B.bytes
  have hr := B.returns
  have hts0 := atoms_spec (ws := qw_O_clear) B.pre
  have hts := fun w (h : w ∈ lw_gd) => hts0 w (List.mem_cons_of_mem _ h)
  have hown : s.vm.findClass qR_O = some m.cls := findClass_of_methodNamed B.named
  have hlocks := B.notSynchronized
  subst hsz
  have hD := hD0.self (sz := s.heap.size)
  generalize hAe : va_A (wO oo h b cA gv tk Lo.length f) s.heap.size = A at hD ⊢
  have hA : ∀ q : Nat, s.heap.size ≤ q → A q := fun q h => by rw [← hAe]; exact Or.inr h
  have hS : va_S A s.heap s.heap [] := va_S.rf
  have hl := lv_entry ([.ref oo]) (n := 1) (Nat.le_of_ble_eq_true rfl)
  rw [lg_entry_eq]
  generalize (lg_sl ([.ref oo]) ++ List.replicate (1 - (lg_sl ([.ref oo])).length) Slot.unset).toArray = ls at hl ⊢
  have hl : lv_has ls 1 [(0, .ref oo)] := hl
  have hP : va_P (dC, dI) vwCl (wO oo h b cA gv tk Lo.length f) s.heap := hP
  refine mk_start (A := A) hP (fun H locs hP hS => ?_)
  refine lv_aload_n hx hb qd_O_clear_0 rfl (lv_at hl 0 rfl) ?_
  refine va_get (D := (dC, dI)) (ci := 2) (v := .ref h) (C := qR_O) (T := qT_O) (N := 3) hx hb hts qin_O hown hK hP 0 rfl rfl 0 (by decide) (hts _ mw_104) (fun _ h9 => h9) rfl qd_O_clear_1 ?_
  refine mk_mcallv (wr := [(oo, .inr (2, [.ref h, .int gv, .int tk]))]) (wf := (fun u => wO oo h b cA gv tk u.1.length u.2)) (va_runV (As := []) (rest := []) ⟨hx, hb, hml, hown, hts⟩ (c_Sh_clear l dC dI cA H.size h b 11 192 f Lo hwf) (cwV 0 hts gc_O_28 rfl rfl rfl (by decide +kernel) ⟨Nat.le_of_ble_eq_true rfl, Nat.le_of_ble_eq_true rfl⟩) (mk_muP hP hD [1, 2] (by decide) rfl hK (va_recv hK hP (ci := 4) (q0 := 1) rfl rfl)) rfl rfl hl.1 rfl (lv_room (Nat.le_of_ble_eq_true rfl)) qd_O_clear_4 ⟨(Nat.zero_le _), (Nat.zero_le _)⟩) hS hA hP hD [1, 2] [0] [0, 1, 2] rfl rfl (by decide) (by decide) (by decide) (fun _ => rfl) (fun u_2 H locs hu_2 hP hD hS => ?_)
  obtain ⟨L1, f1⟩ := u_2
  obtain ⟨rfl, hok1⟩ : L1 = [] ∧ sh_ok 11 f1 L1 := hu_2
  have hP : va_P (dC, dI) vwCl (wO oo h b cA gv tk (([] : List (Nat → Int32)).length) f1) H := hP
  have hD : va_D A (wO oo h b cA gv tk (([] : List (Nat → Int32)).length) f1) := hD
  exact mk_mvret ([], f1) hx hb hr hlocks hP hK hD hS qd_O_clear_7 (⟨rfl, hok1⟩)
set_option maxHeartbeats 4000000 in
set_option maxRecDepth 100000 in
/-- add(kind, rows, line), where there is room -/
theorem c_O_add (l : Launch) (dC : Nat → ClassId) (dI : Nat → Nat → Nat) (cA : ClassId) (sz : Nat) (oo h b ro h2 b2 : Nat) (gv tk : Int32) (f fR : Nat → Int32) (Lo L : List (Nat → Int32)) (hwf : sh_wf 11 192 f Lo) (hwfR : sh_wf 12 96 fR L) (hroom : Lo.length < 192) (kd : Int32) (i' : Nat) (r0 : Nat → Int32) (hr0 : L[i']? = some r0) : Met l qy_O_add qw_O_add ({ frames := 2, cells := 0, slots := 0, locals := 82 }) (mk_mu [.ref oo, .int kd, .ref ro, .int (nI i')] sz (dC, dI) vwCl [(cA, .int)] (wOR oo h b cA gv tk Lo.length f ro h2 b2 L.length fR)) (mk_muV (S := List (Nat → Int32) × (Nat → Int32)) (fun u => u.1 = Lo ++ [ot_rec kd r0] ∧ sh_ok 11 u.2 u.1) (fun u => wOR oo h b cA (if kd = 1 then gv + 1 else gv) (if kd = 1 then tk else tk + 1) u.1.length u.2 ro h2 b2 L.length fR) (dC, dI) vwCl [(cA, .int)] (va_A (wOR oo h b cA gv tk Lo.length f ro h2 b2 L.length fR) sz)) 0 0 (va_A (wOR oo h b cA gv tk Lo.length f ro h2 b2 L.length fR) sz) := by
  refine Met.ofW (cc := qb_O_add) (maxL := 6) (ret := none) (by decide) rfl ?_
  intro p e s m args below meth c s₁ B hml hpre
  obtain ⟨rfl, hsz, hP, hK, hD0⟩ := hpre
  have hx := B.exec
  have hb := B.bytes
  have hr := B.returns
  have hts0 := atoms_spec (ws := qw_O_add) B.pre
  have hts := fun w (h : w ∈ lw_gd) => hts0 w (List.mem_cons_of_mem _ h)
  have hown : s.vm.findClass qR_O = some m.cls := findClass_of_methodNamed B.named
  have hlocks := B.notSynchronized
  subst hsz
  have hD := hD0.self (sz := s.heap.size)
  generalize hAe : va_A (wOR oo h b cA gv tk Lo.length f ro h2 b2 L.length fR) s.heap.size = A at hD ⊢
  have hA : ∀ q : Nat, s.heap.size ≤ q → A q := fun q h => by rw [← hAe]; exact Or.inr h
  have hS : va_S A s.heap s.heap [] := va_S.rf
  have hl := lv_entry ([.ref oo, .int kd, .ref ro, .int (nI i')]) (n := 6) (Nat.le_of_ble_eq_true rfl)
  rw [lg_entry_eq]
  generalize (lg_sl ([.ref oo, .int kd, .ref ro, .int (nI i')]) ++ List.replicate (6 - (lg_sl ([.ref oo, .int kd, .ref ro, .int (nI i')])).length) Slot.unset).toArray = ls at hl ⊢
  have hl : lv_has ls 6 [(0, .ref oo), (1, .int kd), (2, .ref ro), (3, .int (nI i'))] := hl
  have hP : va_P (dC, dI) vwCl (wOR oo h b cA gv tk Lo.length f ro h2 b2 L.length fR) s.heap := hP
  refine mk_start (A := A) hP (fun H locs hP hS => ?_)
  obtain ⟨hok, hlen, -, -, -⟩ := id hwf
  obtain ⟨hok2r, hlen2, -, -, -⟩ := id hwfR
  refine lv_aload_n hx hb qd_O_add_0 rfl (lv_at hl 0 rfl) ?_
  refine va_get (D := (dC, dI)) (ci := 2) (v := .ref h) (C := qR_O) (T := qT_O) (N := 3) hx hb hts qin_O hown hK hP 0 rfl rfl 0 (by decide) (hts _ mw_104) (fun _ h9 => h9) rfl qd_O_add_1 ?_
  refine mk_calli (va_runV (As := []) (rest := []) ⟨hx, hb, hml, hown, hts⟩ (c_Sh_size l dC dI cA H.size h b 11 192 f Lo hwf) (cwV 0 hts gc_O_20 rfl rfl rfl (by decide +kernel) ⟨Nat.le_of_ble_eq_true rfl, Nat.le_of_ble_eq_true rfl⟩) (mk_roV hP [1, 2] rfl hK (va_recv hK hP (ci := 4) (q0 := 1) rfl rfl)) rfl rfl hl.1 rfl (lv_room (Nat.le_of_ble_eq_true rfl)) qd_O_add_4 ⟨(Nat.zero_le _), (Nat.zero_le _)⟩) hS hA hP (fun r_1 H locs hr_1 hP hS => ?_)
  obtain rfl : r_1 = nI Lo.length := hr_1
  refine lv_istore (lv' := [(4, .int (nI Lo.length)), (0, .ref oo), (1, .int kd), (2, .ref ro), (3, .int (nI i'))]) hx hb qd_O_add_7 hl (by decide) rfl (fun ls hl => ?_)
  refine lv_aload_n hx hb qd_O_add_9 rfl (lv_at hl 3 rfl) ?_
  refine lv_ifnull hx hb qd_O_add_10 ?_
  refine lv_aload_n hx hb qd_O_add_13 rfl (lv_at hl 1 rfl) ?_
  refine va_get (D := (dC, dI)) (ci := 2) (v := .ref h) (C := qR_O) (T := qT_O) (N := 3) hx hb hts qin_O hown hK hP 0 rfl rfl 0 (by decide) (hts _ mw_104) (fun _ h9 => h9) rfl qd_O_add_14 ?_
  refine lv_iload hx hb qd_O_add_17 (lv_at hl 0 rfl) ?_
  refine mk_mcalli (wr := [(oo, .inr (2, [.ref h, .int gv, .int tk])), (ro, .inr (3, [.ref h2])), (h2, .inr (4, [.int (nI 12), .int (nI 96), .ref b2, .int (nI L.length)])), (b2, .inl (cA, (12 * 96), .inl fR))]) (wf := (fun u => wOR oo h b cA gv tk u.1.length u.2 ro h2 b2 L.length fR)) (va_runV (As := [.int (nI Lo.length)]) (rest := []) ⟨hx, hb, hml, hown, hts⟩ (c_Sh_open l dC dI cA H.size h b 11 192 f Lo hwf Lo.length (Nat.le_refl _) hroom) (cwV 1 hts gc_O_31 rfl rfl rfl (by decide +kernel) ⟨Nat.le_of_ble_eq_true rfl, Nat.le_of_ble_eq_true rfl⟩) (mk_muP hP hD [1, 2] (by decide) rfl hK (va_recv hK hP (ci := 4) (q0 := 1) rfl rfl)) rfl rfl hl.1 rfl (lv_room (Nat.le_of_ble_eq_true rfl)) qd_O_add_19 ⟨(Nat.zero_le _), (Nat.zero_le _)⟩) hS hA hP hD [1, 2] [0, 3, 4, 5] [0, 4, 5, 1, 2, 3] rfl rfl (by decide) (by decide) (by decide) (fun _ => rfl) (fun r_2 u_3 H locs hr_2 hP hD hS => ?_)
  obtain ⟨L1, f1⟩ := u_3
  obtain ⟨rfl, rfl, hok1⟩ : r_2 = 1 ∧ L1 = (Lo.take Lo.length ++ (fun j => f (Lo.length * 11 + j)) :: Lo.drop Lo.length) ∧ sh_ok 11 f1 L1 := hr_2
  generalize (fun j => f (Lo.length * 11 + j)) = r1 at hP hD hok1
  have hP : va_P (dC, dI) vwCl (wOR oo h b cA gv tk ((Lo.take Lo.length ++ r1 :: Lo.drop Lo.length).length) f1 ro h2 b2 L.length fR) H := hP
  have hD : va_D A (wOR oo h b cA gv tk ((Lo.take Lo.length ++ r1 :: Lo.drop Lo.length).length) f1 ro h2 b2 L.length fR) := hD
  refine lv_if_ne (tgt := 26) hx hb qd_O_add_22 (by decide) (fun c_4 => ?_) (fun c_4 => ?_)
  · refine mk_after (σ := Int32 × Int32) (fun y9 H locs ls => (y9.1 = (if kd = 1 then gv + 1 else gv) ∧ y9.2 = (if kd = 1 then tk else tk + 1)) ∧ va_P (dC, dI) vwCl (wOR oo h b cA y9.1 y9.2 ((Lo.take Lo.length ++ r1 :: Lo.drop Lo.length).length) f1 ro h2 b2 L.length fR) H ∧ va_D A (wOR oo h b cA y9.1 y9.2 ((Lo.take Lo.length ++ r1 :: Lo.drop Lo.length).length) f1 ro h2 b2 L.length fR) ∧ va_S A s.heap H locs ∧ lv_has ls 6 [(0, .ref oo), (1, .int kd), (2, .ref ro), (3, .int (nI i')), (4, .int (nI Lo.length))]) (fun ls => F0 m 54 ls []) (fun y9 H locs ls hI => ?_) (fun J_5 => ?_)
    · obtain ⟨g2, t2⟩ := y9
      obtain ⟨hinv, hP, hD, hS, hl⟩ := hI
      have hinv : g2 = (if kd = 1 then gv + 1 else gv) ∧ t2 = (if kd = 1 then tk else tk + 1) := hinv
      have hP : va_P (dC, dI) vwCl (wOR oo h b cA g2 t2 ((Lo.take Lo.length ++ r1 :: Lo.drop Lo.length).length) f1 ro h2 b2 L.length fR) H := hP
      have hD : va_D A (wOR oo h b cA g2 t2 ((Lo.take Lo.length ++ r1 :: Lo.drop Lo.length).length) f1 ro h2 b2 L.length fR) := hD
      have hl : lv_has ls 6 [(0, .ref oo), (1, .int kd), (2, .ref ro), (3, .int (nI i')), (4, .int (nI Lo.length))] := hl
      obtain ⟨rfl, rfl⟩ := hinv
      have hP : va_P (dC, dI) vwCl (wOR oo h b cA (if kd = 1 then gv + 1 else gv) (if kd = 1 then tk else tk + 1) ((Lo.take Lo.length ++ r1 :: Lo.drop Lo.length).length) f1 ro h2 b2 L.length fR) H := hP
      have hD : va_D A (wOR oo h b cA (if kd = 1 then gv + 1 else gv) (if kd = 1 then tk else tk + 1) ((Lo.take Lo.length ++ r1 :: Lo.drop Lo.length).length) f1 ro h2 b2 L.length fR) := hD
      refine lv_aload_n hx hb qd_O_add_54 rfl (lv_at hl 0 rfl) ?_
      refine va_get (D := (dC, dI)) (ci := 2) (v := .ref h) (C := qR_O) (T := qT_O) (N := 3) hx hb hts qin_O hown hK hP 0 rfl rfl 0 (by decide) (hts _ mw_104) (fun _ h9 => h9) rfl qd_O_add_55 ?_
      refine lv_iload hx hb qd_O_add_58 (lv_at hl 4 rfl) ?_
      refine lv_iconst (v := 0) hx hb qd_O_add_60 (by decide) ?_
      refine lv_iload_n hx hb qd_O_add_61 rfl (lv_at hl 1 rfl) ?_
      have hwf1 : sh_wf 11 192 f1 (Lo.take Lo.length ++ r1 :: Lo.drop Lo.length) := ⟨hok1, by rw [ls_ins_len (Nat.le_refl _)]; omega, by decide, by decide, by decide⟩
      refine mk_mcallv (wr := [(oo, .inr (2, [.ref h, .int (if kd = 1 then gv + 1 else gv), .int (if kd = 1 then tk else tk + 1)])), (ro, .inr (3, [.ref h2])), (h2, .inr (4, [.int (nI 12), .int (nI 96), .ref b2, .int (nI L.length)])), (b2, .inl (cA, (12 * 96), .inl fR))]) (wf := (fun u => wOR oo h b cA (if kd = 1 then gv + 1 else gv) (if kd = 1 then tk else tk + 1) u.1.length u.2 ro h2 b2 L.length fR)) (va_runV (As := [.int (nI Lo.length), .int 0, .int kd]) (rest := []) ⟨hx, hb, hml, hown, hts⟩ (c_Sh_set l dC dI cA H.size h b 11 192 f1 (Lo.take Lo.length ++ r1 :: Lo.drop Lo.length) hwf1 Lo.length 0 kd r1 (ls_ins_at (Nat.le_refl _)) (by omega)) (cwV 3 hts gc_O_42 rfl rfl rfl (by decide +kernel) ⟨Nat.le_of_ble_eq_true rfl, Nat.le_of_ble_eq_true rfl⟩) (mk_muP hP hD [1, 2] (by decide) rfl hK (va_recv hK hP (ci := 4) (q0 := 1) rfl rfl)) rfl rfl hl.1 rfl (lv_room (Nat.le_of_ble_eq_true rfl)) qd_O_add_62 ⟨(Nat.zero_le _), (Nat.zero_le _)⟩) hS hA hP hD [1, 2] [0, 3, 4, 5] [0, 4, 5, 1, 2, 3] rfl rfl (by decide) (by decide) (by decide) (fun _ => rfl) (fun u_7 H locs hu_7 hP hD hS => ?_)
      obtain ⟨L1, f2⟩ := u_7
      have hu_7 : L1 = (Lo.take Lo.length ++ r1 :: Lo.drop Lo.length).set Lo.length (upd r1 0 kd) ∧ sh_ok 11 f2 L1 := hu_7
      rw [ls_ins_set (Nat.le_refl _)] at hu_7
      obtain ⟨rfl, hok2⟩ := hu_7
      have hP : va_P (dC, dI) vwCl (wOR oo h b cA (if kd = 1 then gv + 1 else gv) (if kd = 1 then tk else tk + 1) ((Lo.take Lo.length ++ (upd r1 0 kd) :: Lo.drop Lo.length).length) f2 ro h2 b2 L.length fR) H := hP
      have hD : va_D A (wOR oo h b cA (if kd = 1 then gv + 1 else gv) (if kd = 1 then tk else tk + 1) ((Lo.take Lo.length ++ (upd r1 0 kd) :: Lo.drop Lo.length).length) f2 ro h2 b2 L.length fR) := hD
      refine lv_aload_n hx hb qd_O_add_65 rfl (lv_at hl 0 rfl) ?_
      refine va_get (D := (dC, dI)) (ci := 2) (v := .ref h) (C := qR_O) (T := qT_O) (N := 3) hx hb hts qin_O hown hK hP 0 rfl rfl 0 (by decide) (hts _ mw_104) (fun _ h9 => h9) rfl qd_O_add_66 ?_
      refine lv_iload hx hb qd_O_add_69 (lv_at hl 4 rfl) ?_
      refine lv_iconst (v := 1) hx hb qd_O_add_71 (by decide) ?_
      refine lv_aload_n hx hb qd_O_add_72 rfl (lv_at hl 2 rfl) ?_
      refine lv_iload_n hx hb qd_O_add_73 rfl (lv_at hl 3 rfl) ?_
      refine lv_iconst (v := 0) hx hb qd_O_add_74 (by decide) ?_
      refine mk_calli (va_runV (As := [.int (nI i'), .int 0]) (rest := [.int 1, .int (nI Lo.length), .ref h]) ⟨hx, hb, hml, hown, hts⟩ (c_R_get l dC dI cA H.size ro h2 b2 fR L hwfR (nI i') 0) (cwV 2 hts gc_O_48 rfl rfl rfl (by decide +kernel) ⟨Nat.le_of_ble_eq_true rfl, Nat.le_of_ble_eq_true rfl⟩) (mk_roV hP [3, 4, 5] rfl hK (va_recv hK hP (ci := 3) (q0 := 3) rfl rfl)) rfl rfl hl.1 rfl (lv_room (Nat.le_of_ble_eq_true rfl)) qd_O_add_75 ⟨(Nat.zero_le _), (Nat.zero_le _)⟩) hS hA hP (fun r_8 H locs hr_8 hP hS => ?_)
      obtain rfl : r_8 = r0 0 := Eq.trans hr_8 (sh_get_in (by omega) (by decide) hr0 (by first | decide | omega))
      have hwf2 : sh_wf 11 192 f2 (Lo.take Lo.length ++ (upd r1 0 kd) :: Lo.drop Lo.length) := ⟨hok2, by rw [ls_ins_len (Nat.le_refl _)]; omega, by decide, by decide, by decide⟩
      refine mk_mcallv (wr := [(oo, .inr (2, [.ref h, .int (if kd = 1 then gv + 1 else gv), .int (if kd = 1 then tk else tk + 1)])), (ro, .inr (3, [.ref h2])), (h2, .inr (4, [.int (nI 12), .int (nI 96), .ref b2, .int (nI L.length)])), (b2, .inl (cA, (12 * 96), .inl fR))]) (wf := (fun u => wOR oo h b cA (if kd = 1 then gv + 1 else gv) (if kd = 1 then tk else tk + 1) u.1.length u.2 ro h2 b2 L.length fR)) (va_runV (As := [.int (nI Lo.length), .int 1, .int (r0 0)]) (rest := []) ⟨hx, hb, hml, hown, hts⟩ (c_Sh_set l dC dI cA H.size h b 11 192 f2 (Lo.take Lo.length ++ (upd r1 0 kd) :: Lo.drop Lo.length) hwf2 Lo.length 1 (r0 0) (upd r1 0 kd) (ls_ins_at (Nat.le_refl _)) (by omega)) (cwV 3 hts gc_O_42 rfl rfl rfl (by decide +kernel) ⟨Nat.le_of_ble_eq_true rfl, Nat.le_of_ble_eq_true rfl⟩) (mk_muP hP hD [1, 2] (by decide) rfl hK (va_recv hK hP (ci := 4) (q0 := 1) rfl rfl)) rfl rfl hl.1 rfl (lv_room (Nat.le_of_ble_eq_true rfl)) qd_O_add_78 ⟨(Nat.zero_le _), (Nat.zero_le _)⟩) hS hA hP hD [1, 2] [0, 3, 4, 5] [0, 4, 5, 1, 2, 3] rfl rfl (by decide) (by decide) (by decide) (fun _ => rfl) (fun u_10 H locs hu_10 hP hD hS => ?_)
      obtain ⟨L1, f3⟩ := u_10
      have hu_10 : L1 = (Lo.take Lo.length ++ (upd r1 0 kd) :: Lo.drop Lo.length).set Lo.length (upd (upd r1 0 kd) 1 (r0 0)) ∧ sh_ok 11 f3 L1 := hu_10
      rw [ls_ins_set (Nat.le_refl _)] at hu_10
      obtain ⟨rfl, hok3⟩ := hu_10
      have hP : va_P (dC, dI) vwCl (wOR oo h b cA (if kd = 1 then gv + 1 else gv) (if kd = 1 then tk else tk + 1) ((Lo.take Lo.length ++ (upd (upd r1 0 kd) 1 (r0 0)) :: Lo.drop Lo.length).length) f3 ro h2 b2 L.length fR) H := hP
      have hD : va_D A (wOR oo h b cA (if kd = 1 then gv + 1 else gv) (if kd = 1 then tk else tk + 1) ((Lo.take Lo.length ++ (upd (upd r1 0 kd) 1 (r0 0)) :: Lo.drop Lo.length).length) f3 ro h2 b2 L.length fR) := hD
      refine lv_aload_n hx hb qd_O_add_81 rfl (lv_at hl 0 rfl) ?_
      refine va_get (D := (dC, dI)) (ci := 2) (v := .ref h) (C := qR_O) (T := qT_O) (N := 3) hx hb hts qin_O hown hK hP 0 rfl rfl 0 (by decide) (hts _ mw_104) (fun _ h9 => h9) rfl qd_O_add_82 ?_
      refine lv_iload hx hb qd_O_add_85 (lv_at hl 4 rfl) ?_
      refine lv_iconst (v := 2) hx hb qd_O_add_87 (by decide) ?_
      refine lv_aload_n hx hb qd_O_add_88 rfl (lv_at hl 2 rfl) ?_
      refine lv_iload_n hx hb qd_O_add_89 rfl (lv_at hl 3 rfl) ?_
      refine lv_iconst (v := 1) hx hb qd_O_add_90 (by decide) ?_
      refine mk_calli (va_runV (As := [.int (nI i'), .int 1]) (rest := [.int 2, .int (nI Lo.length), .ref h]) ⟨hx, hb, hml, hown, hts⟩ (c_R_get l dC dI cA H.size ro h2 b2 fR L hwfR (nI i') 1) (cwV 2 hts gc_O_48 rfl rfl rfl (by decide +kernel) ⟨Nat.le_of_ble_eq_true rfl, Nat.le_of_ble_eq_true rfl⟩) (mk_roV hP [3, 4, 5] rfl hK (va_recv hK hP (ci := 3) (q0 := 3) rfl rfl)) rfl rfl hl.1 rfl (lv_room (Nat.le_of_ble_eq_true rfl)) qd_O_add_91 ⟨(Nat.zero_le _), (Nat.zero_le _)⟩) hS hA hP (fun r_11 H locs hr_11 hP hS => ?_)
      obtain rfl : r_11 = r0 1 := Eq.trans hr_11 (sh_get_in (by omega) (by decide) hr0 (by first | decide | omega))
      have hwf3 : sh_wf 11 192 f3 (Lo.take Lo.length ++ (upd (upd r1 0 kd) 1 (r0 0)) :: Lo.drop Lo.length) := ⟨hok3, by rw [ls_ins_len (Nat.le_refl _)]; omega, by decide, by decide, by decide⟩
      refine mk_mcallv (wr := [(oo, .inr (2, [.ref h, .int (if kd = 1 then gv + 1 else gv), .int (if kd = 1 then tk else tk + 1)])), (ro, .inr (3, [.ref h2])), (h2, .inr (4, [.int (nI 12), .int (nI 96), .ref b2, .int (nI L.length)])), (b2, .inl (cA, (12 * 96), .inl fR))]) (wf := (fun u => wOR oo h b cA (if kd = 1 then gv + 1 else gv) (if kd = 1 then tk else tk + 1) u.1.length u.2 ro h2 b2 L.length fR)) (va_runV (As := [.int (nI Lo.length), .int 2, .int (r0 1)]) (rest := []) ⟨hx, hb, hml, hown, hts⟩ (c_Sh_set l dC dI cA H.size h b 11 192 f3 (Lo.take Lo.length ++ (upd (upd r1 0 kd) 1 (r0 0)) :: Lo.drop Lo.length) hwf3 Lo.length 2 (r0 1) (upd (upd r1 0 kd) 1 (r0 0)) (ls_ins_at (Nat.le_refl _)) (by omega)) (cwV 3 hts gc_O_42 rfl rfl rfl (by decide +kernel) ⟨Nat.le_of_ble_eq_true rfl, Nat.le_of_ble_eq_true rfl⟩) (mk_muP hP hD [1, 2] (by decide) rfl hK (va_recv hK hP (ci := 4) (q0 := 1) rfl rfl)) rfl rfl hl.1 rfl (lv_room (Nat.le_of_ble_eq_true rfl)) qd_O_add_94 ⟨(Nat.zero_le _), (Nat.zero_le _)⟩) hS hA hP hD [1, 2] [0, 3, 4, 5] [0, 4, 5, 1, 2, 3] rfl rfl (by decide) (by decide) (by decide) (fun _ => rfl) (fun u_13 H locs hu_13 hP hD hS => ?_)
      obtain ⟨L1, f4⟩ := u_13
      have hu_13 : L1 = (Lo.take Lo.length ++ (upd (upd r1 0 kd) 1 (r0 0)) :: Lo.drop Lo.length).set Lo.length (upd (upd (upd r1 0 kd) 1 (r0 0)) 2 (r0 1)) ∧ sh_ok 11 f4 L1 := hu_13
      rw [ls_ins_set (Nat.le_refl _)] at hu_13
      obtain ⟨rfl, hok4⟩ := hu_13
      have hP : va_P (dC, dI) vwCl (wOR oo h b cA (if kd = 1 then gv + 1 else gv) (if kd = 1 then tk else tk + 1) ((Lo.take Lo.length ++ (upd (upd (upd r1 0 kd) 1 (r0 0)) 2 (r0 1)) :: Lo.drop Lo.length).length) f4 ro h2 b2 L.length fR) H := hP
      have hD : va_D A (wOR oo h b cA (if kd = 1 then gv + 1 else gv) (if kd = 1 then tk else tk + 1) ((Lo.take Lo.length ++ (upd (upd (upd r1 0 kd) 1 (r0 0)) 2 (r0 1)) :: Lo.drop Lo.length).length) f4 ro h2 b2 L.length fR) := hD
      refine lv_aload_n hx hb qd_O_add_97 rfl (lv_at hl 0 rfl) ?_
      refine va_get (D := (dC, dI)) (ci := 2) (v := .ref h) (C := qR_O) (T := qT_O) (N := 3) hx hb hts qin_O hown hK hP 0 rfl rfl 0 (by decide) (hts _ mw_104) (fun _ h9 => h9) rfl qd_O_add_98 ?_
      refine lv_iload hx hb qd_O_add_101 (lv_at hl 4 rfl) ?_
      refine lv_iconst (v := 3) hx hb qd_O_add_103 (by decide) ?_
      refine lv_aload_n hx hb qd_O_add_104 rfl (lv_at hl 2 rfl) ?_
      refine lv_iload_n hx hb qd_O_add_105 rfl (lv_at hl 3 rfl) ?_
      refine lv_iconst (v := 2) hx hb qd_O_add_106 (by decide) ?_
      refine mk_calli (va_runV (As := [.int (nI i'), .int 2]) (rest := [.int 3, .int (nI Lo.length), .ref h]) ⟨hx, hb, hml, hown, hts⟩ (c_R_get l dC dI cA H.size ro h2 b2 fR L hwfR (nI i') 2) (cwV 2 hts gc_O_48 rfl rfl rfl (by decide +kernel) ⟨Nat.le_of_ble_eq_true rfl, Nat.le_of_ble_eq_true rfl⟩) (mk_roV hP [3, 4, 5] rfl hK (va_recv hK hP (ci := 3) (q0 := 3) rfl rfl)) rfl rfl hl.1 rfl (lv_room (Nat.le_of_ble_eq_true rfl)) qd_O_add_107 ⟨(Nat.zero_le _), (Nat.zero_le _)⟩) hS hA hP (fun r_14 H locs hr_14 hP hS => ?_)
      obtain rfl : r_14 = r0 2 := Eq.trans hr_14 (sh_get_in (by omega) (by decide) hr0 (by first | decide | omega))
      have hwf4 : sh_wf 11 192 f4 (Lo.take Lo.length ++ (upd (upd (upd r1 0 kd) 1 (r0 0)) 2 (r0 1)) :: Lo.drop Lo.length) := ⟨hok4, by rw [ls_ins_len (Nat.le_refl _)]; omega, by decide, by decide, by decide⟩
      refine mk_mcallv (wr := [(oo, .inr (2, [.ref h, .int (if kd = 1 then gv + 1 else gv), .int (if kd = 1 then tk else tk + 1)])), (ro, .inr (3, [.ref h2])), (h2, .inr (4, [.int (nI 12), .int (nI 96), .ref b2, .int (nI L.length)])), (b2, .inl (cA, (12 * 96), .inl fR))]) (wf := (fun u => wOR oo h b cA (if kd = 1 then gv + 1 else gv) (if kd = 1 then tk else tk + 1) u.1.length u.2 ro h2 b2 L.length fR)) (va_runV (As := [.int (nI Lo.length), .int 3, .int (r0 2)]) (rest := []) ⟨hx, hb, hml, hown, hts⟩ (c_Sh_set l dC dI cA H.size h b 11 192 f4 (Lo.take Lo.length ++ (upd (upd (upd r1 0 kd) 1 (r0 0)) 2 (r0 1)) :: Lo.drop Lo.length) hwf4 Lo.length 3 (r0 2) (upd (upd (upd r1 0 kd) 1 (r0 0)) 2 (r0 1)) (ls_ins_at (Nat.le_refl _)) (by omega)) (cwV 3 hts gc_O_42 rfl rfl rfl (by decide +kernel) ⟨Nat.le_of_ble_eq_true rfl, Nat.le_of_ble_eq_true rfl⟩) (mk_muP hP hD [1, 2] (by decide) rfl hK (va_recv hK hP (ci := 4) (q0 := 1) rfl rfl)) rfl rfl hl.1 rfl (lv_room (Nat.le_of_ble_eq_true rfl)) qd_O_add_110 ⟨(Nat.zero_le _), (Nat.zero_le _)⟩) hS hA hP hD [1, 2] [0, 3, 4, 5] [0, 4, 5, 1, 2, 3] rfl rfl (by decide) (by decide) (by decide) (fun _ => rfl) (fun u_16 H locs hu_16 hP hD hS => ?_)
      obtain ⟨L1, f5⟩ := u_16
      have hu_16 : L1 = (Lo.take Lo.length ++ (upd (upd (upd r1 0 kd) 1 (r0 0)) 2 (r0 1)) :: Lo.drop Lo.length).set Lo.length (upd (upd (upd (upd r1 0 kd) 1 (r0 0)) 2 (r0 1)) 3 (r0 2)) ∧ sh_ok 11 f5 L1 := hu_16
      rw [ls_ins_set (Nat.le_refl _)] at hu_16
      obtain ⟨rfl, hok5⟩ := hu_16
      have hP : va_P (dC, dI) vwCl (wOR oo h b cA (if kd = 1 then gv + 1 else gv) (if kd = 1 then tk else tk + 1) ((Lo.take Lo.length ++ (upd (upd (upd (upd r1 0 kd) 1 (r0 0)) 2 (r0 1)) 3 (r0 2)) :: Lo.drop Lo.length).length) f5 ro h2 b2 L.length fR) H := hP
      have hD : va_D A (wOR oo h b cA (if kd = 1 then gv + 1 else gv) (if kd = 1 then tk else tk + 1) ((Lo.take Lo.length ++ (upd (upd (upd (upd r1 0 kd) 1 (r0 0)) 2 (r0 1)) 3 (r0 2)) :: Lo.drop Lo.length).length) f5 ro h2 b2 L.length fR) := hD
      refine lv_aload_n hx hb qd_O_add_113 rfl (lv_at hl 0 rfl) ?_
      refine va_get (D := (dC, dI)) (ci := 2) (v := .ref h) (C := qR_O) (T := qT_O) (N := 3) hx hb hts qin_O hown hK hP 0 rfl rfl 0 (by decide) (hts _ mw_104) (fun _ h9 => h9) rfl qd_O_add_114 ?_
      refine lv_iload hx hb qd_O_add_117 (lv_at hl 4 rfl) ?_
      refine lv_iconst (v := 4) hx hb qd_O_add_119 (by decide) ?_
      refine lv_aload_n hx hb qd_O_add_120 rfl (lv_at hl 2 rfl) ?_
      refine lv_iload_n hx hb qd_O_add_121 rfl (lv_at hl 3 rfl) ?_
      refine lv_iconst (v := 3) hx hb qd_O_add_122 (by decide) ?_
      refine mk_calli (va_runV (As := [.int (nI i'), .int 3]) (rest := [.int 4, .int (nI Lo.length), .ref h]) ⟨hx, hb, hml, hown, hts⟩ (c_R_get l dC dI cA H.size ro h2 b2 fR L hwfR (nI i') 3) (cwV 2 hts gc_O_48 rfl rfl rfl (by decide +kernel) ⟨Nat.le_of_ble_eq_true rfl, Nat.le_of_ble_eq_true rfl⟩) (mk_roV hP [3, 4, 5] rfl hK (va_recv hK hP (ci := 3) (q0 := 3) rfl rfl)) rfl rfl hl.1 rfl (lv_room (Nat.le_of_ble_eq_true rfl)) qd_O_add_123 ⟨(Nat.zero_le _), (Nat.zero_le _)⟩) hS hA hP (fun r_17 H locs hr_17 hP hS => ?_)
      obtain rfl : r_17 = r0 3 := Eq.trans hr_17 (sh_get_in (by omega) (by decide) hr0 (by first | decide | omega))
      have hwf5 : sh_wf 11 192 f5 (Lo.take Lo.length ++ (upd (upd (upd (upd r1 0 kd) 1 (r0 0)) 2 (r0 1)) 3 (r0 2)) :: Lo.drop Lo.length) := ⟨hok5, by rw [ls_ins_len (Nat.le_refl _)]; omega, by decide, by decide, by decide⟩
      refine mk_mcallv (wr := [(oo, .inr (2, [.ref h, .int (if kd = 1 then gv + 1 else gv), .int (if kd = 1 then tk else tk + 1)])), (ro, .inr (3, [.ref h2])), (h2, .inr (4, [.int (nI 12), .int (nI 96), .ref b2, .int (nI L.length)])), (b2, .inl (cA, (12 * 96), .inl fR))]) (wf := (fun u => wOR oo h b cA (if kd = 1 then gv + 1 else gv) (if kd = 1 then tk else tk + 1) u.1.length u.2 ro h2 b2 L.length fR)) (va_runV (As := [.int (nI Lo.length), .int 4, .int (r0 3)]) (rest := []) ⟨hx, hb, hml, hown, hts⟩ (c_Sh_set l dC dI cA H.size h b 11 192 f5 (Lo.take Lo.length ++ (upd (upd (upd (upd r1 0 kd) 1 (r0 0)) 2 (r0 1)) 3 (r0 2)) :: Lo.drop Lo.length) hwf5 Lo.length 4 (r0 3) (upd (upd (upd (upd r1 0 kd) 1 (r0 0)) 2 (r0 1)) 3 (r0 2)) (ls_ins_at (Nat.le_refl _)) (by omega)) (cwV 3 hts gc_O_42 rfl rfl rfl (by decide +kernel) ⟨Nat.le_of_ble_eq_true rfl, Nat.le_of_ble_eq_true rfl⟩) (mk_muP hP hD [1, 2] (by decide) rfl hK (va_recv hK hP (ci := 4) (q0 := 1) rfl rfl)) rfl rfl hl.1 rfl (lv_room (Nat.le_of_ble_eq_true rfl)) qd_O_add_126 ⟨(Nat.zero_le _), (Nat.zero_le _)⟩) hS hA hP hD [1, 2] [0, 3, 4, 5] [0, 4, 5, 1, 2, 3] rfl rfl (by decide) (by decide) (by decide) (fun _ => rfl) (fun u_19 H locs hu_19 hP hD hS => ?_)
      obtain ⟨L1, f6⟩ := u_19
      have hu_19 : L1 = (Lo.take Lo.length ++ (upd (upd (upd (upd r1 0 kd) 1 (r0 0)) 2 (r0 1)) 3 (r0 2)) :: Lo.drop Lo.length).set Lo.length (upd (upd (upd (upd (upd r1 0 kd) 1 (r0 0)) 2 (r0 1)) 3 (r0 2)) 4 (r0 3)) ∧ sh_ok 11 f6 L1 := hu_19
      rw [ls_ins_set (Nat.le_refl _)] at hu_19
      obtain ⟨rfl, hok6⟩ := hu_19
      have hP : va_P (dC, dI) vwCl (wOR oo h b cA (if kd = 1 then gv + 1 else gv) (if kd = 1 then tk else tk + 1) ((Lo.take Lo.length ++ (upd (upd (upd (upd (upd r1 0 kd) 1 (r0 0)) 2 (r0 1)) 3 (r0 2)) 4 (r0 3)) :: Lo.drop Lo.length).length) f6 ro h2 b2 L.length fR) H := hP
      have hD : va_D A (wOR oo h b cA (if kd = 1 then gv + 1 else gv) (if kd = 1 then tk else tk + 1) ((Lo.take Lo.length ++ (upd (upd (upd (upd (upd r1 0 kd) 1 (r0 0)) 2 (r0 1)) 3 (r0 2)) 4 (r0 3)) :: Lo.drop Lo.length).length) f6 ro h2 b2 L.length fR) := hD
      refine lv_iconst (v := 0) hx hb qd_O_add_129 (by decide) ?_
      refine mk_rw (y := nI 0) (rfl) ?_
      refine lv_istore (lv' := [(5, .int (nI 0)), (0, .ref oo), (1, .int kd), (2, .ref ro), (3, .int (nI i')), (4, .int (nI Lo.length))]) hx hb qd_O_add_130 hl (by decide) rfl (fun ls hl => ?_)
      refine mk_loop (σ := Nat × (Nat → Int32) × (Nat → Int32)) (fun n y9 H locs ls => (y9.1 + n = 6 ∧ (∀ c, c < 5 + y9.1 → y9.2.1 c = ot_rec kd r0 c) ∧ sh_ok 11 y9.2.2 (Lo.take Lo.length ++ y9.2.1 :: Lo.drop Lo.length)) ∧ va_P (dC, dI) vwCl (wOR oo h b cA (if kd = 1 then gv + 1 else gv) (if kd = 1 then tk else tk + 1) ((Lo.take Lo.length ++ y9.2.1 :: Lo.drop Lo.length).length) y9.2.2 ro h2 b2 L.length fR) H ∧ va_D A (wOR oo h b cA (if kd = 1 then gv + 1 else gv) (if kd = 1 then tk else tk + 1) ((Lo.take Lo.length ++ y9.2.1 :: Lo.drop Lo.length).length) y9.2.2 ro h2 b2 L.length fR) ∧ va_S A s.heap H locs ∧ lv_has ls 6 [(0, .ref oo), (1, .int kd), (2, .ref ro), (3, .int (nI i')), (4, .int (nI Lo.length)), (5, .int (nI y9.1))]) (fun ls => F0 m 132 ls []) (fun n y9 H locs ls hI ih_20 => ?_) (fun y9 H locs ls hI => ?_) 6 (0, (upd (upd (upd (upd (upd r1 0 kd) 1 (r0 0)) 2 (r0 1)) 3 (r0 2)) 4 (r0 3)), f6) H locs ls ⟨⟨rfl, fun c hc => by rcases (show c = 0 ∨ c = 1 ∨ c = 2 ∨ c = 3 ∨ c = 4 by omega) with rfl | rfl | rfl | rfl | rfl <;> rfl, hok6⟩, hP, hD, hS, lv_sub hl [1, 2, 3, 4, 5, 0] rfl⟩
      · obtain ⟨a, rr, f9⟩ := y9
        obtain ⟨hinv, hP, hD, hS, hl⟩ := hI
        have hinv : a + (n + 1) = 6 ∧ (∀ c, c < 5 + a → rr c = ot_rec kd r0 c) ∧ sh_ok 11 f9 (Lo.take Lo.length ++ rr :: Lo.drop Lo.length) := hinv
        have hP : va_P (dC, dI) vwCl (wOR oo h b cA (if kd = 1 then gv + 1 else gv) (if kd = 1 then tk else tk + 1) ((Lo.take Lo.length ++ rr :: Lo.drop Lo.length).length) f9 ro h2 b2 L.length fR) H := hP
        have hD : va_D A (wOR oo h b cA (if kd = 1 then gv + 1 else gv) (if kd = 1 then tk else tk + 1) ((Lo.take Lo.length ++ rr :: Lo.drop Lo.length).length) f9 ro h2 b2 L.length fR) := hD
        have hl : lv_has ls 6 [(0, .ref oo), (1, .int kd), (2, .ref ro), (3, .int (nI i')), (4, .int (nI Lo.length)), (5, .int (nI a))] := hl
        obtain ⟨ha, hrr, hok9⟩ := hinv
        refine lv_iload hx hb qd_O_add_132 (lv_at hl 5 rfl) ?_
        refine lv_bipush (v := 6) hx hb qd_O_add_134 (by decide) ?_
        refine lv_icmp_ge (tgt := 168) hx hb qd_O_add_136 (by decide) (fun c_21 => ?_) (fun c_21 => ?_)
        · exact absurd c_21 (nI_ge (a := a) (b := 6) (by omega) (by decide))
        · refine lv_aload_n hx hb qd_O_add_139 rfl (lv_at hl 0 rfl) ?_
          refine va_get (D := (dC, dI)) (ci := 2) (v := .ref h) (C := qR_O) (T := qT_O) (N := 3) hx hb hts qin_O hown hK hP 0 rfl rfl 0 (by decide) (hts _ mw_104) (fun _ h9 => h9) rfl qd_O_add_140 ?_
          refine lv_iload hx hb qd_O_add_143 (lv_at hl 4 rfl) ?_
          refine lv_iconst (v := 5) hx hb qd_O_add_145 (by decide) ?_
          refine lv_iload hx hb qd_O_add_146 (lv_at hl 5 rfl) ?_
          refine lv_iadd hx hb qd_O_add_148 ?_
          refine mk_rw (y := nI (5 + a)) (nI_add 5 a) ?_
          refine lv_aload_n hx hb qd_O_add_149 rfl (lv_at hl 2 rfl) ?_
          refine lv_iload_n hx hb qd_O_add_150 rfl (lv_at hl 3 rfl) ?_
          refine lv_bipush (v := 6) hx hb qd_O_add_151 (by decide) ?_
          refine lv_iload hx hb qd_O_add_153 (lv_at hl 5 rfl) ?_
          refine lv_iadd hx hb qd_O_add_155 ?_
          refine mk_rw (y := nI (6 + a)) (nI_add 6 a) ?_
          refine mk_calli (va_runV (As := [.int (nI i'), .int (nI (6 + a))]) (rest := [.int (nI (5 + a)), .int (nI Lo.length), .ref h]) ⟨hx, hb, hml, hown, hts⟩ (c_R_get l dC dI cA H.size ro h2 b2 fR L hwfR (nI i') (nI (6 + a))) (cwV 2 hts gc_O_48 rfl rfl rfl (by decide +kernel) ⟨Nat.le_of_ble_eq_true rfl, Nat.le_of_ble_eq_true rfl⟩) (mk_roV hP [3, 4, 5] rfl hK (va_recv hK hP (ci := 3) (q0 := 3) rfl rfl)) rfl rfl hl.1 rfl (lv_room (Nat.le_of_ble_eq_true rfl)) qd_O_add_156 ⟨(Nat.zero_le _), (Nat.zero_le _)⟩) hS hA hP (fun r_22 H locs hr_22 hP hS => ?_)
          obtain rfl : r_22 = r0 (6 + a) := Eq.trans hr_22 (sh_get_in (by omega) (by decide) hr0 (by first | decide | omega))
          have hwf9 : sh_wf 11 192 f9 (Lo.take Lo.length ++ rr :: Lo.drop Lo.length) := ⟨hok9, by rw [ls_ins_len (Nat.le_refl _)]; omega, by decide, by decide, by decide⟩
          refine mk_mcallv (wr := [(oo, .inr (2, [.ref h, .int (if kd = 1 then gv + 1 else gv), .int (if kd = 1 then tk else tk + 1)])), (ro, .inr (3, [.ref h2])), (h2, .inr (4, [.int (nI 12), .int (nI 96), .ref b2, .int (nI L.length)])), (b2, .inl (cA, (12 * 96), .inl fR))]) (wf := (fun u => wOR oo h b cA (if kd = 1 then gv + 1 else gv) (if kd = 1 then tk else tk + 1) u.1.length u.2 ro h2 b2 L.length fR)) (va_runV (As := [.int (nI Lo.length), .int (nI (5 + a)), .int (r0 (6 + a))]) (rest := []) ⟨hx, hb, hml, hown, hts⟩ (c_Sh_set l dC dI cA H.size h b 11 192 f9 (Lo.take Lo.length ++ rr :: Lo.drop Lo.length) hwf9 Lo.length (5 + a) (r0 (6 + a)) rr (ls_ins_at (Nat.le_refl _)) (by omega)) (cwV 3 hts gc_O_42 rfl rfl rfl (by decide +kernel) ⟨Nat.le_of_ble_eq_true rfl, Nat.le_of_ble_eq_true rfl⟩) (mk_muP hP hD [1, 2] (by decide) rfl hK (va_recv hK hP (ci := 4) (q0 := 1) rfl rfl)) rfl rfl hl.1 rfl (lv_room (Nat.le_of_ble_eq_true rfl)) qd_O_add_159 ⟨(Nat.zero_le _), (Nat.zero_le _)⟩) hS hA hP hD [1, 2] [0, 3, 4, 5] [0, 4, 5, 1, 2, 3] rfl rfl (by decide) (by decide) (by decide) (fun _ => rfl) (fun u_24 H locs hu_24 hP hD hS => ?_)
          obtain ⟨L1, f10⟩ := u_24
          have hu_24 : L1 = (Lo.take Lo.length ++ rr :: Lo.drop Lo.length).set Lo.length (upd rr (5 + a) (r0 (6 + a))) ∧ sh_ok 11 f10 L1 := hu_24
          rw [ls_ins_set (Nat.le_refl _)] at hu_24
          obtain ⟨rfl, hok10⟩ := hu_24
          have hP : va_P (dC, dI) vwCl (wOR oo h b cA (if kd = 1 then gv + 1 else gv) (if kd = 1 then tk else tk + 1) ((Lo.take Lo.length ++ (upd rr (5 + a) (r0 (6 + a))) :: Lo.drop Lo.length).length) f10 ro h2 b2 L.length fR) H := hP
          have hD : va_D A (wOR oo h b cA (if kd = 1 then gv + 1 else gv) (if kd = 1 then tk else tk + 1) ((Lo.take Lo.length ++ (upd rr (5 + a) (r0 (6 + a))) :: Lo.drop Lo.length).length) f10 ro h2 b2 L.length fR) := hD
          refine lv_iinc (v := nI (a + 1)) (lv' := [(5, .int (nI (a + 1))), (0, .ref oo), (1, .int kd), (2, .ref ro), (3, .int (nI i')), (4, .int (nI Lo.length))]) hx hb qd_O_add_162 hl (k := 5) rfl (mk_inc a) (by decide) rfl (fun ls hl => ?_)
          refine lv_goto (tgt := 132) hx hb qd_O_add_165 (by decide) ?_
          exact ih_20 ((a + 1), (upd rr (5 + a) (r0 (6 + a))), f10) H locs ls ⟨⟨by omega, ot_s hrr, hok10⟩, hP, hD, hS, lv_sub hl [1, 2, 3, 4, 5, 0] rfl⟩
      · obtain ⟨a, rr, f9⟩ := y9
        obtain ⟨hinv, hP, hD, hS, hl⟩ := hI
        have hinv : a + 0 = 6 ∧ (∀ c, c < 5 + a → rr c = ot_rec kd r0 c) ∧ sh_ok 11 f9 (Lo.take Lo.length ++ rr :: Lo.drop Lo.length) := hinv
        have hP : va_P (dC, dI) vwCl (wOR oo h b cA (if kd = 1 then gv + 1 else gv) (if kd = 1 then tk else tk + 1) ((Lo.take Lo.length ++ rr :: Lo.drop Lo.length).length) f9 ro h2 b2 L.length fR) H := hP
        have hD : va_D A (wOR oo h b cA (if kd = 1 then gv + 1 else gv) (if kd = 1 then tk else tk + 1) ((Lo.take Lo.length ++ rr :: Lo.drop Lo.length).length) f9 ro h2 b2 L.length fR) := hD
        have hl : lv_has ls 6 [(0, .ref oo), (1, .int kd), (2, .ref ro), (3, .int (nI i')), (4, .int (nI Lo.length)), (5, .int (nI a))] := hl
        obtain ⟨ha, hrr, hok9⟩ := hinv
        refine lv_iload hx hb qd_O_add_132 (lv_at hl 5 rfl) ?_
        refine lv_bipush (v := 6) hx hb qd_O_add_134 (by decide) ?_
        refine lv_icmp_ge (tgt := 168) hx hb qd_O_add_136 (by decide) (fun c_25 => ?_) (fun c_25 => ?_)
        · have hP : va_P (dC, dI) vwCl (wOR oo h b cA (if kd = 1 then gv + 1 else gv) (if kd = 1 then tk else tk + 1) (Lo ++ [ot_rec kd r0]).length f9 ro h2 b2 L.length fR) H := by rw [ot_len (r := rr)]; exact hP
          have hD : va_D A (wOR oo h b cA (if kd = 1 then gv + 1 else gv) (if kd = 1 then tk else tk + 1) (Lo ++ [ot_rec kd r0]).length f9 ro h2 b2 L.length fR) := by rw [ot_len (r := rr)]; exact hD
          exact mk_mvret (Lo ++ [ot_rec kd r0], f9) hx hb hr hlocks hP hK hD hS qd_O_add_168 ⟨rfl, ot_fin hok9 (fun c hc => hrr c (by omega))⟩
        · exact absurd (show nI 6 ≤ nI a from by rw [show a = 6 by omega]; exact nI_le (Nat.le_refl _) (by decide)) c_25
    · refine lv_iload_n hx hb qd_O_add_26 rfl (lv_at hl 2 rfl) ?_
      refine lv_iconst (v := 1) hx hb qd_O_add_27 (by decide) ?_
      refine lv_icmp_ne (tgt := 44) hx hb qd_O_add_28 (by decide) (fun c_26 => ?_) (fun c_26 => ?_)
      · refine lv_aload_n hx hb qd_O_add_44 rfl (lv_at hl 1 rfl) ?_
        refine lv_dup hx hb qd_O_add_45 rfl ?_
        refine va_get (D := (dC, dI)) (ci := 2) (v := .int tk) (C := qR_O) (T := qT_O) (N := 3) hx hb hts qin_O hown hK hP 0 rfl rfl 2 (by decide) (hts _ mw_107) (fun _ h9 => h9) rfl qd_O_add_46 ?_
        refine lv_iconst (v := 1) hx hb qd_O_add_49 (by decide) ?_
        refine lv_iadd hx hb qd_O_add_50 ?_
        refine va_put (D := (dC, dI)) (ci := 2) (v := .int (tk + 1)) (ty := .int) (C := qR_O) (T := qT_O) (N := 3) hx hb hts qin_O qty_O qtyok_O qnm_O hown hK hP hD hS 0 rfl rfl 2 (by decide) (hts _ mw_107) (fun _ h9 => h9) rfl (by decide +kernel) rfl rfl (Nat.le_of_ble_eq_true rfl) qd_O_add_51 (fun H locs hP hD hS => ?_)
        have hP : va_P (dC, dI) vwCl (wOR oo h b cA gv (tk + 1) ((Lo.take Lo.length ++ r1 :: Lo.drop Lo.length).length) f1 ro h2 b2 L.length fR) H := hP
        have hD : va_D A (wOR oo h b cA gv (tk + 1) ((Lo.take Lo.length ++ r1 :: Lo.drop Lo.length).length) f1 ro h2 b2 L.length fR) := hD
        exact J_5 (gv, (tk + 1)) H locs ls ⟨⟨(if_neg c_26).symm, (if_neg c_26).symm⟩, hP, hD, hS, lv_sub hl [1, 2, 3, 4, 0] rfl⟩
      · refine lv_aload_n hx hb qd_O_add_31 rfl (lv_at hl 1 rfl) ?_
        refine lv_dup hx hb qd_O_add_32 rfl ?_
        refine va_get (D := (dC, dI)) (ci := 2) (v := .int gv) (C := qR_O) (T := qT_O) (N := 3) hx hb hts qin_O hown hK hP 0 rfl rfl 1 (by decide) (hts _ mw_105) (fun _ h9 => h9) rfl qd_O_add_33 ?_
        refine lv_iconst (v := 1) hx hb qd_O_add_36 (by decide) ?_
        refine lv_iadd hx hb qd_O_add_37 ?_
        refine va_put (D := (dC, dI)) (ci := 2) (v := .int (gv + 1)) (ty := .int) (C := qR_O) (T := qT_O) (N := 3) hx hb hts qin_O qty_O qtyok_O qnm_O hown hK hP hD hS 0 rfl rfl 1 (by decide) (hts _ mw_105) (fun _ h9 => h9) rfl (by decide +kernel) rfl rfl (Nat.le_of_ble_eq_true rfl) qd_O_add_38 (fun H locs hP hD hS => ?_)
        have hP : va_P (dC, dI) vwCl (wOR oo h b cA (gv + 1) tk ((Lo.take Lo.length ++ r1 :: Lo.drop Lo.length).length) f1 ro h2 b2 L.length fR) H := hP
        have hD : va_D A (wOR oo h b cA (gv + 1) tk ((Lo.take Lo.length ++ r1 :: Lo.drop Lo.length).length) f1 ro h2 b2 L.length fR) := hD
        refine lv_goto (tgt := 54) hx hb qd_O_add_41 (by decide) ?_
        exact J_5 ((gv + 1), tk) H locs ls ⟨⟨(if_pos c_26).symm, (if_pos c_26).symm⟩, hP, hD, hS, lv_sub hl [1, 2, 3, 4, 0] rfl⟩
  · exact absurd c_4 (by decide)
