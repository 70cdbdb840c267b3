set_option maxHeartbeats 4000000 in
set_option maxRecDepth 100000 in
/-- Sheet(width, limit) -/
theorem c_Sh_init (l : Launch) (dC : Nat → ClassId) (dI : Nat → Nat → Nat) (cA : ClassId) (sz : Nat) (h w lim : Nat) (hw1 : 1 ≤ w) (hw2 : w < 2 ^ 20) (hl2 : lim < 2 ^ 20) (hwl : w * lim < 2 ^ 20) : Met l qy_S_init qw_S_init ({ frames := 1, cells := 1, slots := (w * lim), locals := 14 }) (mk_mu [.ref h, .int (nI w), .int (nI lim)] sz (dC, dI) vwCl [(cA, .int)] [(h, .inr (4, [.int 0, .int 0, .null, .int 0]))]) (mk_muV (S := Nat) (fun _ => True) (fun u => wS h u cA w lim 0 (fun _ => 0)) (dC, dI) vwCl [(cA, .int)] (va_A [(h, .inr (4, [.int 0, .int 0, .null, .int 0]))] sz)) 1 (w * lim) (va_A [(h, .inr (4, [.int 0, .int 0, .null, .int 0]))] sz) := by
  refine Met.ofW (cc := qb_S_init) (maxL := 3) (ret := none) (by decide) rfl ?_
  intro p e s m args below meth c s₁ B hml hpre
  obtain ⟨rfl, hsz, hP, hK, hD0⟩ := hpre
  have hx := B.exec
  have hb := B.bytes
  have hr := B.returns
  have hts0 := atoms_spec (ws := qw_S_init) B.pre
  have hts := fun w (h : w ∈ lw_gd) => hts0 w (List.mem_cons_of_mem _ h)
  have hown : s.vm.findClass qR_S = some m.cls := findClass_of_methodNamed B.named
  have hlocks := B.notSynchronized
  have hin : meth.name = "<init>" := (name_of_methodNamed B.named B.method).1
  subst hsz
  have hD := hD0.self (sz := s.heap.size)
  generalize hAe : va_A [(h, .inr (4, [.int 0, .int 0, .null, .int 0]))] s.heap.size = A at hD ⊢
  have hA : ∀ q : Nat, s.heap.size ≤ q → A q := fun q h => by rw [← hAe]; exact Or.inr h
  have hS : va_S A s.heap s.heap [] := va_S.rf
  have hl := lv_entry ([.ref h, .int (nI w), .int (nI lim)]) (n := 3) (Nat.le_of_ble_eq_true rfl)
  rw [lg_entry_eq]
  generalize (lg_sl ([.ref h, .int (nI w), .int (nI lim)]) ++ List.replicate (3 - (lg_sl ([.ref h, .int (nI w), .int (nI lim)])).length) Slot.unset).toArray = ls at hl ⊢
  have hl : lv_has ls 3 [(0, .ref h), (1, .int (nI w)), (2, .int (nI lim))] := hl
  have hP : va_P (dC, dI) vwCl [(h, .inr (4, [.int 0, .int 0, .null, .int 0]))] s.heap := hP
  refine mk_start (A := A) hP (fun H locs hP hS => ?_)
  refine lv_aload_n hx hb qd_S_init_0 rfl (lv_at hl 0 rfl) ?_
  refine W.objInit hx hb hown (hts _ mw_62) (hts _ mw_49) (hts _ mw_50) rfl (by rw [hml]; exact hl.1) rfl qd_S_init_1 (Nat.le_of_ble_eq_true rfl) (Nat.le_of_ble_eq_true rfl) ?_
  refine W.eq (g2 := F0 m 4 ls []) rfl ?_
  refine lv_aload_n hx hb qd_S_init_4 rfl (lv_at hl 0 rfl) ?_
  refine lv_iconst (v := 1) hx hb qd_S_init_5 (by decide) ?_
  refine lv_iload_n hx hb qd_S_init_6 rfl (lv_at hl 1 rfl) ?_
  refine va_mmax hx hb (hml.trans hl.1.symm) hown (hts _ mw_63) (hts _ mw_64) (hts _ mw_38) (hts _ mw_65) (Nat.le_of_ble_eq_true rfl) (Nat.le_of_ble_eq_true rfl) (Nat.zero_le _) (Nat.zero_le _) qd_S_init_7 ?_
  refine mk_rw (y := nI w) (mk_mx1 hw1 (by omega)) ?_
  refine va_putF (D := (dC, dI)) (ci := 4) (v := .int (nI w)) (ty := .int) (C := qR_S) (T := qT_S) (N := 4) hx hb hts qin_S qty_S qtyok_S qnm_S hown hK hP hD hS 0 rfl rfl 0 (by decide) (hts _ mw_66) (fun _ h9 => h9) rfl hin rfl (by decide +kernel) rfl rfl (Nat.le_of_ble_eq_true rfl) qd_S_init_10 (fun H locs hP hD hS => ?_)
  have hP : va_P (dC, dI) vwCl [(h, .inr (4, [.int (nI w), .int 0, .null, .int 0]))] H := hP
  have hD : va_D A [(h, .inr (4, [.int (nI w), .int 0, .null, .int 0]))] := hD
  refine lv_aload_n hx hb qd_S_init_13 rfl (lv_at hl 0 rfl) ?_
  refine lv_iconst (v := 0) hx hb qd_S_init_14 (by decide) ?_
  refine lv_iload_n hx hb qd_S_init_15 rfl (lv_at hl 2 rfl) ?_
  refine va_mmax hx hb (hml.trans hl.1.symm) hown (hts _ mw_63) (hts _ mw_64) (hts _ mw_38) (hts _ mw_65) (Nat.le_of_ble_eq_true rfl) (Nat.le_of_ble_eq_true rfl) (Nat.zero_le _) (Nat.zero_le _) qd_S_init_16 ?_
  refine mk_rw (y := nI lim) (mk_mx0 (by omega)) ?_
  refine va_putF (D := (dC, dI)) (ci := 4) (v := .int (nI lim)) (ty := .int) (C := qR_S) (T := qT_S) (N := 4) hx hb hts qin_S qty_S qtyok_S qnm_S hown hK hP hD hS 0 rfl rfl 1 (by decide) (hts _ mw_67) (fun _ h9 => h9) rfl hin rfl (by decide +kernel) rfl rfl (Nat.le_of_ble_eq_true rfl) qd_S_init_19 (fun H locs hP hD hS => ?_)
  have hP : va_P (dC, dI) vwCl [(h, .inr (4, [.int (nI w), .int (nI lim), .null, .int 0]))] H := hP
  have hD : va_D A [(h, .inr (4, [.int (nI w), .int (nI lim), .null, .int 0]))] := hD
  refine lv_aload_n hx hb qd_S_init_22 rfl (lv_at hl 0 rfl) ?_
  refine lv_aload_n hx hb qd_S_init_23 rfl (lv_at hl 0 rfl) ?_
  refine va_get (D := (dC, dI)) (ci := 4) (v := .int (nI w)) (C := qR_S) (T := qT_S) (N := 4) hx hb hts qin_S hown hK hP 0 rfl rfl 0 (by decide) (hts _ mw_66) (fun _ h9 => h9) rfl qd_S_init_24 ?_
  refine lv_aload_n hx hb qd_S_init_27 rfl (lv_at hl 0 rfl) ?_
  refine va_get (D := (dC, dI)) (ci := 4) (v := .int (nI lim)) (C := qR_S) (T := qT_S) (N := 4) hx hb hts qin_S hown hK hP 0 rfl rfl 1 (by decide) (hts _ mw_67) (fun _ h9 => h9) rfl qd_S_init_28 ?_
  refine lv_imul hx hb qd_S_init_31 ?_
  refine mk_rw (y := nI (w * lim)) (pk_mul _ _) ?_
  refine va_newa (atype := .int) (n := (nI (w * lim))) (N' := (w * lim)) (a0 := ((w * lim), .inl (fun _ => 0))) hx hb (hts _ mw_79) rfl hK hP hD hS hA (fun _ => rfl) (nI_pos (by omega)) (nI_clamp (by omega)) (by show w * lim * 4 ≤ 536870912; omega) (by first | exact Nat.le_of_ble_eq_true rfl | omega) (by first | exact Nat.le_of_ble_eq_true rfl | exact Nat.le_of_eq (Nat.zero_add _) | omega) qd_S_init_32 (fun b cB H hKB hP hD hS => ?_)
  obtain rfl := mk_cA hKB
  clear hKB
  have hP : va_P (dC, dI) vwCl [(h, .inr (4, [.int (nI w), .int (nI lim), .null, .int 0])), (b, .inl (cA, (w * lim), .inl (fun _ => 0)))] H := hP
  have hD : va_D A [(h, .inr (4, [.int (nI w), .int (nI lim), .null, .int 0])), (b, .inl (cA, (w * lim), .inl (fun _ => 0)))] := hD
  refine W.widen (k := 1) (n := (w * lim)) (by first | exact Nat.le_of_ble_eq_true rfl | omega) (by first | exact Nat.le_of_ble_eq_true rfl | exact Nat.le_of_eq (Nat.zero_add _) | omega) ?_
  refine va_putF (D := (dC, dI)) (ci := 4) (v := .ref b) (ty := (.array .int)) (C := qR_S) (T := qT_S) (N := 4) hx hb hts qin_S qty_S qtyok_S qnm_S hown hK hP hD hS 0 rfl rfl 2 (by decide) (hts _ mw_68) (fun _ h9 => h9) rfl hin rfl (by decide +kernel) rfl rfl (Nat.le_of_ble_eq_true rfl) qd_S_init_34 (fun H locs hP hD hS => ?_)
  have hP : va_P (dC, dI) vwCl [(h, .inr (4, [.int (nI w), .int (nI lim), .ref b, .int 0])), (b, .inl (cA, (w * lim), .inl (fun _ => 0)))] H := hP
  have hD : va_D A [(h, .inr (4, [.int (nI w), .int (nI lim), .ref b, .int 0])), (b, .inl (cA, (w * lim), .inl (fun _ => 0)))] := hD
  exact mk_mvret b hx hb hr hlocks hP hK hD hS qd_S_init_37 (trivial)
set_option maxHeartbeats 4000000 in
set_option maxRecDepth 100000 in
/-- AsOfJoins$Versions() -/
theorem c_V_init (l : Launch) (dC : Nat → ClassId) (dI : Nat → Nat → Nat) (cA : ClassId) (sz : Nat) (o : Nat) : Met l qy_V_init qw_V_init ({ frames := 2, cells := 2, slots := 484, locals := 36 }) (mk_mu [.ref o] sz (dC, dI) vwCl [(cA, .int)] [(o, .inr (5, [.null]))]) (mk_muV (S := Nat × Nat) (fun _ => True) (fun u => wV o u.1 u.2 cA 0 (fun _ => 0)) (dC, dI) vwCl [(cA, .int)] (va_A [(o, .inr (5, [.null]))] sz)) 2 484 (va_A [(o, .inr (5, [.null]))] sz) := by
  refine Met.ofW (cc := qb_V_init) (maxL := 1) (ret := none) (by decide) rfl ?_
  intro p e s m args below meth c s₁ B hml hpre
  obtain ⟨rfl, hsz, hP, hK, hD0⟩ := hpre
  have hx := B.exec
  have hb := B.bytes
  have hr := B.returns
  have hts0 := atoms_spec (ws := qw_V_init) B.pre
  have hts := fun w (h : w ∈ lw_gd) => hts0 w (List.mem_cons_of_mem _ h)
  have hown : s.vm.findClass qR_V = some m.cls := findClass_of_methodNamed B.named
  have hlocks := B.notSynchronized
  have hin : meth.name = "<init>" := (name_of_methodNamed B.named B.method).1
  subst hsz
  have hD := hD0.self (sz := s.heap.size)
  generalize hAe : va_A [(o, .inr (5, [.null]))] s.heap.size = A at hD ⊢
  have hA : ∀ q : Nat, s.heap.size ≤ q → A q := fun q h => by rw [← hAe]; exact Or.inr h
  have hS : va_S A s.heap s.heap [] := va_S.rf
  have hl := lv_entry ([.ref o]) (n := 1) (Nat.le_of_ble_eq_true rfl)
  rw [lg_entry_eq]
  generalize (lg_sl ([.ref o]) ++ List.replicate (1 - (lg_sl ([.ref o])).length) Slot.unset).toArray = ls at hl ⊢
  have hl : lv_has ls 1 [(0, .ref o)] := hl
  have hP : va_P (dC, dI) vwCl [(o, .inr (5, [.null]))] s.heap := hP
  refine mk_start (A := A) hP (fun H locs hP hS => ?_)
  refine lv_aload_n hx hb qd_V_init_0 rfl (lv_at hl 0 rfl) ?_
  refine W.objInit hx hb hown (hts _ mw_56) (hts _ mw_49) (hts _ mw_50) rfl (by rw [hml]; exact hl.1) rfl qd_V_init_1 (Nat.le_of_ble_eq_true rfl) (Nat.le_of_ble_eq_true rfl) ?_
  refine W.eq (g2 := F0 m 4 ls []) rfl ?_
  refine lv_aload_n hx hb qd_V_init_4 rfl (lv_at hl 0 rfl) ?_
  refine va_new (ci := 4) (fs := [.int 0, .int 0, .null, .int 0]) (C := qR_S) (T := qT_S) (N := 4) hx hb hts qin_S qty_S qtyok_S hown (hts _ mw_57) (hts _ mw_58) (hts _ mw_37) hK hP hD hS hA rfl (fun j hj => by rcases (show j = 0 ∨ j = 1 ∨ j = 2 ∨ j = 3 by omega) with rfl | rfl | rfl | rfl <;> rfl) (by first | exact Nat.le_of_ble_eq_true rfl | omega) (by first | exact Nat.le_of_ble_eq_true rfl | omega) qd_V_init_5 (fun h H hP hD hS => ?_)
  have hP : va_P (dC, dI) vwCl [(o, .inr (5, [.null])), (h, .inr (4, [.int 0, .int 0, .null, .int 0]))] H := hP
  have hD : va_D A [(o, .inr (5, [.null])), (h, .inr (4, [.int 0, .int 0, .null, .int 0]))] := hD
  refine W.widen (k := 1) (n := 4) (by first | exact Nat.le_of_ble_eq_true rfl | omega) (by first | exact Nat.le_of_ble_eq_true rfl | omega) ?_
  refine lv_dup hx hb qd_V_init_8 rfl ?_
  refine lv_iconst (v := 3) hx hb qd_V_init_9 (by decide) ?_
  refine lv_sipush (v := 160) hx hb qd_V_init_10 (by decide) ?_
  refine mk_mcallv (wr := [(o, .inr (5, [.null]))]) (wf := (fun u => [(o, .inr (5, [.null]))] ++ (fun u => wS h u cA 3 160 0 (fun _ => 0)) u)) (va_runI (As := [.int 3, .int 160]) (rest := [.ref h, .ref o]) ⟨hx, hb, hml, hown, hts⟩ (c_Sh_init l dC dI cA H.size h 3 160 (by decide) (by decide) (by decide) (by decide)) (cwI 2 hts (lw_g1 mw_61) rfl rfl rfl (hts _ mw_37) (hts _ mw_59) (hts _ mw_60) rfl (by decide +kernel) ⟨Nat.le_of_ble_eq_true rfl, Nat.le_of_ble_eq_true rfl⟩) (mk_muI hP hD [1] (by decide) rfl hK) rfl rfl hl.1 rfl (lv_room (Nat.le_of_ble_eq_true rfl)) qd_V_init_13 ⟨(by first | exact Nat.le_of_ble_eq_true rfl | omega), (by first | exact Nat.le_of_ble_eq_true rfl | omega)⟩) hS hA hP hD [1] [0] [0, 1, 2] rfl rfl (by decide) (by decide) (by decide) (fun _ => rfl) (fun u_1 H locs hu_1 hP hD hS => ?_)
  obtain ⟨b, rfl⟩ : ∃ z, z = u_1 := ⟨_, rfl⟩
  clear hu_1
  have hP : va_P (dC, dI) vwCl [(o, .inr (5, [.null])), (h, .inr (4, [.int (nI 3), .int (nI 160), .ref b, .int (nI 0)])), (b, .inl (cA, (3 * 160), .inl (fun _ => 0)))] H := hP
  have hD : va_D A [(o, .inr (5, [.null])), (h, .inr (4, [.int (nI 3), .int (nI 160), .ref b, .int (nI 0)])), (b, .inl (cA, (3 * 160), .inl (fun _ => 0)))] := hD
  refine W.widen (k := 2) (n := 484) (by first | exact Nat.le_of_ble_eq_true rfl | omega) (by first | exact Nat.le_of_ble_eq_true rfl | omega) ?_
  refine va_putF (D := (dC, dI)) (ci := 5) (v := .ref h) (ty := .object "AsOfJoins$Sheet") (C := qR_V) (T := qT_V) (N := 1) hx hb hts qin_V qty_V qtyok_V qnm_V hown hK hP hD hS 0 rfl rfl 0 (by decide) (hts _ mw_80) (fun _ h9 => h9) rfl hin rfl (by decide +kernel) rfl rfl (Nat.le_of_ble_eq_true rfl) qd_V_init_16 (fun H locs hP hD hS => ?_)
  have hP : va_P (dC, dI) vwCl [(o, .inr (5, [.ref h])), (h, .inr (4, [.int (nI 3), .int (nI 160), .ref b, .int (nI 0)])), (b, .inl (cA, (3 * 160), .inl (fun _ => 0)))] H := hP
  have hD : va_D A [(o, .inr (5, [.ref h])), (h, .inr (4, [.int (nI 3), .int (nI 160), .ref b, .int (nI 0)])), (b, .inl (cA, (3 * 160), .inl (fun _ => 0)))] := hD
  exact mk_mvret (h, b) hx hb hr hlocks hP hK hD hS qd_V_init_19 (trivial)
set_option maxHeartbeats 4000000 in
set_option maxRecDepth 100000 in
/-- AsOfJoins$Rows() -/
theorem c_R_init (l : Launch) (dC : Nat → ClassId) (dI : Nat → Nat → Nat) (cA : ClassId) (sz : Nat) (o : Nat) : Met l qy_R_init qw_R_init ({ frames := 2, cells := 2, slots := 1156, locals := 36 }) (mk_mu [.ref o] sz (dC, dI) vwCl [(cA, .int)] [(o, .inr (3, [.null]))]) (mk_muV (S := Nat × Nat) (fun _ => True) (fun u => wR o u.1 u.2 cA 0 (fun _ => 0)) (dC, dI) vwCl [(cA, .int)] (va_A [(o, .inr (3, [.null]))] sz)) 2 1156 (va_A [(o, .inr (3, [.null]))] sz) := by
  refine Met.ofW (cc := qb_R_init) (maxL := 1) (ret := none) (by decide) rfl ?_
  intro p e s m args below meth c s₁ B hml hpre
  obtain ⟨rfl, hsz, hP, hK, hD0⟩ := hpre
  have hx := B.exec
  have hb := B.bytes
  have hr := B.returns
  have hts0 := atoms_spec (ws := qw_R_init) B.pre
  have hts := fun w (h : w ∈ lw_gd) => hts0 w (List.mem_cons_of_mem _ h)
  have hown : s.vm.findClass qR_R = some m.cls := findClass_of_methodNamed B.named
  have hlocks := B.notSynchronized
  have hin : meth.name = "<init>" := (name_of_methodNamed B.named B.method).1
  subst hsz
  have hD := hD0.self (sz := s.heap.size)
  generalize hAe : va_A [(o, .inr (3, [.null]))] s.heap.size = A at hD ⊢
  have hA : ∀ q : Nat, s.heap.size ≤ q → A q := fun q h => by rw [← hAe]; exact Or.inr h
  have hS : va_S A s.heap s.heap [] := va_S.rf
  have hl := lv_entry ([.ref o]) (n := 1) (Nat.le_of_ble_eq_true rfl)
  rw [lg_entry_eq]
  generalize (lg_sl ([.ref o]) ++ List.replicate (1 - (lg_sl ([.ref o])).length) Slot.unset).toArray = ls at hl ⊢
  have hl : lv_has ls 1 [(0, .ref o)] := hl
  have hP : va_P (dC, dI) vwCl [(o, .inr (3, [.null]))] s.heap := hP
  refine mk_start (A := A) hP (fun H locs hP hS => ?_)
  refine lv_aload_n hx hb qd_R_init_0 rfl (lv_at hl 0 rfl) ?_
  refine W.objInit hx hb hown (hts _ mw_89) (hts _ mw_49) (hts _ mw_50) rfl (by rw [hml]; exact hl.1) rfl qd_R_init_1 (Nat.le_of_ble_eq_true rfl) (Nat.le_of_ble_eq_true rfl) ?_
  refine W.eq (g2 := F0 m 4 ls []) rfl ?_
  refine lv_aload_n hx hb qd_R_init_4 rfl (lv_at hl 0 rfl) ?_
  refine va_new (ci := 4) (fs := [.int 0, .int 0, .null, .int 0]) (C := qR_S) (T := qT_S) (N := 4) hx hb hts qin_S qty_S qtyok_S hown (hts _ mw_90) (hts _ mw_58) (hts _ mw_37) hK hP hD hS hA rfl (fun j hj => by rcases (show j = 0 ∨ j = 1 ∨ j = 2 ∨ j = 3 by omega) with rfl | rfl | rfl | rfl <;> rfl) (by first | exact Nat.le_of_ble_eq_true rfl | omega) (by first | exact Nat.le_of_ble_eq_true rfl | omega) qd_R_init_5 (fun h H hP hD hS => ?_)
  have hP : va_P (dC, dI) vwCl [(o, .inr (3, [.null])), (h, .inr (4, [.int 0, .int 0, .null, .int 0]))] H := hP
  have hD : va_D A [(o, .inr (3, [.null])), (h, .inr (4, [.int 0, .int 0, .null, .int 0]))] := hD
  refine W.widen (k := 1) (n := 4) (by first | exact Nat.le_of_ble_eq_true rfl | omega) (by first | exact Nat.le_of_ble_eq_true rfl | omega) ?_
  refine lv_dup hx hb qd_R_init_8 rfl ?_
  refine lv_bipush (v := 12) hx hb qd_R_init_9 (by decide) ?_
  refine lv_bipush (v := 96) hx hb qd_R_init_11 (by decide) ?_
  refine mk_mcallv (wr := [(o, .inr (3, [.null]))]) (wf := (fun u => [(o, .inr (3, [.null]))] ++ (fun u => wS h u cA 12 96 0 (fun _ => 0)) u)) (va_runI (As := [.int 12, .int 96]) (rest := [.ref h, .ref o]) ⟨hx, hb, hml, hown, hts⟩ (c_Sh_init l dC dI cA H.size h 12 96 (by decide) (by decide) (by decide) (by decide)) (cwI 2 hts (lw_g1 mw_61) rfl rfl rfl (hts _ mw_37) (hts _ mw_91) (hts _ mw_60) rfl (by decide +kernel) ⟨Nat.le_of_ble_eq_true rfl, Nat.le_of_ble_eq_true rfl⟩) (mk_muI hP hD [1] (by decide) rfl hK) rfl rfl hl.1 rfl (lv_room (Nat.le_of_ble_eq_true rfl)) qd_R_init_13 ⟨(by first | exact Nat.le_of_ble_eq_true rfl | omega), (by first | exact Nat.le_of_ble_eq_true rfl | omega)⟩) hS hA hP hD [1] [0] [0, 1, 2] rfl rfl (by decide) (by decide) (by decide) (fun _ => rfl) (fun u_1 H locs hu_1 hP hD hS => ?_)
  obtain ⟨b, rfl⟩ : ∃ z, z = u_1 := ⟨_, rfl⟩
  clear hu_1
  have hP : va_P (dC, dI) vwCl [(o, .inr (3, [.null])), (h, .inr (4, [.int (nI 12), .int (nI 96), .ref b, .int (nI 0)])), (b, .inl (cA, (12 * 96), .inl (fun _ => 0)))] H := hP
  have hD : va_D A [(o, .inr (3, [.null])), (h, .inr (4, [.int (nI 12), .int (nI 96), .ref b, .int (nI 0)])), (b, .inl (cA, (12 * 96), .inl (fun _ => 0)))] := hD
  refine W.widen (k := 2) (n := 1156) (by first | exact Nat.le_of_ble_eq_true rfl | omega) (by first | exact Nat.le_of_ble_eq_true rfl | omega) ?_
  refine va_putF (D := (dC, dI)) (ci := 3) (v := .ref h) (ty := .object "AsOfJoins$Sheet") (C := qR_R) (T := qT_R) (N := 1) hx hb hts qin_R qty_R qtyok_R qnm_R hown hK hP hD hS 0 rfl rfl 0 (by decide) (hts _ mw_92) (fun _ h9 => h9) rfl hin rfl (by decide +kernel) rfl rfl (Nat.le_of_ble_eq_true rfl) qd_R_init_16 (fun H locs hP hD hS => ?_)
  have hP : va_P (dC, dI) vwCl [(o, .inr (3, [.ref h])), (h, .inr (4, [.int (nI 12), .int (nI 96), .ref b, .int (nI 0)])), (b, .inl (cA, (12 * 96), .inl (fun _ => 0)))] H := hP
  have hD : va_D A [(o, .inr (3, [.ref h])), (h, .inr (4, [.int (nI 12), .int (nI 96), .ref b, .int (nI 0)])), (b, .inl (cA, (12 * 96), .inl (fun _ => 0)))] := hD
  exact mk_mvret (h, b) hx hb hr hlocks hP hK hD hS qd_R_init_19 (trivial)
set_option maxHeartbeats 4000000 in
set_option maxRecDepth 100000 in
/-- AsOfJoins$Outs() -/
theorem c_O_init (l : Launch) (dC : Nat → ClassId) (dI : Nat → Nat → Nat) (cA : ClassId) (sz : Nat) (o : Nat) : Met l qy_O_init qw_O_init ({ frames := 2, cells := 2, slots := 2116, locals := 36 }) (mk_mu [.ref o] sz (dC, dI) vwCl [(cA, .int)] [(o, .inr (2, [.null, .int 0, .int 0]))]) (mk_muV (S := Nat × Nat) (fun _ => True) (fun u => wO o u.1 u.2 cA 0 0 0 (fun _ => 0)) (dC, dI) vwCl [(cA, .int)] (va_A [(o, .inr (2, [.null, .int 0, .int 0]))] sz)) 2 2116 (va_A [(o, .inr (2, [.null, .int 0, .int 0]))] sz) := by
  refine Met.ofW (cc := qb_O_init) (maxL := 1) (ret := none) (by decide) rfl ?_
  intro p e s m args below meth c s₁ B hml hpre
  obtain ⟨rfl, hsz, hP, hK, hD0⟩ := hpre
  have hx := B.exec
  have hb := B.bytes
  have hr := B.returns
  have hts0 := atoms_spec (ws := qw_O_init) B.pre
  have hts := fun w (h : w ∈ lw_gd) => hts0 w (List.mem_cons_of_mem _ h)
  have hown : s.vm.findClass qR_O = some m.cls := findClass_of_methodNamed B.named
  have hlocks := B.notSynchronized
  have hin : meth.name = "<init>" := (name_of_methodNamed B.named B.method).1
  subst hsz
  have hD := hD0.self (sz := s.heap.size)
  generalize hAe : va_A [(o, .inr (2, [.null, .int 0, .int 0]))] s.heap.size = A at hD ⊢
  have hA : ∀ q : Nat, s.heap.size ≤ q → A q := fun q h => by rw [← hAe]; exact Or.inr h
  have hS : va_S A s.heap s.heap [] := va_S.rf
  have hl := lv_entry ([.ref o]) (n := 1) (Nat.le_of_ble_eq_true rfl)
  rw [lg_entry_eq]
  generalize (lg_sl ([.ref o]) ++ List.replicate (1 - (lg_sl ([.ref o])).length) Slot.unset).toArray = ls at hl ⊢
  have hl : lv_has ls 1 [(0, .ref o)] := hl
  have hP : va_P (dC, dI) vwCl [(o, .inr (2, [.null, .int 0, .int 0]))] s.heap := hP
  refine mk_start (A := A) hP (fun H locs hP hS => ?_)
  refine lv_aload_n hx hb qd_O_init_0 rfl (lv_at hl 0 rfl) ?_
  refine W.objInit hx hb hown (hts _ mw_101) (hts _ mw_49) (hts _ mw_50) rfl (by rw [hml]; exact hl.1) rfl qd_O_init_1 (Nat.le_of_ble_eq_true rfl) (Nat.le_of_ble_eq_true rfl) ?_
  refine W.eq (g2 := F0 m 4 ls []) rfl ?_
  refine lv_aload_n hx hb qd_O_init_4 rfl (lv_at hl 0 rfl) ?_
  refine va_new (ci := 4) (fs := [.int 0, .int 0, .null, .int 0]) (C := qR_S) (T := qT_S) (N := 4) hx hb hts qin_S qty_S qtyok_S hown (hts _ mw_102) (hts _ mw_58) (hts _ mw_37) hK hP hD hS hA rfl (fun j hj => by rcases (show j = 0 ∨ j = 1 ∨ j = 2 ∨ j = 3 by omega) with rfl | rfl | rfl | rfl <;> rfl) (by first | exact Nat.le_of_ble_eq_true rfl | omega) (by first | exact Nat.le_of_ble_eq_true rfl | omega) qd_O_init_5 (fun h H hP hD hS => ?_)
  have hP : va_P (dC, dI) vwCl [(o, .inr (2, [.null, .int 0, .int 0])), (h, .inr (4, [.int 0, .int 0, .null, .int 0]))] H := hP
  have hD : va_D A [(o, .inr (2, [.null, .int 0, .int 0])), (h, .inr (4, [.int 0, .int 0, .null, .int 0]))] := hD
  refine W.widen (k := 1) (n := 4) (by first | exact Nat.le_of_ble_eq_true rfl | omega) (by first | exact Nat.le_of_ble_eq_true rfl | omega) ?_
  refine lv_dup hx hb qd_O_init_8 rfl ?_
  refine lv_bipush (v := 11) hx hb qd_O_init_9 (by decide) ?_
  refine lv_sipush (v := 192) hx hb qd_O_init_11 (by decide) ?_
  refine mk_mcallv (wr := [(o, .inr (2, [.null, .int 0, .int 0]))]) (wf := (fun u => [(o, .inr (2, [.null, .int 0, .int 0]))] ++ (fun u => wS h u cA 11 192 0 (fun _ => 0)) u)) (va_runI (As := [.int 11, .int 192]) (rest := [.ref h, .ref o]) ⟨hx, hb, hml, hown, hts⟩ (c_Sh_init l dC dI cA H.size h 11 192 (by decide) (by decide) (by decide) (by decide)) (cwI 2 hts (lw_g1 mw_61) rfl rfl rfl (hts _ mw_37) (hts _ mw_103) (hts _ mw_60) rfl (by decide +kernel) ⟨Nat.le_of_ble_eq_true rfl, Nat.le_of_ble_eq_true rfl⟩) (mk_muI hP hD [1] (by decide) rfl hK) rfl rfl hl.1 rfl (lv_room (Nat.le_of_ble_eq_true rfl)) qd_O_init_14 ⟨(by first | exact Nat.le_of_ble_eq_true rfl | omega), (by first | exact Nat.le_of_ble_eq_true rfl | omega)⟩) hS hA hP hD [1] [0] [0, 1, 2] rfl rfl (by decide) (by decide) (by decide) (fun _ => rfl) (fun u_1 H locs hu_1 hP hD hS => ?_)
  obtain ⟨b, rfl⟩ : ∃ z, z = u_1 := ⟨_, rfl⟩
  clear hu_1
  have hP : va_P (dC, dI) vwCl [(o, .inr (2, [.null, .int 0, .int 0])), (h, .inr (4, [.int (nI 11), .int (nI 192), .ref b, .int (nI 0)])), (b, .inl (cA, (11 * 192), .inl (fun _ => 0)))] H := hP
  have hD : va_D A [(o, .inr (2, [.null, .int 0, .int 0])), (h, .inr (4, [.int (nI 11), .int (nI 192), .ref b, .int (nI 0)])), (b, .inl (cA, (11 * 192), .inl (fun _ => 0)))] := hD
  refine W.widen (k := 2) (n := 2116) (by first | exact Nat.le_of_ble_eq_true rfl | omega) (by first | exact Nat.le_of_ble_eq_true rfl | omega) ?_
  refine va_putF (D := (dC, dI)) (ci := 2) (v := .ref h) (ty := .object "AsOfJoins$Sheet") (C := qR_O) (T := qT_O) (N := 3) hx hb hts qin_O qty_O qtyok_O qnm_O hown hK hP hD hS 0 rfl rfl 0 (by decide) (hts _ mw_104) (fun _ h9 => h9) rfl hin rfl (by decide +kernel) rfl rfl (Nat.le_of_ble_eq_true rfl) qd_O_init_17 (fun H locs hP hD hS => ?_)
  have hP : va_P (dC, dI) vwCl [(o, .inr (2, [.ref h, .int 0, .int 0])), (h, .inr (4, [.int (nI 11), .int (nI 192), .ref b, .int (nI 0)])), (b, .inl (cA, (11 * 192), .inl (fun _ => 0)))] H := hP
  have hD : va_D A [(o, .inr (2, [.ref h, .int 0, .int 0])), (h, .inr (4, [.int (nI 11), .int (nI 192), .ref b, .int (nI 0)])), (b, .inl (cA, (11 * 192), .inl (fun _ => 0)))] := hD
  exact mk_mvret (h, b) hx hb hr hlocks hP hK hD hS qd_O_init_20 (trivial)
set_option maxHeartbeats 4000000 in
set_option maxRecDepth 100000 in
/-- AsOfJoins() -/
theorem c_X_init (l : Launch) (dC : Nat → ClassId) (dI : Nat → Nat → Nat) (cA : ClassId) (sz : Nat) (h0 : Nat) : Met l qy_X_init qw_X_init ({ frames := 3, cells := 12, slots := 3774, locals := 56 }) (mk_muN [Cond.methodLinkNest "AsOfJoins" 18 ⟨"AsOfJoins$Versions", "<init>", "()V"⟩ "AsOfJoins", Cond.methodLinkNest "AsOfJoins" 25 ⟨"AsOfJoins$Rows", "<init>", "()V"⟩ "AsOfJoins", Cond.methodLinkNest "AsOfJoins" 32 ⟨"AsOfJoins$Outs", "<init>", "()V"⟩ "AsOfJoins"] [.ref h0] sz (dC, dI) vwCl [(cA, .int)] [(h0, .inr (0, [.null, .null, .null, .null, .null, .null, .int 0, .int 0, .int 0, .int 0, .int 0, .int 0, .int 0]))]) (mk_muV (S := Nat → Nat) (fun u => u 0 = h0) (fun u => wX u cA (fun _ => 0) (fun _ => 0) (fun _ => 0) (fun _ => 0) 0 0 0 (fun _ => 0) 0 (fun _ => 0) 0 (fun _ => 0)) (dC, dI) vwCl [(cA, .int)] (va_A [(h0, .inr (0, [.null, .null, .null, .null, .null, .null, .int 0, .int 0, .int 0, .int 0, .int 0, .int 0, .int 0]))] sz)) 12 3774 (va_A [(h0, .inr (0, [.null, .null, .null, .null, .null, .null, .int 0, .int 0, .int 0, .int 0, .int 0, .int 0, .int 0]))] sz) := by
  refine Met.ofW (cc := qb_X_init) (maxL := 1) (ret := none) (by decide) rfl ?_
  intro p e s m args below meth c s₁ B hml hpre
  obtain ⟨rfl, hsz, hP, hK, hD0, hN⟩ := hpre
  have hx := B.exec
  have hb := B.bytes
  have hr := B.returns
  have hts0 := atoms_spec (ws := qw_X_init) B.pre
  have hts := fun w (h : w ∈ lw_gd) => hts0 w (List.mem_cons_of_mem _ h)
  have hown : s.vm.findClass qR_X = some m.cls := findClass_of_methodNamed B.named
  have hlocks := B.notSynchronized
  have hin : meth.name = "<init>" := (name_of_methodNamed B.named B.method).1
  subst hsz
  have hD := hD0.self (sz := s.heap.size)
  generalize hAe : va_A [(h0, .inr (0, [.null, .null, .null, .null, .null, .null, .int 0, .int 0, .int 0, .int 0, .int 0, .int 0, .int 0]))] s.heap.size = A at hD ⊢
  have hA : ∀ q : Nat, s.heap.size ≤ q → A q := fun q h => by rw [← hAe]; exact Or.inr h
  have hS : va_S A s.heap s.heap [] := va_S.rf
  have hl := lv_entry ([.ref h0]) (n := 1) (Nat.le_of_ble_eq_true rfl)
  rw [lg_entry_eq]
  generalize (lg_sl ([.ref h0]) ++ List.replicate (1 - (lg_sl ([.ref h0])).length) Slot.unset).toArray = ls at hl ⊢
  have hl : lv_has ls 1 [(0, .ref h0)] := hl
  have hP : va_P (dC, dI) vwCl [(h0, .inr (0, [.null, .null, .null, .null, .null, .null, .int 0, .int 0, .int 0, .int 0, .int 0, .int 0, .int 0]))] s.heap := hP
  refine mk_start (A := A) hP (fun H locs hP hS => ?_)
  refine lv_aload_n hx hb qd_X_init_0 rfl (lv_at hl 0 rfl) ?_
  refine W.objInit hx hb hown (hts _ mw_48) (hts _ mw_49) (hts _ mw_50) rfl (by rw [hml]; exact hl.1) rfl qd_X_init_1 (Nat.le_of_ble_eq_true rfl) (Nat.le_of_ble_eq_true rfl) ?_
  refine W.eq (g2 := F0 m 4 ls []) rfl ?_
  refine lv_aload_n hx hb qd_X_init_4 rfl (lv_at hl 0 rfl) ?_
  refine lv_iconst (v := 4) hx hb qd_X_init_5 (by decide) ?_
  refine va_newa (atype := .int) (n := 4) (N' := 4) (a0 := (4, .inl (fun _ => 0))) hx hb (hts _ mw_79) rfl hK hP hD hS hA (fun _ => rfl) (by decide) (rfl) (by decide) (by first | exact Nat.le_of_ble_eq_true rfl | omega) (by first | exact Nat.le_of_ble_eq_true rfl | exact Nat.le_of_eq (Nat.zero_add _) | omega) qd_X_init_6 (fun q1 cB H hKB hP hD hS => ?_)
  obtain rfl := mk_cA hKB
  clear hKB
  have hP : va_P (dC, dI) vwCl [(h0, .inr (0, [.null, .null, .null, .null, .null, .null, .int 0, .int 0, .int 0, .int 0, .int 0, .int 0, .int 0])), (q1, .inl (cA, 4, .inl (fun _ => 0)))] H := hP
  have hD : va_D A [(h0, .inr (0, [.null, .null, .null, .null, .null, .null, .int 0, .int 0, .int 0, .int 0, .int 0, .int 0, .int 0])), (q1, .inl (cA, 4, .inl (fun _ => 0)))] := hD
  refine W.widen (k := 1) (n := 4) (by first | exact Nat.le_of_ble_eq_true rfl | omega) (by first | exact Nat.le_of_ble_eq_true rfl | exact Nat.le_of_eq (Nat.zero_add _) | omega) ?_
  refine va_putF (D := (dC, dI)) (ci := 0) (v := .ref q1) (ty := (.array .int)) (C := qR_X) (T := qT_X) (N := 13) hx hb hts qin_X qty_X qtyok_X qnm_X hown hK hP hD hS 0 rfl rfl 0 (by decide) (hts _ mw_116) (fun _ h9 => h9) rfl hin rfl (by decide +kernel) rfl rfl (Nat.le_of_ble_eq_true rfl) qd_X_init_8 (fun H locs hP hD hS => ?_)
  have hP : va_P (dC, dI) vwCl [(h0, .inr (0, [.ref q1, .null, .null, .null, .null, .null, .int 0, .int 0, .int 0, .int 0, .int 0, .int 0, .int 0])), (q1, .inl (cA, 4, .inl (fun _ => 0)))] H := hP
  have hD : va_D A [(h0, .inr (0, [.ref q1, .null, .null, .null, .null, .null, .int 0, .int 0, .int 0, .int 0, .int 0, .int 0, .int 0])), (q1, .inl (cA, 4, .inl (fun _ => 0)))] := hD
  refine lv_aload_n hx hb qd_X_init_11 rfl (lv_at hl 0 rfl) ?_
  refine lv_iconst (v := 3) hx hb qd_X_init_12 (by decide) ?_
  refine va_newa (atype := .int) (n := 3) (N' := 3) (a0 := (3, .inl (fun _ => 0))) hx hb (hts _ mw_79) rfl hK hP hD hS hA (fun _ => rfl) (by decide) (rfl) (by decide) (by first | exact Nat.le_of_ble_eq_true rfl | omega) (by first | exact Nat.le_of_ble_eq_true rfl | exact Nat.le_of_eq (Nat.zero_add _) | omega) qd_X_init_13 (fun q2 cB H hKB hP hD hS => ?_)
  obtain rfl := mk_cA hKB
  clear hKB
  have hP : va_P (dC, dI) vwCl [(h0, .inr (0, [.ref q1, .null, .null, .null, .null, .null, .int 0, .int 0, .int 0, .int 0, .int 0, .int 0, .int 0])), (q1, .inl (cA, 4, .inl (fun _ => 0))), (q2, .inl (cA, 3, .inl (fun _ => 0)))] H := hP
  have hD : va_D A [(h0, .inr (0, [.ref q1, .null, .null, .null, .null, .null, .int 0, .int 0, .int 0, .int 0, .int 0, .int 0, .int 0])), (q1, .inl (cA, 4, .inl (fun _ => 0))), (q2, .inl (cA, 3, .inl (fun _ => 0)))] := hD
  refine W.widen (k := 2) (n := 7) (by first | exact Nat.le_of_ble_eq_true rfl | omega) (by first | exact Nat.le_of_ble_eq_true rfl | exact Nat.le_of_eq (Nat.zero_add _) | omega) ?_
  refine va_putF (D := (dC, dI)) (ci := 0) (v := .ref q2) (ty := (.array .int)) (C := qR_X) (T := qT_X) (N := 13) hx hb hts qin_X qty_X qtyok_X qnm_X hown hK hP hD hS 0 rfl rfl 1 (by decide) (hts _ mw_117) (fun _ h9 => h9) rfl hin rfl (by decide +kernel) rfl rfl (Nat.le_of_ble_eq_true rfl) qd_X_init_15 (fun H locs hP hD hS => ?_)
  have hP : va_P (dC, dI) vwCl [(h0, .inr (0, [.ref q1, .ref q2, .null, .null, .null, .null, .int 0, .int 0, .int 0, .int 0, .int 0, .int 0, .int 0])), (q1, .inl (cA, 4, .inl (fun _ => 0))), (q2, .inl (cA, 3, .inl (fun _ => 0)))] H := hP
  have hD : va_D A [(h0, .inr (0, [.ref q1, .ref q2, .null, .null, .null, .null, .int 0, .int 0, .int 0, .int 0, .int 0, .int 0, .int 0])), (q1, .inl (cA, 4, .inl (fun _ => 0))), (q2, .inl (cA, 3, .inl (fun _ => 0)))] := hD
  refine lv_aload_n hx hb qd_X_init_18 rfl (lv_at hl 0 rfl) ?_
  refine va_new (ci := 5) (fs := [.null]) (C := qR_V) (T := qT_V) (N := 1) hx hb hts qin_V qty_V qtyok_V hown (hts _ mw_51) (hts _ mw_52) (hts _ mw_36) hK hP hD hS hA rfl (fun j hj => by rcases (show j = 0 by omega) with rfl <;> rfl) (by first | exact Nat.le_of_ble_eq_true rfl | omega) (by first | exact Nat.le_of_ble_eq_true rfl | omega) qd_X_init_19 (fun v0 H hP hD hS => ?_)
  have hP : va_P (dC, dI) vwCl [(h0, .inr (0, [.ref q1, .ref q2, .null, .null, .null, .null, .int 0, .int 0, .int 0, .int 0, .int 0, .int 0, .int 0])), (q1, .inl (cA, 4, .inl (fun _ => 0))), (q2, .inl (cA, 3, .inl (fun _ => 0))), (v0, .inr (5, [.null]))] H := hP
  have hD : va_D A [(h0, .inr (0, [.ref q1, .ref q2, .null, .null, .null, .null, .int 0, .int 0, .int 0, .int 0, .int 0, .int 0, .int 0])), (q1, .inl (cA, 4, .inl (fun _ => 0))), (q2, .inl (cA, 3, .inl (fun _ => 0))), (v0, .inr (5, [.null]))] := hD
  refine W.widen (k := 3) (n := 8) (by first | exact Nat.le_of_ble_eq_true rfl | omega) (by first | exact Nat.le_of_ble_eq_true rfl | omega) ?_
  refine lv_dup hx hb qd_X_init_22 rfl ?_
  refine mk_mcallv (wr := [(h0, .inr (0, [.ref q1, .ref q2, .null, .null, .null, .null, .int 0, .int 0, .int 0, .int 0, .int 0, .int 0, .int 0])), (q1, .inl (cA, 4, .inl (fun _ => 0))), (q2, .inl (cA, 3, .inl (fun _ => 0)))]) (wf := (fun u => [(h0, .inr (0, [.ref q1, .ref q2, .null, .null, .null, .null, .int 0, .int 0, .int 0, .int 0, .int 0, .int 0, .int 0])), (q1, .inl (cA, 4, .inl (fun _ => 0))), (q2, .inl (cA, 3, .inl (fun _ => 0)))] ++ (fun u => wV v0 u.1 u.2 cA 0 (fun _ => 0)) u)) (va_runIN (As := []) (rest := [.ref v0, .ref h0]) ⟨hx, hb, hml, hown, hts⟩ (c_V_init l dC dI cA H.size v0) ⟨va_cnB 0 hts (lw_g1 mw_55) rfl rfl rfl (hN _ (List.mem_of_getElem? (i := 0) rfl)) (hts _ mw_36) (by decide +kernel) ⟨Nat.le_of_ble_eq_true rfl, Nat.le_of_ble_eq_true rfl⟩, rfl, (hts _ mw_54)⟩ (mk_muI hP hD [3] (by decide) rfl hK) rfl rfl hl.1 rfl (lv_room (Nat.le_of_ble_eq_true rfl)) qd_X_init_23 ⟨(by first | exact Nat.le_of_ble_eq_true rfl | omega), (by first | exact Nat.le_of_ble_eq_true rfl | omega)⟩) hS hA hP hD [3] [0, 1, 2] [0, 1, 2, 3, 4, 5] rfl rfl (by decide) (by decide) (by decide) (fun _ => rfl) (fun u_1 H locs hu_1 hP hD hS => ?_)
  obtain ⟨v1, v2⟩ := u_1
  clear hu_1
  have hP : va_P (dC, dI) vwCl [(h0, .inr (0, [.ref q1, .ref q2, .null, .null, .null, .null, .int 0, .int 0, .int 0, .int 0, .int 0, .int 0, .int 0])), (q1, .inl (cA, 4, .inl (fun _ => 0))), (q2, .inl (cA, 3, .inl (fun _ => 0))), (v0, .inr (5, [.ref v1])), (v1, .inr (4, [.int (nI 3), .int (nI 160), .ref v2, .int (nI 0)])), (v2, .inl (cA, (3 * 160), .inl (fun _ => 0)))] H := hP
  have hD : va_D A [(h0, .inr (0, [.ref q1, .ref q2, .null, .null, .null, .null, .int 0, .int 0, .int 0, .int 0, .int 0, .int 0, .int 0])), (q1, .inl (cA, 4, .inl (fun _ => 0))), (q2, .inl (cA, 3, .inl (fun _ => 0))), (v0, .inr (5, [.ref v1])), (v1, .inr (4, [.int (nI 3), .int (nI 160), .ref v2, .int (nI 0)])), (v2, .inl (cA, (3 * 160), .inl (fun _ => 0)))] := hD
  refine W.widen (k := 5) (n := 492) (by first | exact Nat.le_of_ble_eq_true rfl | omega) (by first | exact Nat.le_of_ble_eq_true rfl | omega) ?_
  refine va_putF (D := (dC, dI)) (ci := 0) (v := .ref v0) (ty := .object "AsOfJoins$Versions") (C := qR_X) (T := qT_X) (N := 13) hx hb hts qin_X qty_X qtyok_X qnm_X hown hK hP hD hS 0 rfl rfl 2 (by decide) (hts _ mw_118) (fun _ h9 => h9) rfl hin rfl (by decide +kernel) rfl rfl (Nat.le_of_ble_eq_true rfl) qd_X_init_26 (fun H locs hP hD hS => ?_)
  have hP : va_P (dC, dI) vwCl [(h0, .inr (0, [.ref q1, .ref q2, .ref v0, .null, .null, .null, .int 0, .int 0, .int 0, .int 0, .int 0, .int 0, .int 0])), (q1, .inl (cA, 4, .inl (fun _ => 0))), (q2, .inl (cA, 3, .inl (fun _ => 0))), (v0, .inr (5, [.ref v1])), (v1, .inr (4, [.int (nI 3), .int (nI 160), .ref v2, .int (nI 0)])), (v2, .inl (cA, (3 * 160), .inl (fun _ => 0)))] H := hP
  have hD : va_D A [(h0, .inr (0, [.ref q1, .ref q2, .ref v0, .null, .null, .null, .int 0, .int 0, .int 0, .int 0, .int 0, .int 0, .int 0])), (q1, .inl (cA, 4, .inl (fun _ => 0))), (q2, .inl (cA, 3, .inl (fun _ => 0))), (v0, .inr (5, [.ref v1])), (v1, .inr (4, [.int (nI 3), .int (nI 160), .ref v2, .int (nI 0)])), (v2, .inl (cA, (3 * 160), .inl (fun _ => 0)))] := hD
  refine lv_aload_n hx hb qd_X_init_29 rfl (lv_at hl 0 rfl) ?_
  refine va_new (ci := 3) (fs := [.null]) (C := qR_R) (T := qT_R) (N := 1) hx hb hts qin_R qty_R qtyok_R hown (hts _ mw_84) (hts _ mw_85) (hts _ mw_39) hK hP hD hS hA rfl (fun j hj => by rcases (show j = 0 by omega) with rfl <;> rfl) (by first | exact Nat.le_of_ble_eq_true rfl | omega) (by first | exact Nat.le_of_ble_eq_true rfl | omega) qd_X_init_30 (fun r0 H hP hD hS => ?_)
  have hP : va_P (dC, dI) vwCl [(h0, .inr (0, [.ref q1, .ref q2, .ref v0, .null, .null, .null, .int 0, .int 0, .int 0, .int 0, .int 0, .int 0, .int 0])), (q1, .inl (cA, 4, .inl (fun _ => 0))), (q2, .inl (cA, 3, .inl (fun _ => 0))), (v0, .inr (5, [.ref v1])), (v1, .inr (4, [.int (nI 3), .int (nI 160), .ref v2, .int (nI 0)])), (v2, .inl (cA, (3 * 160), .inl (fun _ => 0))), (r0, .inr (3, [.null]))] H := hP
  have hD : va_D A [(h0, .inr (0, [.ref q1, .ref q2, .ref v0, .null, .null, .null, .int 0, .int 0, .int 0, .int 0, .int 0, .int 0, .int 0])), (q1, .inl (cA, 4, .inl (fun _ => 0))), (q2, .inl (cA, 3, .inl (fun _ => 0))), (v0, .inr (5, [.ref v1])), (v1, .inr (4, [.int (nI 3), .int (nI 160), .ref v2, .int (nI 0)])), (v2, .inl (cA, (3 * 160), .inl (fun _ => 0))), (r0, .inr (3, [.null]))] := hD
  refine W.widen (k := 6) (n := 493) (by first | exact Nat.le_of_ble_eq_true rfl | omega) (by first | exact Nat.le_of_ble_eq_true rfl | omega) ?_
  refine lv_dup hx hb qd_X_init_33 rfl ?_
  refine mk_mcallv (wr := [(h0, .inr (0, [.ref q1, .ref q2, .ref v0, .null, .null, .null, .int 0, .int 0, .int 0, .int 0, .int 0, .int 0, .int 0])), (q1, .inl (cA, 4, .inl (fun _ => 0))), (q2, .inl (cA, 3, .inl (fun _ => 0))), (v0, .inr (5, [.ref v1])), (v1, .inr (4, [.int (nI 3), .int (nI 160), .ref v2, .int (nI 0)])), (v2, .inl (cA, (3 * 160), .inl (fun _ => 0)))]) (wf := (fun u => [(h0, .inr (0, [.ref q1, .ref q2, .ref v0, .null, .null, .null, .int 0, .int 0, .int 0, .int 0, .int 0, .int 0, .int 0])), (q1, .inl (cA, 4, .inl (fun _ => 0))), (q2, .inl (cA, 3, .inl (fun _ => 0))), (v0, .inr (5, [.ref v1])), (v1, .inr (4, [.int (nI 3), .int (nI 160), .ref v2, .int (nI 0)])), (v2, .inl (cA, (3 * 160), .inl (fun _ => 0)))] ++ (fun u => wR r0 u.1 u.2 cA 0 (fun _ => 0)) u)) (va_runIN (As := []) (rest := [.ref r0, .ref h0]) ⟨hx, hb, hml, hown, hts⟩ (c_R_init l dC dI cA H.size r0) ⟨va_cnB 0 hts (lw_g1 mw_88) rfl rfl rfl (hN _ (List.mem_of_getElem? (i := 1) rfl)) (hts _ mw_39) (by decide +kernel) ⟨Nat.le_of_ble_eq_true rfl, Nat.le_of_ble_eq_true rfl⟩, rfl, (hts _ mw_87)⟩ (mk_muI hP hD [6] (by decide) rfl hK) rfl rfl hl.1 rfl (lv_room (Nat.le_of_ble_eq_true rfl)) qd_X_init_34 ⟨(by first | exact Nat.le_of_ble_eq_true rfl | omega), (by first | exact Nat.le_of_ble_eq_true rfl | omega)⟩) hS hA hP hD [6] [0, 1, 2, 3, 4, 5] [0, 1, 2, 3, 4, 5, 6, 7, 8] rfl rfl (by decide) (by decide) (by decide) (fun _ => rfl) (fun u_2 H locs hu_2 hP hD hS => ?_)
  obtain ⟨r1, r2⟩ := u_2
  clear hu_2
  have hP : va_P (dC, dI) vwCl [(h0, .inr (0, [.ref q1, .ref q2, .ref v0, .null, .null, .null, .int 0, .int 0, .int 0, .int 0, .int 0, .int 0, .int 0])), (q1, .inl (cA, 4, .inl (fun _ => 0))), (q2, .inl (cA, 3, .inl (fun _ => 0))), (v0, .inr (5, [.ref v1])), (v1, .inr (4, [.int (nI 3), .int (nI 160), .ref v2, .int (nI 0)])), (v2, .inl (cA, (3 * 160), .inl (fun _ => 0))), (r0, .inr (3, [.ref r1])), (r1, .inr (4, [.int (nI 12), .int (nI 96), .ref r2, .int (nI 0)])), (r2, .inl (cA, (12 * 96), .inl (fun _ => 0)))] H := hP
  have hD : va_D A [(h0, .inr (0, [.ref q1, .ref q2, .ref v0, .null, .null, .null, .int 0, .int 0, .int 0, .int 0, .int 0, .int 0, .int 0])), (q1, .inl (cA, 4, .inl (fun _ => 0))), (q2, .inl (cA, 3, .inl (fun _ => 0))), (v0, .inr (5, [.ref v1])), (v1, .inr (4, [.int (nI 3), .int (nI 160), .ref v2, .int (nI 0)])), (v2, .inl (cA, (3 * 160), .inl (fun _ => 0))), (r0, .inr (3, [.ref r1])), (r1, .inr (4, [.int (nI 12), .int (nI 96), .ref r2, .int (nI 0)])), (r2, .inl (cA, (12 * 96), .inl (fun _ => 0)))] := hD
  refine W.widen (k := 8) (n := 1649) (by first | exact Nat.le_of_ble_eq_true rfl | omega) (by first | exact Nat.le_of_ble_eq_true rfl | omega) ?_
  refine va_putF (D := (dC, dI)) (ci := 0) (v := .ref r0) (ty := .object "AsOfJoins$Rows") (C := qR_X) (T := qT_X) (N := 13) hx hb hts qin_X qty_X qtyok_X qnm_X hown hK hP hD hS 0 rfl rfl 3 (by decide) (hts _ mw_119) (fun _ h9 => h9) rfl hin rfl (by decide +kernel) rfl rfl (Nat.le_of_ble_eq_true rfl) qd_X_init_37 (fun H locs hP hD hS => ?_)
  have hP : va_P (dC, dI) vwCl [(h0, .inr (0, [.ref q1, .ref q2, .ref v0, .ref r0, .null, .null, .int 0, .int 0, .int 0, .int 0, .int 0, .int 0, .int 0])), (q1, .inl (cA, 4, .inl (fun _ => 0))), (q2, .inl (cA, 3, .inl (fun _ => 0))), (v0, .inr (5, [.ref v1])), (v1, .inr (4, [.int (nI 3), .int (nI 160), .ref v2, .int (nI 0)])), (v2, .inl (cA, (3 * 160), .inl (fun _ => 0))), (r0, .inr (3, [.ref r1])), (r1, .inr (4, [.int (nI 12), .int (nI 96), .ref r2, .int (nI 0)])), (r2, .inl (cA, (12 * 96), .inl (fun _ => 0)))] H := hP
  have hD : va_D A [(h0, .inr (0, [.ref q1, .ref q2, .ref v0, .ref r0, .null, .null, .int 0, .int 0, .int 0, .int 0, .int 0, .int 0, .int 0])), (q1, .inl (cA, 4, .inl (fun _ => 0))), (q2, .inl (cA, 3, .inl (fun _ => 0))), (v0, .inr (5, [.ref v1])), (v1, .inr (4, [.int (nI 3), .int (nI 160), .ref v2, .int (nI 0)])), (v2, .inl (cA, (3 * 160), .inl (fun _ => 0))), (r0, .inr (3, [.ref r1])), (r1, .inr (4, [.int (nI 12), .int (nI 96), .ref r2, .int (nI 0)])), (r2, .inl (cA, (12 * 96), .inl (fun _ => 0)))] := hD
  refine lv_aload_n hx hb qd_X_init_40 rfl (lv_at hl 0 rfl) ?_
  refine va_new (ci := 2) (fs := [.null, .int 0, .int 0]) (C := qR_O) (T := qT_O) (N := 3) hx hb hts qin_O qty_O qtyok_O hown (hts _ mw_96) (hts _ mw_97) (hts _ mw_40) hK hP hD hS hA rfl (fun j hj => by rcases (show j = 0 ∨ j = 1 ∨ j = 2 by omega) with rfl | rfl | rfl <;> rfl) (by first | exact Nat.le_of_ble_eq_true rfl | omega) (by first | exact Nat.le_of_ble_eq_true rfl | omega) qd_X_init_41 (fun o0 H hP hD hS => ?_)
  have hP : va_P (dC, dI) vwCl [(h0, .inr (0, [.ref q1, .ref q2, .ref v0, .ref r0, .null, .null, .int 0, .int 0, .int 0, .int 0, .int 0, .int 0, .int 0])), (q1, .inl (cA, 4, .inl (fun _ => 0))), (q2, .inl (cA, 3, .inl (fun _ => 0))), (v0, .inr (5, [.ref v1])), (v1, .inr (4, [.int (nI 3), .int (nI 160), .ref v2, .int (nI 0)])), (v2, .inl (cA, (3 * 160), .inl (fun _ => 0))), (r0, .inr (3, [.ref r1])), (r1, .inr (4, [.int (nI 12), .int (nI 96), .ref r2, .int (nI 0)])), (r2, .inl (cA, (12 * 96), .inl (fun _ => 0))), (o0, .inr (2, [.null, .int 0, .int 0]))] H := hP
  have hD : va_D A [(h0, .inr (0, [.ref q1, .ref q2, .ref v0, .ref r0, .null, .null, .int 0, .int 0, .int 0, .int 0, .int 0, .int 0, .int 0])), (q1, .inl (cA, 4, .inl (fun _ => 0))), (q2, .inl (cA, 3, .inl (fun _ => 0))), (v0, .inr (5, [.ref v1])), (v1, .inr (4, [.int (nI 3), .int (nI 160), .ref v2, .int (nI 0)])), (v2, .inl (cA, (3 * 160), .inl (fun _ => 0))), (r0, .inr (3, [.ref r1])), (r1, .inr (4, [.int (nI 12), .int (nI 96), .ref r2, .int (nI 0)])), (r2, .inl (cA, (12 * 96), .inl (fun _ => 0))), (o0, .inr (2, [.null, .int 0, .int 0]))] := hD
  refine W.widen (k := 9) (n := 1652) (by first | exact Nat.le_of_ble_eq_true rfl | omega) (by first | exact Nat.le_of_ble_eq_true rfl | omega) ?_
  refine lv_dup hx hb qd_X_init_44 rfl ?_
  refine mk_mcallv (wr := [(h0, .inr (0, [.ref q1, .ref q2, .ref v0, .ref r0, .null, .null, .int 0, .int 0, .int 0, .int 0, .int 0, .int 0, .int 0])), (q1, .inl (cA, 4, .inl (fun _ => 0))), (q2, .inl (cA, 3, .inl (fun _ => 0))), (v0, .inr (5, [.ref v1])), (v1, .inr (4, [.int (nI 3), .int (nI 160), .ref v2, .int (nI 0)])), (v2, .inl (cA, (3 * 160), .inl (fun _ => 0))), (r0, .inr (3, [.ref r1])), (r1, .inr (4, [.int (nI 12), .int (nI 96), .ref r2, .int (nI 0)])), (r2, .inl (cA, (12 * 96), .inl (fun _ => 0)))]) (wf := (fun u => [(h0, .inr (0, [.ref q1, .ref q2, .ref v0, .ref r0, .null, .null, .int 0, .int 0, .int 0, .int 0, .int 0, .int 0, .int 0])), (q1, .inl (cA, 4, .inl (fun _ => 0))), (q2, .inl (cA, 3, .inl (fun _ => 0))), (v0, .inr (5, [.ref v1])), (v1, .inr (4, [.int (nI 3), .int (nI 160), .ref v2, .int (nI 0)])), (v2, .inl (cA, (3 * 160), .inl (fun _ => 0))), (r0, .inr (3, [.ref r1])), (r1, .inr (4, [.int (nI 12), .int (nI 96), .ref r2, .int (nI 0)])), (r2, .inl (cA, (12 * 96), .inl (fun _ => 0)))] ++ (fun u => wO o0 u.1 u.2 cA 0 0 0 (fun _ => 0)) u)) (va_runIN (As := []) (rest := [.ref o0, .ref h0]) ⟨hx, hb, hml, hown, hts⟩ (c_O_init l dC dI cA H.size o0) ⟨va_cnB 0 hts (lw_g1 mw_100) rfl rfl rfl (hN _ (List.mem_of_getElem? (i := 2) rfl)) (hts _ mw_40) (by decide +kernel) ⟨Nat.le_of_ble_eq_true rfl, Nat.le_of_ble_eq_true rfl⟩, rfl, (hts _ mw_99)⟩ (mk_muI hP hD [9] (by decide) rfl hK) rfl rfl hl.1 rfl (lv_room (Nat.le_of_ble_eq_true rfl)) qd_X_init_45 ⟨(by first | exact Nat.le_of_ble_eq_true rfl | omega), (by first | exact Nat.le_of_ble_eq_true rfl | omega)⟩) hS hA hP hD [9] [0, 1, 2, 3, 4, 5, 6, 7, 8] [0, 1, 2, 3, 4, 5, 6, 7, 8, 9, 10, 11] rfl rfl (by decide) (by decide) (by decide) (fun _ => rfl) (fun u_3 H locs hu_3 hP hD hS => ?_)
  obtain ⟨o1, o2⟩ := u_3
  clear hu_3
  have hP : va_P (dC, dI) vwCl [(h0, .inr (0, [.ref q1, .ref q2, .ref v0, .ref r0, .null, .null, .int 0, .int 0, .int 0, .int 0, .int 0, .int 0, .int 0])), (q1, .inl (cA, 4, .inl (fun _ => 0))), (q2, .inl (cA, 3, .inl (fun _ => 0))), (v0, .inr (5, [.ref v1])), (v1, .inr (4, [.int (nI 3), .int (nI 160), .ref v2, .int (nI 0)])), (v2, .inl (cA, (3 * 160), .inl (fun _ => 0))), (r0, .inr (3, [.ref r1])), (r1, .inr (4, [.int (nI 12), .int (nI 96), .ref r2, .int (nI 0)])), (r2, .inl (cA, (12 * 96), .inl (fun _ => 0))), (o0, .inr (2, [.ref o1, .int 0, .int 0])), (o1, .inr (4, [.int (nI 11), .int (nI 192), .ref o2, .int (nI 0)])), (o2, .inl (cA, (11 * 192), .inl (fun _ => 0)))] H := hP
  have hD : va_D A [(h0, .inr (0, [.ref q1, .ref q2, .ref v0, .ref r0, .null, .null, .int 0, .int 0, .int 0, .int 0, .int 0, .int 0, .int 0])), (q1, .inl (cA, 4, .inl (fun _ => 0))), (q2, .inl (cA, 3, .inl (fun _ => 0))), (v0, .inr (5, [.ref v1])), (v1, .inr (4, [.int (nI 3), .int (nI 160), .ref v2, .int (nI 0)])), (v2, .inl (cA, (3 * 160), .inl (fun _ => 0))), (r0, .inr (3, [.ref r1])), (r1, .inr (4, [.int (nI 12), .int (nI 96), .ref r2, .int (nI 0)])), (r2, .inl (cA, (12 * 96), .inl (fun _ => 0))), (o0, .inr (2, [.ref o1, .int 0, .int 0])), (o1, .inr (4, [.int (nI 11), .int (nI 192), .ref o2, .int (nI 0)])), (o2, .inl (cA, (11 * 192), .inl (fun _ => 0)))] := hD
  refine W.widen (k := 11) (n := 3768) (by first | exact Nat.le_of_ble_eq_true rfl | omega) (by first | exact Nat.le_of_ble_eq_true rfl | omega) ?_
  refine va_putF (D := (dC, dI)) (ci := 0) (v := .ref o0) (ty := .object "AsOfJoins$Outs") (C := qR_X) (T := qT_X) (N := 13) hx hb hts qin_X qty_X qtyok_X qnm_X hown hK hP hD hS 0 rfl rfl 4 (by decide) (hts _ mw_120) (fun _ h9 => h9) rfl hin rfl (by decide +kernel) rfl rfl (Nat.le_of_ble_eq_true rfl) qd_X_init_48 (fun H locs hP hD hS => ?_)
  have hP : va_P (dC, dI) vwCl [(h0, .inr (0, [.ref q1, .ref q2, .ref v0, .ref r0, .ref o0, .null, .int 0, .int 0, .int 0, .int 0, .int 0, .int 0, .int 0])), (q1, .inl (cA, 4, .inl (fun _ => 0))), (q2, .inl (cA, 3, .inl (fun _ => 0))), (v0, .inr (5, [.ref v1])), (v1, .inr (4, [.int (nI 3), .int (nI 160), .ref v2, .int (nI 0)])), (v2, .inl (cA, (3 * 160), .inl (fun _ => 0))), (r0, .inr (3, [.ref r1])), (r1, .inr (4, [.int (nI 12), .int (nI 96), .ref r2, .int (nI 0)])), (r2, .inl (cA, (12 * 96), .inl (fun _ => 0))), (o0, .inr (2, [.ref o1, .int 0, .int 0])), (o1, .inr (4, [.int (nI 11), .int (nI 192), .ref o2, .int (nI 0)])), (o2, .inl (cA, (11 * 192), .inl (fun _ => 0)))] H := hP
  have hD : va_D A [(h0, .inr (0, [.ref q1, .ref q2, .ref v0, .ref r0, .ref o0, .null, .int 0, .int 0, .int 0, .int 0, .int 0, .int 0, .int 0])), (q1, .inl (cA, 4, .inl (fun _ => 0))), (q2, .inl (cA, 3, .inl (fun _ => 0))), (v0, .inr (5, [.ref v1])), (v1, .inr (4, [.int (nI 3), .int (nI 160), .ref v2, .int (nI 0)])), (v2, .inl (cA, (3 * 160), .inl (fun _ => 0))), (r0, .inr (3, [.ref r1])), (r1, .inr (4, [.int (nI 12), .int (nI 96), .ref r2, .int (nI 0)])), (r2, .inl (cA, (12 * 96), .inl (fun _ => 0))), (o0, .inr (2, [.ref o1, .int 0, .int 0])), (o1, .inr (4, [.int (nI 11), .int (nI 192), .ref o2, .int (nI 0)])), (o2, .inl (cA, (11 * 192), .inl (fun _ => 0)))] := hD
  refine lv_aload_n hx hb qd_X_init_51 rfl (lv_at hl 0 rfl) ?_
  refine lv_bipush (v := 6) hx hb qd_X_init_52 (by decide) ?_
  refine va_newa (atype := .int) (n := 6) (N' := 6) (a0 := (6, .inl (fun _ => 0))) hx hb (hts _ mw_79) rfl hK hP hD hS hA (fun _ => rfl) (by decide) (rfl) (by decide) (by first | exact Nat.le_of_ble_eq_true rfl | omega) (by first | exact Nat.le_of_ble_eq_true rfl | exact Nat.le_of_eq (Nat.zero_add _) | omega) qd_X_init_54 (fun q3 cB H hKB hP hD hS => ?_)
  obtain rfl := mk_cA hKB
  clear hKB
  have hP : va_P (dC, dI) vwCl [(h0, .inr (0, [.ref q1, .ref q2, .ref v0, .ref r0, .ref o0, .null, .int 0, .int 0, .int 0, .int 0, .int 0, .int 0, .int 0])), (q1, .inl (cA, 4, .inl (fun _ => 0))), (q2, .inl (cA, 3, .inl (fun _ => 0))), (v0, .inr (5, [.ref v1])), (v1, .inr (4, [.int (nI 3), .int (nI 160), .ref v2, .int (nI 0)])), (v2, .inl (cA, (3 * 160), .inl (fun _ => 0))), (r0, .inr (3, [.ref r1])), (r1, .inr (4, [.int (nI 12), .int (nI 96), .ref r2, .int (nI 0)])), (r2, .inl (cA, (12 * 96), .inl (fun _ => 0))), (o0, .inr (2, [.ref o1, .int 0, .int 0])), (o1, .inr (4, [.int (nI 11), .int (nI 192), .ref o2, .int (nI 0)])), (o2, .inl (cA, (11 * 192), .inl (fun _ => 0))), (q3, .inl (cA, 6, .inl (fun _ => 0)))] H := hP
  have hD : va_D A [(h0, .inr (0, [.ref q1, .ref q2, .ref v0, .ref r0, .ref o0, .null, .int 0, .int 0, .int 0, .int 0, .int 0, .int 0, .int 0])), (q1, .inl (cA, 4, .inl (fun _ => 0))), (q2, .inl (cA, 3, .inl (fun _ => 0))), (v0, .inr (5, [.ref v1])), (v1, .inr (4, [.int (nI 3), .int (nI 160), .ref v2, .int (nI 0)])), (v2, .inl (cA, (3 * 160), .inl (fun _ => 0))), (r0, .inr (3, [.ref r1])), (r1, .inr (4, [.int (nI 12), .int (nI 96), .ref r2, .int (nI 0)])), (r2, .inl (cA, (12 * 96), .inl (fun _ => 0))), (o0, .inr (2, [.ref o1, .int 0, .int 0])), (o1, .inr (4, [.int (nI 11), .int (nI 192), .ref o2, .int (nI 0)])), (o2, .inl (cA, (11 * 192), .inl (fun _ => 0))), (q3, .inl (cA, 6, .inl (fun _ => 0)))] := hD
  refine W.widen (k := 12) (n := 3774) (by first | exact Nat.le_of_ble_eq_true rfl | omega) (by first | exact Nat.le_of_ble_eq_true rfl | exact Nat.le_of_eq (Nat.zero_add _) | omega) ?_
  refine va_putF (D := (dC, dI)) (ci := 0) (v := .ref q3) (ty := (.array .int)) (C := qR_X) (T := qT_X) (N := 13) hx hb hts qin_X qty_X qtyok_X qnm_X hown hK hP hD hS 0 rfl rfl 5 (by decide) (hts _ mw_121) (fun _ h9 => h9) rfl hin rfl (by decide +kernel) rfl rfl (Nat.le_of_ble_eq_true rfl) qd_X_init_56 (fun H locs hP hD hS => ?_)
  have hP : va_P (dC, dI) vwCl [(h0, .inr (0, [.ref q1, .ref q2, .ref v0, .ref r0, .ref o0, .ref q3, .int 0, .int 0, .int 0, .int 0, .int 0, .int 0, .int 0])), (q1, .inl (cA, 4, .inl (fun _ => 0))), (q2, .inl (cA, 3, .inl (fun _ => 0))), (v0, .inr (5, [.ref v1])), (v1, .inr (4, [.int (nI 3), .int (nI 160), .ref v2, .int (nI 0)])), (v2, .inl (cA, (3 * 160), .inl (fun _ => 0))), (r0, .inr (3, [.ref r1])), (r1, .inr (4, [.int (nI 12), .int (nI 96), .ref r2, .int (nI 0)])), (r2, .inl (cA, (12 * 96), .inl (fun _ => 0))), (o0, .inr (2, [.ref o1, .int 0, .int 0])), (o1, .inr (4, [.int (nI 11), .int (nI 192), .ref o2, .int (nI 0)])), (o2, .inl (cA, (11 * 192), .inl (fun _ => 0))), (q3, .inl (cA, 6, .inl (fun _ => 0)))] H := hP
  have hD : va_D A [(h0, .inr (0, [.ref q1, .ref q2, .ref v0, .ref r0, .ref o0, .ref q3, .int 0, .int 0, .int 0, .int 0, .int 0, .int 0, .int 0])), (q1, .inl (cA, 4, .inl (fun _ => 0))), (q2, .inl (cA, 3, .inl (fun _ => 0))), (v0, .inr (5, [.ref v1])), (v1, .inr (4, [.int (nI 3), .int (nI 160), .ref v2, .int (nI 0)])), (v2, .inl (cA, (3 * 160), .inl (fun _ => 0))), (r0, .inr (3, [.ref r1])), (r1, .inr (4, [.int (nI 12), .int (nI 96), .ref r2, .int (nI 0)])), (r2, .inl (cA, (12 * 96), .inl (fun _ => 0))), (o0, .inr (2, [.ref o1, .int 0, .int 0])), (o1, .inr (4, [.int (nI 11), .int (nI 192), .ref o2, .int (nI 0)])), (o2, .inl (cA, (11 * 192), .inl (fun _ => 0))), (q3, .inl (cA, 6, .inl (fun _ => 0)))] := hD
  have hP : va_P (dC, dI) vwCl (wX (ad13 h0 q1 q2 q3 v0 v1 v2 r0 r1 r2 o0 o1 o2) cA (fun _ => 0) (fun _ => 0) (fun _ => 0) (fun _ => 0) 0 0 0 (fun _ => 0) 0 (fun _ => 0) 0 (fun _ => 0)) H := mk_Psub hP [0, 1, 2, 12, 3, 4, 5, 6, 7, 8, 9, 10, 11] rfl
  have hD : va_D A (wX (ad13 h0 q1 q2 q3 v0 v1 v2 r0 r1 r2 o0 o1 o2) cA (fun _ => 0) (fun _ => 0) (fun _ => 0) (fun _ => 0) 0 0 0 (fun _ => 0) 0 (fun _ => 0) 0 (fun _ => 0)) := hD.sub [0, 1, 2, 12, 3, 4, 5, 6, 7, 8, 9, 10, 11] (by decide) rfl
  exact mk_mvret (ad13 h0 q1 q2 q3 v0 v1 v2 r0 r1 r2 o0 o1 o2) hx hb hr hlocks hP hK hD hS qd_X_init_59 rfl
