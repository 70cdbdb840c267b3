set_option maxHeartbeats 4000000 in
set_option maxRecDepth 100000 in
/-- out: that it answers; what, where nothing is there -/
theorem c_M_out (l : Launch) (dC : Nat → ClassId) (dI : Nat → Nat → Nat) (cA : ClassId) (sz : Nat) (cB : ClassId) (b : Nat → Nat) (y ma ve rw jn ou fo go : Nat → Int32) (hok : mi_ok y ve rw) (i wh : Int32) : Met l qy_M_out qw_M_out ({ frames := 1, cells := 0, slots := 0, locals := 30 }) (mk_mu [.ref (b 0), .int i, .int wh] sz (dC, dI) vwCl [(cA, .int), (cB, .boolean)] (wM b cA cB y ma ve rw jn ou fo go)) (mk_muQ (S := Nat → Int32) (fun r u => u = upd y 0 0 ∧ (mo_out0 y i r)) (fun u => (wM b cA cB u ma ve rw jn ou fo go)) (dC, dI) vwCl [(cA, .int), (cB, .boolean)] (va_A (wM b cA cB y ma ve rw jn ou fo go) sz)) 0 0 (va_A (wM b cA cB y ma ve rw jn ou fo go) sz) := by
  refine Met.ofW (cc := qb_M_out) (maxL := 3) (ret := (some .int)) (by decide) rfl ?_
  intro p e s m args below meth c s₁ B hml hpre
  obtain ⟨rfl, hsz, hP, hK, hD0⟩ := hpre
  have hx := B.exec
  have hb := B.bytes
  have hr := B.returns
  have hts0 := atoms_spec (ws := qw_M_out) B.pre
  have hts := fun w (h : w ∈ lw_gd) => hts0 w (List.mem_cons_of_mem _ h)
  have hown : s.vm.findClass qR_M = some m.cls := findClass_of_methodNamed B.named
  have hlocks := B.notSynchronized
  subst hsz
  have hD := hD0.self (sz := s.heap.size)
  generalize hAe : va_A (wM b cA cB y ma ve rw jn ou fo go) s.heap.size = A at hD ⊢
  have hA : ∀ q : Nat, s.heap.size ≤ q → A q := fun q h => by rw [← hAe]; exact Or.inr h
  have hS : va_S A s.heap s.heap [] := va_S.rf
  have hl := lv_entry ([.ref (b 0), .int i, .int wh]) (n := 3) (Nat.le_of_ble_eq_true rfl)
  rw [lg_entry_eq]
  generalize (lg_sl ([.ref (b 0), .int i, .int wh]) ++ List.replicate (3 - (lg_sl ([.ref (b 0), .int i, .int wh])).length) Slot.unset).toArray = ls at hl ⊢
  have hl : lv_has ls 3 [(0, .ref (b 0)), (1, .int i), (2, .int wh)] := hl
  have hP : va_P (dC, dI) vwCl (wM b cA cB y ma ve rw jn ou fo go) s.heap := hP
  refine mk_start (A := A) hP (fun H locs hP hS => ?_)
  obtain ⟨nt, nv, nr, no, c, hnt, ht3, hnv, hv, hnr, hr96, hno, hno2, hcm, hc3, hinc, hlc, hap, hbg⟩ := hok
  refine lv_aload_n hx hb qd_M_out_0 rfl (lv_at hl 0 rfl) ?_
  refine lv_iconst (v := 0) hx hb qd_M_out_1 (by decide) ?_
  refine va_put (D := (dC, dI)) (ci := 1) (v := .int 0) (ty := .int) (C := qR_M) (T := qT_M) (N := 24) hx hb hts qin_M qty_M qtyok_M qnm_M hown hK hP hD hS 0 rfl rfl 0 (by decide) (hts _ mw_402) (fun _ h9 => h9) rfl (by decide +kernel) rfl rfl (Nat.le_of_ble_eq_true rfl) qd_M_out_2 (fun H locs hP hD hS => ?_)
  have hP : va_P (dC, dI) vwCl (wM b cA cB (upd y 0 0) ma ve rw jn ou fo go) H := hP
  have hD : va_D A (wM b cA cB (upd y 0 0) ma ve rw jn ou fo go) := hD
  refine lv_iload_n hx hb qd_M_out_5 rfl (lv_at hl 1 rfl) ?_
  refine lv_iconst (v := (-1)) hx hb qd_M_out_6 (by decide) ?_
  refine lv_icmp_ne (tgt := 15) hx hb qd_M_out_7 (by decide) (fun c_1 => ?_) (fun c_1 => ?_)
  · refine lv_iload_n hx hb qd_M_out_15 rfl (lv_at hl 1 rfl) ?_
    refine lv_i2l (v := Int32.toInt64 i) hx hb qd_M_out_16 rfl ?_
    refine lv_lconst (v := 0) hx hb qd_M_out_17 (by decide) ?_
    refine lv_aload_n hx hb qd_M_out_18 rfl (lv_at hl 0 rfl) ?_
    refine va_get (D := (dC, dI)) (ci := 1) (v := .int (y 21)) (C := qR_M) (T := qT_M) (N := 24) hx hb hts qin_M hown hK hP 0 rfl rfl 21 (by decide) (hts _ mw_423) (fun _ h9 => h9) rfl qd_M_out_19 ?_
    refine lv_iconst (v := 1) hx hb qd_M_out_22 (by decide) ?_
    refine lv_isub hx hb qd_M_out_23 ?_
    refine lv_i2l (v := Int32.toInt64 ((y 21) - 1)) hx hb qd_M_out_24 rfl ?_
    refine mk_calli (va_runS (As := [.long (Int32.toInt64 i), .long 0, .long (Int32.toInt64 ((y 21) - 1))]) (rest := []) ⟨hx, hb, hml, hown, hts⟩ (c_M_in l dC dI cA H.size cB (Int32.toInt64 i) 0 (Int32.toInt64 ((y 21) - 1))) (va_cwS 3 hts gc_M_51 rfl rfl rfl (by decide +kernel) ⟨Nat.le_of_ble_eq_true rfl, Nat.le_of_ble_eq_true rfl⟩) (mk_roS hP [] rfl hK) rfl rfl hl.1 rfl (lv_room (Nat.le_of_ble_eq_true rfl)) qd_M_out_25 ⟨(Nat.zero_le _), (Nat.zero_le _)⟩) hS hA hP (fun r_2 H locs hr_2 hP hS => ?_)
    obtain rfl : r_2 = mi_b (Int32.toInt64 i) 0 (Int32.toInt64 ((y 21) - 1)) := hr_2
    refine lv_if_eq (tgt := 63) hx hb qd_M_out_28 (by decide) (fun c_3 => ?_) (fun c_3 => ?_)
    · refine lv_iconst (v := (-1)) hx hb qd_M_out_63 (by decide) ?_
      exact mk_miret (upd y 0 0) hx hb hr hlocks hP hK hD hS qd_M_out_64 ⟨rfl, fun _ => Or.inr ⟨c_1, rfl⟩⟩
    · refine lv_iload_n hx hb qd_M_out_31 rfl (lv_at hl 2 rfl) ?_
      refine lv_i2l (v := Int32.toInt64 wh) hx hb qd_M_out_32 rfl ?_
      refine lv_lconst (v := 0) hx hb qd_M_out_33 (by decide) ?_
      refine lv_iconst (v := 4) hx hb qd_M_out_34 (by decide) ?_
      refine lv_iconst (v := 2) hx hb qd_M_out_35 (by decide) ?_
      refine lv_aload_n hx hb qd_M_out_36 rfl (lv_at hl 0 rfl) ?_
      refine va_get (D := (dC, dI)) (ci := 1) (v := .int (y 1)) (C := qR_M) (T := qT_M) (N := 24) hx hb hts qin_M hown hK hP 0 rfl rfl 1 (by decide) (hts _ mw_403) (fun _ h9 => h9) rfl qd_M_out_37 ?_
      refine lv_imul hx hb qd_M_out_40 ?_
      refine lv_iadd hx hb qd_M_out_41 ?_
      refine lv_i2l (v := Int32.toInt64 (4 + (2 * (y 1)))) hx hb qd_M_out_42 rfl ?_
      refine mk_calli (va_runS (As := [.long (Int32.toInt64 wh), .long 0, .long (Int32.toInt64 (4 + (2 * (y 1))))]) (rest := []) ⟨hx, hb, hml, hown, hts⟩ (c_M_in l dC dI cA H.size cB (Int32.toInt64 wh) 0 (Int32.toInt64 (4 + (2 * (y 1))))) (va_cwS 3 hts gc_M_51 rfl rfl rfl (by decide +kernel) ⟨Nat.le_of_ble_eq_true rfl, Nat.le_of_ble_eq_true rfl⟩) (mk_roS hP [] rfl hK) rfl rfl hl.1 rfl (lv_room (Nat.le_of_ble_eq_true rfl)) qd_M_out_43 ⟨(Nat.zero_le _), (Nat.zero_le _)⟩) hS hA hP (fun r_4 H locs hr_4 hP hS => ?_)
      obtain rfl : r_4 = mi_b (Int32.toInt64 wh) 0 (Int32.toInt64 (4 + (2 * (y 1)))) := hr_4
      refine lv_if_eq (tgt := 63) hx hb qd_M_out_46 (by decide) (fun c_5 => ?_) (fun c_5 => ?_)
      · refine lv_iconst (v := (-1)) hx hb qd_M_out_63 (by decide) ?_
        exact mk_miret (upd y 0 0) hx hb hr hlocks hP hK hD hS qd_M_out_64 ⟨rfl, fun _ => Or.inr ⟨c_1, rfl⟩⟩
      · obtain ⟨i9, hi9, ei⟩ := mi_nat1 c_3 hno (by omega)
        obtain ⟨w9, hw9, ew⟩ := mi_natw (n := 4 + 2 * nt) c_5 (by first | (rw [hnt, show (2 : Int32) = nI 2 from rfl, pk_mul, show (4 : Int32) = nI 4 from rfl, nI_add]) | (rw [show (upd y 0 0) 1 = nI nt from hnt, show (2 : Int32) = nI 2 from rfl, pk_mul, show (4 : Int32) = nI 4 from rfl, nI_add])) (by omega)
        refine lv_aload_n hx hb qd_M_out_49 rfl (lv_at hl 0 rfl) ?_
        refine va_get (D := (dC, dI)) (ci := 1) (v := .ref (b 5)) (C := qR_M) (T := qT_M) (N := 24) hx hb hts qin_M hown hK hP 0 rfl rfl 20 (by decide) (hts _ mw_422) (fun _ h9 => h9) rfl qd_M_out_50 ?_
        refine lv_bipush (v := 11) hx hb qd_M_out_53 (by decide) ?_
        refine lv_iload_n hx hb qd_M_out_55 rfl (lv_at hl 1 rfl) ?_
        refine mk_rw (y := nI i9) (ei) ?_
        refine lv_imul hx hb qd_M_out_56 ?_
        refine lv_iload_n hx hb qd_M_out_57 rfl (lv_at hl 2 rfl) ?_
        refine mk_rw (y := nI w9) (ew) ?_
        refine lv_iadd hx hb qd_M_out_58 ?_
        refine mk_rw (y := nI ((11 * i9) + w9)) (by show ((nI 11) * (nI i9)) + (nI w9) = _; simp only [pk_mul, nI_add]) ?_
        refine va_iald (i := (nI ((11 * i9) + w9))) hx hb hK hP 5 0 rfl rfl (vp_in_nI (by omega) (by omega)) qd_M_out_59 ?_
        refine mk_rw (y := ou ((11 * i9) + w9)) (congrArg _ (nI_clamp (by omega))) ?_
        refine lv_goto (tgt := 64) hx hb qd_M_out_60 (by decide) ?_
        exact mk_miret (upd y 0 0) hx hb hr hlocks hP hK hD hS qd_M_out_64 ⟨rfl, fun h0 => absurd hi9 (by have := nI_z (by omega) (hno.symm.trans h0); omega)⟩
  · refine lv_aload_n hx hb qd_M_out_10 rfl (lv_at hl 0 rfl) ?_
    refine va_get (D := (dC, dI)) (ci := 1) (v := .int (y 21)) (C := qR_M) (T := qT_M) (N := 24) hx hb hts qin_M hown hK hP 0 rfl rfl 21 (by decide) (hts _ mw_423) (fun _ h9 => h9) rfl qd_M_out_11 ?_
    exact mk_miret (upd y 0 0) hx hb hr hlocks hP hK hD hS qd_M_out_14 ⟨rfl, fun h0 => Or.inl ⟨c_1, h0⟩⟩
set_option maxHeartbeats 4000000 in
set_option maxRecDepth 100000 in
/-- asOf: that it answers; what, where nothing is there -/
theorem c_M_asOf (l : Launch) (dC : Nat → ClassId) (dI : Nat → Nat → Nat) (cA : ClassId) (sz : Nat) (cB : ClassId) (b : Nat → Nat) (y ma ve rw jn ou fo go : Nat → Int32) (hok : mi_ok y ve rw) (t ky tm : Int32) : Met l qy_M_asOf qw_M_asOf ({ frames := 2, cells := 0, slots := 0, locals := 60 }) (mk_mu [.ref (b 0), .int t, .int ky, .int tm] sz (dC, dI) vwCl [(cA, .int), (cB, .boolean)] (wM b cA cB y ma ve rw jn ou fo go)) (mk_muQ (S := Nat → Int32) (fun r u => u = upd y 0 0 ∧ (mo_asOf0 y t ky tm r)) (fun u => (wM b cA cB u ma ve rw jn ou fo go)) (dC, dI) vwCl [(cA, .int), (cB, .boolean)] (va_A (wM b cA cB y ma ve rw jn ou fo go) sz)) 0 0 (va_A (wM b cA cB y ma ve rw jn ou fo go) sz) := by
  refine Met.ofW (cc := qb_M_asOf) (maxL := 5) (ret := (some .int)) (by decide) rfl ?_
  intro p e s m args below meth c s₁ B hml hpre
  obtain ⟨rfl, hsz, hP, hK, hD0⟩ := hpre
  have hx := B.exec
  have hb := B.bytes
  have hr := B.returns
  have hts0 := atoms_spec (ws := qw_M_asOf) B.pre
  have hts := fun w (h : w ∈ lw_gd) => hts0 w (List.mem_cons_of_mem _ h)
  have hown : s.vm.findClass qR_M = some m.cls := findClass_of_methodNamed B.named
  have hlocks := B.notSynchronized
  subst hsz
  have hD := hD0.self (sz := s.heap.size)
  generalize hAe : va_A (wM b cA cB y ma ve rw jn ou fo go) s.heap.size = A at hD ⊢
  have hA : ∀ q : Nat, s.heap.size ≤ q → A q := fun q h => by rw [← hAe]; exact Or.inr h
  have hS : va_S A s.heap s.heap [] := va_S.rf
  have hl := lv_entry ([.ref (b 0), .int t, .int ky, .int tm]) (n := 5) (Nat.le_of_ble_eq_true rfl)
  rw [lg_entry_eq]
  generalize (lg_sl ([.ref (b 0), .int t, .int ky, .int tm]) ++ List.replicate (5 - (lg_sl ([.ref (b 0), .int t, .int ky, .int tm])).length) Slot.unset).toArray = ls at hl ⊢
  have hl : lv_has ls 5 [(0, .ref (b 0)), (1, .int t), (2, .int ky), (3, .int tm)] := hl
  have hP : va_P (dC, dI) vwCl (wM b cA cB y ma ve rw jn ou fo go) s.heap := hP
  refine mk_start (A := A) hP (fun H locs hP hS => ?_)
  obtain ⟨nt, nv, nr, no, c, hnt, ht3, hnv, hv, hnr, hr96, hno, hno2, hcm, hc3, hinc, hlc, hap, hbg⟩ := hok
  refine lv_aload_n hx hb qd_M_asOf_0 rfl (lv_at hl 0 rfl) ?_
  refine lv_iconst (v := 0) hx hb qd_M_asOf_1 (by decide) ?_
  refine va_put (D := (dC, dI)) (ci := 1) (v := .int 0) (ty := .int) (C := qR_M) (T := qT_M) (N := 24) hx hb hts qin_M qty_M qtyok_M qnm_M hown hK hP hD hS 0 rfl rfl 0 (by decide) (hts _ mw_402) (fun _ h9 => h9) rfl (by decide +kernel) rfl rfl (Nat.le_of_ble_eq_true rfl) qd_M_asOf_2 (fun H locs hP hD hS => ?_)
  have hP : va_P (dC, dI) vwCl (wM b cA cB (upd y 0 0) ma ve rw jn ou fo go) H := hP
  have hD : va_D A (wM b cA cB (upd y 0 0) ma ve rw jn ou fo go) := hD
  refine lv_iload_n hx hb qd_M_asOf_5 rfl (lv_at hl 1 rfl) ?_
  refine lv_i2l (v := Int32.toInt64 t) hx hb qd_M_asOf_6 rfl ?_
  refine lv_lconst (v := 0) hx hb qd_M_asOf_7 (by decide) ?_
  refine lv_aload_n hx hb qd_M_asOf_8 rfl (lv_at hl 0 rfl) ?_
  refine va_get (D := (dC, dI)) (ci := 1) (v := .int (y 1)) (C := qR_M) (T := qT_M) (N := 24) hx hb hts qin_M hown hK hP 0 rfl rfl 1 (by decide) (hts _ mw_403) (fun _ h9 => h9) rfl qd_M_asOf_9 ?_
  refine lv_iconst (v := 1) hx hb qd_M_asOf_12 (by decide) ?_
  refine lv_isub hx hb qd_M_asOf_13 ?_
  refine lv_i2l (v := Int32.toInt64 ((y 1) - 1)) hx hb qd_M_asOf_14 rfl ?_
  refine mk_calli (va_runS (As := [.long (Int32.toInt64 t), .long 0, .long (Int32.toInt64 ((y 1) - 1))]) (rest := []) ⟨hx, hb, hml, hown, hts⟩ (c_M_in l dC dI cA H.size cB (Int32.toInt64 t) 0 (Int32.toInt64 ((y 1) - 1))) (va_cwS 3 hts gc_M_51 rfl rfl rfl (by decide +kernel) ⟨Nat.le_of_ble_eq_true rfl, Nat.le_of_ble_eq_true rfl⟩) (mk_roS hP [] rfl hK) rfl rfl hl.1 rfl (lv_room (Nat.le_of_ble_eq_true rfl)) qd_M_asOf_15 ⟨(Nat.zero_le _), (Nat.zero_le _)⟩) hS hA hP (fun r_1 H locs hr_1 hP hS => ?_)
  obtain rfl : r_1 = mi_b (Int32.toInt64 t) 0 (Int32.toInt64 ((y 1) - 1)) := hr_1
  refine lv_if_eq (tgt := 45) hx hb qd_M_asOf_18 (by decide) (fun c_2 => ?_) (fun c_2 => ?_)
  · refine lv_iconst (v := (-1)) hx hb qd_M_asOf_45 (by decide) ?_
    exact mk_miret (upd y 0 0) hx hb hr hlocks hP hK hD hS qd_M_asOf_46 ⟨rfl, fun _ => Or.inl ⟨Or.inl c_2, rfl⟩⟩
  · refine lv_iload_n hx hb qd_M_asOf_21 rfl (lv_at hl 2 rfl) ?_
    refine lv_i2l (v := Int32.toInt64 ky) hx hb qd_M_asOf_22 rfl ?_
    refine lv_lconst (v := 0) hx hb qd_M_asOf_23 (by decide) ?_
    refine lv_ldc2 (v := 15) hx hb hown (hts _ mw_493) qd_M_asOf_24 ?_
    refine mk_calli (va_runS (As := [.long (Int32.toInt64 ky), .long 0, .long 15]) (rest := []) ⟨hx, hb, hml, hown, hts⟩ (c_M_in l dC dI cA H.size cB (Int32.toInt64 ky) 0 15) (va_cwS 3 hts gc_M_51 rfl rfl rfl (by decide +kernel) ⟨Nat.le_of_ble_eq_true rfl, Nat.le_of_ble_eq_true rfl⟩) (mk_roS hP [] rfl hK) rfl rfl hl.1 rfl (lv_room (Nat.le_of_ble_eq_true rfl)) qd_M_asOf_27 ⟨(Nat.zero_le _), (Nat.zero_le _)⟩) hS hA hP (fun r_3 H locs hr_3 hP hS => ?_)
    obtain rfl : r_3 = mi_b (Int32.toInt64 ky) 0 15 := hr_3
    refine lv_if_eq (tgt := 45) hx hb qd_M_asOf_30 (by decide) (fun c_4 => ?_) (fun c_4 => ?_)
    · refine lv_iconst (v := (-1)) hx hb qd_M_asOf_45 (by decide) ?_
      exact mk_miret (upd y 0 0) hx hb hr hlocks hP hK hD hS qd_M_asOf_46 ⟨rfl, fun _ => Or.inl ⟨Or.inr (Or.inl c_4), rfl⟩⟩
    · refine lv_iload_n hx hb qd_M_asOf_33 rfl (lv_at hl 3 rfl) ?_
      refine lv_i2l (v := Int32.toInt64 tm) hx hb qd_M_asOf_34 rfl ?_
      refine lv_lconst (v := 1) hx hb qd_M_asOf_35 (by decide) ?_
      refine lv_ldc2 (v := 100000) hx hb hown (hts _ mw_494) qd_M_asOf_36 ?_
      refine mk_calli (va_runS (As := [.long (Int32.toInt64 tm), .long 1, .long 100000]) (rest := []) ⟨hx, hb, hml, hown, hts⟩ (c_M_in l dC dI cA H.size cB (Int32.toInt64 tm) 1 100000) (va_cwS 3 hts gc_M_51 rfl rfl rfl (by decide +kernel) ⟨Nat.le_of_ble_eq_true rfl, Nat.le_of_ble_eq_true rfl⟩) (mk_roS hP [] rfl hK) rfl rfl hl.1 rfl (lv_room (Nat.le_of_ble_eq_true rfl)) qd_M_asOf_39 ⟨(Nat.zero_le _), (Nat.zero_le _)⟩) hS hA hP (fun r_5 H locs hr_5 hP hS => ?_)
      obtain rfl : r_5 = mi_b (Int32.toInt64 tm) 1 100000 := hr_5
      refine lv_if_ne (tgt := 47) hx hb qd_M_asOf_42 (by decide) (fun c_6 => ?_) (fun c_6 => ?_)
      · refine lv_aload_n hx hb qd_M_asOf_47 rfl (lv_at hl 0 rfl) ?_
        refine lv_iload_n hx hb qd_M_asOf_48 rfl (lv_at hl 1 rfl) ?_
        refine lv_iload_n hx hb qd_M_asOf_49 rfl (lv_at hl 2 rfl) ?_
        refine lv_iload_n hx hb qd_M_asOf_50 rfl (lv_at hl 3 rfl) ?_
        refine mk_calli (va_runV (As := [.int t, .int ky, .int tm]) (rest := []) ⟨hx, hb, hml, hown, hts⟩ (c_M_latest l dC dI cA H.size cB b (upd y 0 0) ma ve rw jn ou fo go nv hnv hv t ky tm) (cwV 3 hts gc_M_77 rfl rfl rfl (by decide +kernel) ⟨Nat.le_of_ble_eq_true rfl, Nat.le_of_ble_eq_true rfl⟩) (mk_roV hP [0, 1, 2, 3, 4, 5, 6, 7] rfl hK (va_recv hK hP (ci := 1) (q0 := 0) rfl rfl)) rfl rfl hl.1 rfl (lv_room (Nat.le_of_ble_eq_true rfl)) qd_M_asOf_51 ⟨(Nat.zero_le _), (Nat.zero_le _)⟩) hS hA hP (fun r_7 H locs hr_7 hP hS => ?_)
        have hr_7 : r_7 = -2 ∨ ∃ i, i < nv ∧ r_7 = nI i := hr_7
        refine lv_istore (lv' := [(4, .int r_7), (0, .ref (b 0)), (1, .int t), (2, .int ky), (3, .int tm)]) hx hb qd_M_asOf_54 hl (by decide) rfl (fun ls hl => ?_)
        refine lv_iload hx hb qd_M_asOf_56 (lv_at hl 0 rfl) ?_
        refine lv_if_lt (tgt := 75) hx hb qd_M_asOf_58 (by decide) (fun c_8 => ?_) (fun c_8 => ?_)
        · refine lv_bipush (v := (-2)) hx hb qd_M_asOf_75 (by decide) ?_
          refine lv_goto (tgt := 91) hx hb qd_M_asOf_77 (by decide) ?_
          exact mk_miret (upd y 0 0) hx hb hr hlocks hP hK hD hS qd_M_asOf_91 ⟨rfl, fun _ => Or.inr ⟨fun q => q.elim c_2 (fun q => q.elim c_4 c_6), rfl⟩⟩
        · obtain ⟨i9, hi9, ei⟩ := hr_7.resolve_left (fun q => c_8 (by rw [q]; decide))
          refine lv_aload_n hx hb qd_M_asOf_61 rfl (lv_at hl 1 rfl) ?_
          refine va_get (D := (dC, dI)) (ci := 1) (v := .ref (b 2)) (C := qR_M) (T := qT_M) (N := 24) hx hb hts qin_M hown hK hP 0 rfl rfl 9 (by decide) (hts _ mw_411) (fun _ h9 => h9) rfl qd_M_asOf_62 ?_
          refine lv_iconst (v := 4) hx hb qd_M_asOf_65 (by decide) ?_
          refine lv_iload hx hb qd_M_asOf_66 (lv_at hl 0 rfl) ?_
          refine mk_rw (y := nI i9) (ei) ?_
          refine lv_imul hx hb qd_M_asOf_68 ?_
          refine lv_iconst (v := 3) hx hb qd_M_asOf_69 (by decide) ?_
          refine lv_iadd hx hb qd_M_asOf_70 ?_
          refine mk_rw (y := nI ((4 * i9) + 3)) (by show ((nI 4) * (nI i9)) + (nI 3) = _; simp only [pk_mul, nI_add]) ?_
          refine va_iald (i := (nI ((4 * i9) + 3))) hx hb hK hP 2 0 rfl rfl (vp_in_nI (by omega) (by omega)) qd_M_asOf_71 ?_
          refine mk_rw (y := ve ((4 * i9) + 3)) (congrArg _ (nI_clamp (by omega))) ?_
          refine lv_if_ge (tgt := 80) hx hb qd_M_asOf_72 (by decide) (fun c_9 => ?_) (fun c_9 => ?_)
          · refine lv_aload_n hx hb qd_M_asOf_80 rfl (lv_at hl 1 rfl) ?_
            refine va_get (D := (dC, dI)) (ci := 1) (v := .ref (b 2)) (C := qR_M) (T := qT_M) (N := 24) hx hb hts qin_M hown hK hP 0 rfl rfl 9 (by decide) (hts _ mw_411) (fun _ h9 => h9) rfl qd_M_asOf_81 ?_
            refine lv_iconst (v := 4) hx hb qd_M_asOf_84 (by decide) ?_
            refine lv_iload hx hb qd_M_asOf_85 (lv_at hl 0 rfl) ?_
            refine mk_rw (y := nI i9) (ei) ?_
            refine lv_imul hx hb qd_M_asOf_87 ?_
            refine lv_iconst (v := 3) hx hb qd_M_asOf_88 (by decide) ?_
            refine lv_iadd hx hb qd_M_asOf_89 ?_
            refine mk_rw (y := nI ((4 * i9) + 3)) (by show ((nI 4) * (nI i9)) + (nI 3) = _; simp only [pk_mul, nI_add]) ?_
            refine va_iald (i := (nI ((4 * i9) + 3))) hx hb hK hP 2 0 rfl rfl (vp_in_nI (by omega) (by omega)) qd_M_asOf_90 ?_
            refine mk_rw (y := ve ((4 * i9) + 3)) (congrArg _ (nI_clamp (by omega))) ?_
            exact mk_miret (upd y 0 0) hx hb hr hlocks hP hK hD hS qd_M_asOf_91 ⟨rfl, fun h0 => absurd hi9 (by have := nI_z (by omega) (hnv.symm.trans h0); omega)⟩
          · refine lv_bipush (v := (-2)) hx hb qd_M_asOf_75 (by decide) ?_
            refine lv_goto (tgt := 91) hx hb qd_M_asOf_77 (by decide) ?_
            exact mk_miret (upd y 0 0) hx hb hr hlocks hP hK hD hS qd_M_asOf_91 ⟨rfl, fun _ => Or.inr ⟨fun q => q.elim c_2 (fun q => q.elim c_4 c_6), rfl⟩⟩
      · refine lv_iconst (v := (-1)) hx hb qd_M_asOf_45 (by decide) ?_
        exact mk_miret (upd y 0 0) hx hb hr hlocks hP hK hD hS qd_M_asOf_46 ⟨rfl, fun _ => Or.inl ⟨Or.inr (Or.inr c_6), rfl⟩⟩
set_option maxHeartbeats 4000000 in
set_option maxRecDepth 100000 in
/-- version: that it answers; what, where nothing is there -/
theorem c_M_version (l : Launch) (dC : Nat → ClassId) (dI : Nat → Nat → Nat) (cA : ClassId) (sz : Nat) (cB : ClassId) (b : Nat → Nat) (y ma ve rw jn ou fo go : Nat → Int32) (hok : mi_ok y ve rw) (t ky i wh : Int32) : Met l qy_M_version qw_M_version ({ frames := 2, cells := 0, slots := 0, locals := 60 }) (mk_mu [.ref (b 0), .int t, .int ky, .int i, .int wh] sz (dC, dI) vwCl [(cA, .int), (cB, .boolean)] (wM b cA cB y ma ve rw jn ou fo go)) (mk_muQ (S := Nat → Int32) (fun r u => u = upd y 0 0 ∧ (y 10 = 0 → r = -1)) (fun u => (wM b cA cB u ma ve rw jn ou fo go)) (dC, dI) vwCl [(cA, .int), (cB, .boolean)] (va_A (wM b cA cB y ma ve rw jn ou fo go) sz)) 0 0 (va_A (wM b cA cB y ma ve rw jn ou fo go) sz) := by
  refine Met.ofW (cc := qb_M_version) (maxL := 5) (ret := (some .int)) (by decide) rfl ?_
  intro p e s m args below meth c s₁ B hml hpre
  obtain ⟨rfl, hsz, hP, hK, hD0⟩ := hpre
  have hx := B.exec
  have hb := B.bytes
  have hr := B.returns
  have hts0 := atoms_spec (ws := qw_M_version) B.pre
  have hts := fun w (h : w ∈ lw_gd) => hts0 w (List.mem_cons_of_mem _ h)
  have hown : s.vm.findClass qR_M = some m.cls := findClass_of_methodNamed B.named
  have hlocks := B.notSynchronized
  subst hsz
  have hD := hD0.self (sz := s.heap.size)
  generalize hAe : va_A (wM b cA cB y ma ve rw jn ou fo go) s.heap.size = A at hD ⊢
  have hA : ∀ q : Nat, s.heap.size ≤ q → A q := fun q h => by rw [← hAe]; exact Or.inr h
  have hS : va_S A s.heap s.heap [] := va_S.rf
  have hl := lv_entry ([.ref (b 0), .int t, .int ky, .int i, .int wh]) (n := 5) (Nat.le_of_ble_eq_true rfl)
  rw [lg_entry_eq]
  generalize (lg_sl ([.ref (b 0), .int t, .int ky, .int i, .int wh]) ++ List.replicate (5 - (lg_sl ([.ref (b 0), .int t, .int ky, .int i, .int wh])).length) Slot.unset).toArray = ls at hl ⊢
  have hl : lv_has ls 5 [(0, .ref (b 0)), (1, .int t), (2, .int ky), (3, .int i), (4, .int wh)] := hl
  have hP : va_P (dC, dI) vwCl (wM b cA cB y ma ve rw jn ou fo go) s.heap := hP
  refine mk_start (A := A) hP (fun H locs hP hS => ?_)
  obtain ⟨nt, nv, nr, no, c, hnt, ht3, hnv, hv, hnr, hr96, hno, hno2, hcm, hc3, hinc, hlc, hap, hbg⟩ := hok
  refine lv_aload_n hx hb qd_M_version_0 rfl (lv_at hl 0 rfl) ?_
  refine lv_iconst (v := 0) hx hb qd_M_version_1 (by decide) ?_
  refine va_put (D := (dC, dI)) (ci := 1) (v := .int 0) (ty := .int) (C := qR_M) (T := qT_M) (N := 24) hx hb hts qin_M qty_M qtyok_M qnm_M hown hK hP hD hS 0 rfl rfl 0 (by decide) (hts _ mw_402) (fun _ h9 => h9) rfl (by decide +kernel) rfl rfl (Nat.le_of_ble_eq_true rfl) qd_M_version_2 (fun H locs hP hD hS => ?_)
  have hP : va_P (dC, dI) vwCl (wM b cA cB (upd y 0 0) ma ve rw jn ou fo go) H := hP
  have hD : va_D A (wM b cA cB (upd y 0 0) ma ve rw jn ou fo go) := hD
  refine lv_iload_n hx hb qd_M_version_5 rfl (lv_at hl 1 rfl) ?_
  refine lv_i2l (v := Int32.toInt64 t) hx hb qd_M_version_6 rfl ?_
  refine lv_lconst (v := 0) hx hb qd_M_version_7 (by decide) ?_
  refine lv_aload_n hx hb qd_M_version_8 rfl (lv_at hl 0 rfl) ?_
  refine va_get (D := (dC, dI)) (ci := 1) (v := .int (y 1)) (C := qR_M) (T := qT_M) (N := 24) hx hb hts qin_M hown hK hP 0 rfl rfl 1 (by decide) (hts _ mw_403) (fun _ h9 => h9) rfl qd_M_version_9 ?_
  refine lv_iconst (v := 1) hx hb qd_M_version_12 (by decide) ?_
  refine lv_isub hx hb qd_M_version_13 ?_
  refine lv_i2l (v := Int32.toInt64 ((y 1) - 1)) hx hb qd_M_version_14 rfl ?_
  refine mk_calli (va_runS (As := [.long (Int32.toInt64 t), .long 0, .long (Int32.toInt64 ((y 1) - 1))]) (rest := []) ⟨hx, hb, hml, hown, hts⟩ (c_M_in l dC dI cA H.size cB (Int32.toInt64 t) 0 (Int32.toInt64 ((y 1) - 1))) (va_cwS 3 hts gc_M_51 rfl rfl rfl (by decide +kernel) ⟨Nat.le_of_ble_eq_true rfl, Nat.le_of_ble_eq_true rfl⟩) (mk_roS hP [] rfl hK) rfl rfl hl.1 rfl (lv_room (Nat.le_of_ble_eq_true rfl)) qd_M_version_15 ⟨(Nat.zero_le _), (Nat.zero_le _)⟩) hS hA hP (fun r_1 H locs hr_1 hP hS => ?_)
  obtain rfl : r_1 = mi_b (Int32.toInt64 t) 0 (Int32.toInt64 ((y 1) - 1)) := hr_1
  refine lv_if_eq (tgt := 62) hx hb qd_M_version_18 (by decide) (fun c_2 => ?_) (fun c_2 => ?_)
  · refine lv_iconst (v := (-1)) hx hb qd_M_version_62 (by decide) ?_
    exact mk_miret (upd y 0 0) hx hb hr hlocks hP hK hD hS qd_M_version_63 ⟨rfl, fun _ => rfl⟩
  · refine lv_iload_n hx hb qd_M_version_21 rfl (lv_at hl 2 rfl) ?_
    refine lv_i2l (v := Int32.toInt64 ky) hx hb qd_M_version_22 rfl ?_
    refine lv_lconst (v := 0) hx hb qd_M_version_23 (by decide) ?_
    refine lv_ldc2 (v := 15) hx hb hown (hts _ mw_493) qd_M_version_24 ?_
    refine mk_calli (va_runS (As := [.long (Int32.toInt64 ky), .long 0, .long 15]) (rest := []) ⟨hx, hb, hml, hown, hts⟩ (c_M_in l dC dI cA H.size cB (Int32.toInt64 ky) 0 15) (va_cwS 3 hts gc_M_51 rfl rfl rfl (by decide +kernel) ⟨Nat.le_of_ble_eq_true rfl, Nat.le_of_ble_eq_true rfl⟩) (mk_roS hP [] rfl hK) rfl rfl hl.1 rfl (lv_room (Nat.le_of_ble_eq_true rfl)) qd_M_version_27 ⟨(Nat.zero_le _), (Nat.zero_le _)⟩) hS hA hP (fun r_3 H locs hr_3 hP hS => ?_)
    obtain rfl : r_3 = mi_b (Int32.toInt64 ky) 0 15 := hr_3
    refine lv_if_eq (tgt := 62) hx hb qd_M_version_30 (by decide) (fun c_4 => ?_) (fun c_4 => ?_)
    · refine lv_iconst (v := (-1)) hx hb qd_M_version_62 (by decide) ?_
      exact mk_miret (upd y 0 0) hx hb hr hlocks hP hK hD hS qd_M_version_63 ⟨rfl, fun _ => rfl⟩
    · refine lv_iload hx hb qd_M_version_33 (lv_at hl 4 rfl) ?_
      refine lv_i2l (v := Int32.toInt64 wh) hx hb qd_M_version_35 rfl ?_
      refine lv_lconst (v := 0) hx hb qd_M_version_36 (by decide) ?_
      refine lv_lconst (v := 1) hx hb qd_M_version_37 (by decide) ?_
      refine mk_calli (va_runS (As := [.long (Int32.toInt64 wh), .long 0, .long 1]) (rest := []) ⟨hx, hb, hml, hown, hts⟩ (c_M_in l dC dI cA H.size cB (Int32.toInt64 wh) 0 1) (va_cwS 3 hts gc_M_51 rfl rfl rfl (by decide +kernel) ⟨Nat.le_of_ble_eq_true rfl, Nat.le_of_ble_eq_true rfl⟩) (mk_roS hP [] rfl hK) rfl rfl hl.1 rfl (lv_room (Nat.le_of_ble_eq_true rfl)) qd_M_version_38 ⟨(Nat.zero_le _), (Nat.zero_le _)⟩) hS hA hP (fun r_5 H locs hr_5 hP hS => ?_)
      obtain rfl : r_5 = mi_b (Int32.toInt64 wh) 0 1 := hr_5
      refine lv_if_eq (tgt := 62) hx hb qd_M_version_41 (by decide) (fun c_6 => ?_) (fun c_6 => ?_)
      · refine lv_iconst (v := (-1)) hx hb qd_M_version_62 (by decide) ?_
        exact mk_miret (upd y 0 0) hx hb hr hlocks hP hK hD hS qd_M_version_63 ⟨rfl, fun _ => rfl⟩
      · refine lv_iload_n hx hb qd_M_version_44 rfl (lv_at hl 3 rfl) ?_
        refine lv_i2l (v := Int32.toInt64 i) hx hb qd_M_version_45 rfl ?_
        refine lv_lconst (v := 0) hx hb qd_M_version_46 (by decide) ?_
        refine lv_aload_n hx hb qd_M_version_47 rfl (lv_at hl 0 rfl) ?_
        refine lv_iload_n hx hb qd_M_version_48 rfl (lv_at hl 1 rfl) ?_
        refine lv_iload_n hx hb qd_M_version_49 rfl (lv_at hl 2 rfl) ?_
        refine mk_calli (va_runV (As := [.int t, .int ky]) (rest := [.long 0, .long (Int32.toInt64 i)]) ⟨hx, hb, hml, hown, hts⟩ (c_M_manyOf l dC dI cA H.size cB b (upd y 0 0) ma ve rw jn ou fo go nv hnv hv t ky) (cwV 2 hts gc_M_135 rfl rfl rfl (by decide +kernel) ⟨Nat.le_of_ble_eq_true rfl, Nat.le_of_ble_eq_true rfl⟩) (mk_roV hP [0, 1, 2, 3, 4, 5, 6, 7] rfl hK (va_recv hK hP (ci := 1) (q0 := 0) rfl rfl)) rfl rfl hl.1 rfl (lv_room (Nat.le_of_ble_eq_true rfl)) qd_M_version_50 ⟨(Nat.zero_le _), (Nat.zero_le _)⟩) hS hA hP (fun r_7 H locs hr_7 hP hS => ?_)
        obtain rfl : r_7 = nI (mv_cnt ve t ky nv) := hr_7
        refine lv_iconst (v := 1) hx hb qd_M_version_53 (by decide) ?_
        refine lv_isub hx hb qd_M_version_54 ?_
        refine lv_i2l (v := Int32.toInt64 ((nI (mv_cnt ve t ky nv)) - 1)) hx hb qd_M_version_55 rfl ?_
        refine mk_calli (va_runS (As := [.long (Int32.toInt64 i), .long 0, .long (Int32.toInt64 ((nI (mv_cnt ve t ky nv)) - 1))]) (rest := []) ⟨hx, hb, hml, hown, hts⟩ (c_M_in l dC dI cA H.size cB (Int32.toInt64 i) 0 (Int32.toInt64 ((nI (mv_cnt ve t ky nv)) - 1))) (va_cwS 3 hts gc_M_51 rfl rfl rfl (by decide +kernel) ⟨Nat.le_of_ble_eq_true rfl, Nat.le_of_ble_eq_true rfl⟩) (mk_roS hP [] rfl hK) rfl rfl hl.1 rfl (lv_room (Nat.le_of_ble_eq_true rfl)) qd_M_version_56 ⟨(Nat.zero_le _), (Nat.zero_le _)⟩) hS hA hP (fun r_8 H locs hr_8 hP hS => ?_)
        obtain rfl : r_8 = mi_b (Int32.toInt64 i) 0 (Int32.toInt64 ((nI (mv_cnt ve t ky nv)) - 1)) := hr_8
        refine lv_if_ne (tgt := 64) hx hb qd_M_version_59 (by decide) (fun c_9 => ?_) (fun c_9 => ?_)
        · obtain ⟨w9, hw9, ew⟩ := mi_natc (n := 1) c_6 rfl (by decide)
          have hml9 := mv_cnt_le ve t ky nv
          obtain ⟨i9, hi9, ei⟩ := mi_nat1 c_9 rfl (by omega)
          refine lv_aload_n hx hb qd_M_version_64 rfl (lv_at hl 0 rfl) ?_
          refine va_get (D := (dC, dI)) (ci := 1) (v := .ref (b 2)) (C := qR_M) (T := qT_M) (N := 24) hx hb hts qin_M hown hK hP 0 rfl rfl 9 (by decide) (hts _ mw_411) (fun _ h9 => h9) rfl qd_M_version_65 ?_
          refine lv_iconst (v := 4) hx hb qd_M_version_68 (by decide) ?_
          refine lv_aload_n hx hb qd_M_version_69 rfl (lv_at hl 0 rfl) ?_
          refine lv_iload_n hx hb qd_M_version_70 rfl (lv_at hl 1 rfl) ?_
          refine lv_iload_n hx hb qd_M_version_71 rfl (lv_at hl 2 rfl) ?_
          refine lv_iload_n hx hb qd_M_version_72 rfl (lv_at hl 3 rfl) ?_
          refine mk_rw (y := nI i9) (ei) ?_
          refine mk_calli (va_runV (As := [.int t, .int ky, .int (nI i9)]) (rest := [.int 4, .ref (b 2)]) ⟨hx, hb, hml, hown, hts⟩ (c_M_versionBy l dC dI cA H.size cB b (upd y 0 0) ma ve rw jn ou fo go nv hnv hv t ky i9 (by omega)) (cwV 3 hts gc_M_165 rfl rfl rfl (by decide +kernel) ⟨Nat.le_of_ble_eq_true rfl, Nat.le_of_ble_eq_true rfl⟩) (mk_roV hP [0, 1, 2, 3, 4, 5, 6, 7] rfl hK (va_recv hK hP (ci := 1) (q0 := 0) rfl rfl)) rfl rfl hl.1 rfl (lv_room (Nat.le_of_ble_eq_true rfl)) qd_M_version_73 ⟨(Nat.zero_le _), (Nat.zero_le _)⟩) hS hA hP (fun r_10 H locs hr_10 hP hS => ?_)
          obtain ⟨j9, hj9, ej, -, -⟩ := mb_hit hap hi9 hr_10
          subst ej
          refine lv_imul hx hb qd_M_version_76 ?_
          refine lv_iconst (v := 2) hx hb qd_M_version_77 (by decide) ?_
          refine lv_iadd hx hb qd_M_version_78 ?_
          refine lv_iload hx hb qd_M_version_79 (lv_at hl 4 rfl) ?_
          refine mk_rw (y := nI w9) (ew) ?_
          refine lv_iadd hx hb qd_M_version_81 ?_
          refine mk_rw (y := nI (((4 * j9) + 2) + w9)) (by show (((nI 4) * (nI j9)) + (nI 2)) + (nI w9) = _; simp only [pk_mul, nI_add]) ?_
          refine va_iald (i := (nI (((4 * j9) + 2) + w9))) hx hb hK hP 2 0 rfl rfl (vp_in_nI (by omega) (by omega)) qd_M_version_82 ?_
          refine mk_rw (y := ve (((4 * j9) + 2) + w9)) (congrArg _ (nI_clamp (by omega))) ?_
          exact mk_miret (upd y 0 0) hx hb hr hlocks hP hK hD hS qd_M_version_83 ⟨rfl, fun h0 => absurd hi9 (by have := nI_z (by omega) (hnv.symm.trans h0); omega)⟩
        · refine lv_iconst (v := (-1)) hx hb qd_M_version_62 (by decide) ?_
          exact mk_miret (upd y 0 0) hx hb hr hlocks hP hK hD hS qd_M_version_63 ⟨rfl, fun _ => rfl⟩
set_option maxHeartbeats 4000000 in
set_option maxRecDepth 100000 in
/-- there: that it answers; what, where nothing is there -/
theorem c_M_there (l : Launch) (dC : Nat → ClassId) (dI : Nat → Nat → Nat) (cA : ClassId) (sz : Nat) (cB : ClassId) (b : Nat → Nat) (y ma ve rw jn ou fo go : Nat → Int32) (hok : mi_ok y ve rw) (i wh : Int32) : Met l qy_M_there qw_M_there ({ frames := 2, cells := 0, slots := 0, locals := 60 }) (mk_mu [.ref (b 0), .int i, .int wh] sz (dC, dI) vwCl [(cA, .int), (cB, .boolean)] (wM b cA cB y ma ve rw jn ou fo go)) (mk_muQ (S := Nat → Int32) (fun r u => u = upd y 0 0 ∧ (y 13 = 0 → r = -1)) (fun u => (wM b cA cB u ma ve rw jn ou fo go)) (dC, dI) vwCl [(cA, .int), (cB, .boolean)] (va_A (wM b cA cB y ma ve rw jn ou fo go) sz)) 0 0 (va_A (wM b cA cB y ma ve rw jn ou fo go) sz) := by
  refine Met.ofW (cc := qb_M_there) (maxL := 3) (ret := (some .int)) (by decide) rfl ?_
  intro p e s m args below meth c s₁ B hml hpre
  obtain ⟨rfl, hsz, hP, hK, hD0⟩ := hpre
  have hx := B.exec
  have hb := B.bytes
  have hr := B.returns
  have hts0 := atoms_spec (ws := qw_M_there) B.pre
  have hts := fun w (h : w ∈ lw_gd) => hts0 w (List.mem_cons_of_mem _ h)
  have hown : s.vm.findClass qR_M = some m.cls := findClass_of_methodNamed B.named
  have hlocks := B.notSynchronized
  subst hsz
  have hD := hD0.self (sz := s.heap.size)
  generalize hAe : va_A (wM b cA cB y ma ve rw jn ou fo go) s.heap.size = A at hD ⊢
  have hA : ∀ q : Nat, s.heap.size ≤ q → A q := fun q h => by rw [← hAe]; exact Or.inr h
  have hS : va_S A s.heap s.heap [] := va_S.rf
  have hl := lv_entry ([.ref (b 0), .int i, .int wh]) (n := 3) (Nat.le_of_ble_eq_true rfl)
  rw [lg_entry_eq]
  generalize (lg_sl ([.ref (b 0), .int i, .int wh]) ++ List.replicate (3 - (lg_sl ([.ref (b 0), .int i, .int wh])).length) Slot.unset).toArray = ls at hl ⊢
  have hl : lv_has ls 3 [(0, .ref (b 0)), (1, .int i), (2, .int wh)] := hl
  have hP : va_P (dC, dI) vwCl (wM b cA cB y ma ve rw jn ou fo go) s.heap := hP
  refine mk_start (A := A) hP (fun H locs hP hS => ?_)
  obtain ⟨nt, nv, nr, no, c, hnt, ht3, hnv, hv, hnr, hr96, hno, hno2, hcm, hc3, hinc, hlc, hap, hbg⟩ := hok
  refine lv_aload_n hx hb qd_M_there_0 rfl (lv_at hl 0 rfl) ?_
  refine lv_iconst (v := 0) hx hb qd_M_there_1 (by decide) ?_
  refine va_put (D := (dC, dI)) (ci := 1) (v := .int 0) (ty := .int) (C := qR_M) (T := qT_M) (N := 24) hx hb hts qin_M qty_M qtyok_M qnm_M hown hK hP hD hS 0 rfl rfl 0 (by decide) (hts _ mw_402) (fun _ h9 => h9) rfl (by decide +kernel) rfl rfl (Nat.le_of_ble_eq_true rfl) qd_M_there_2 (fun H locs hP hD hS => ?_)
  have hP : va_P (dC, dI) vwCl (wM b cA cB (upd y 0 0) ma ve rw jn ou fo go) H := hP
  have hD : va_D A (wM b cA cB (upd y 0 0) ma ve rw jn ou fo go) := hD
  refine lv_iload_n hx hb qd_M_there_5 rfl (lv_at hl 1 rfl) ?_
  refine lv_i2l (v := Int32.toInt64 i) hx hb qd_M_there_6 rfl ?_
  refine lv_lconst (v := 0) hx hb qd_M_there_7 (by decide) ?_
  refine lv_aload_n hx hb qd_M_there_8 rfl (lv_at hl 0 rfl) ?_
  refine va_get (D := (dC, dI)) (ci := 1) (v := .int (y 13)) (C := qR_M) (T := qT_M) (N := 24) hx hb hts qin_M hown hK hP 0 rfl rfl 13 (by decide) (hts _ mw_415) (fun _ h9 => h9) rfl qd_M_there_9 ?_
  refine lv_iconst (v := 1) hx hb qd_M_there_12 (by decide) ?_
  refine lv_isub hx hb qd_M_there_13 ?_
  refine lv_i2l (v := Int32.toInt64 ((y 13) - 1)) hx hb qd_M_there_14 rfl ?_
  refine mk_calli (va_runS (As := [.long (Int32.toInt64 i), .long 0, .long (Int32.toInt64 ((y 13) - 1))]) (rest := []) ⟨hx, hb, hml, hown, hts⟩ (c_M_in l dC dI cA H.size cB (Int32.toInt64 i) 0 (Int32.toInt64 ((y 13) - 1))) (va_cwS 3 hts gc_M_51 rfl rfl rfl (by decide +kernel) ⟨Nat.le_of_ble_eq_true rfl, Nat.le_of_ble_eq_true rfl⟩) (mk_roS hP [] rfl hK) rfl rfl hl.1 rfl (lv_room (Nat.le_of_ble_eq_true rfl)) qd_M_there_15 ⟨(Nat.zero_le _), (Nat.zero_le _)⟩) hS hA hP (fun r_1 H locs hr_1 hP hS => ?_)
  obtain rfl : r_1 = mi_b (Int32.toInt64 i) 0 (Int32.toInt64 ((y 13) - 1)) := hr_1
  refine lv_if_eq (tgt := 51) hx hb qd_M_there_18 (by decide) (fun c_2 => ?_) (fun c_2 => ?_)
  · refine lv_iconst (v := (-1)) hx hb qd_M_there_51 (by decide) ?_
    exact mk_miret (upd y 0 0) hx hb hr hlocks hP hK hD hS qd_M_there_52 ⟨rfl, fun _ => rfl⟩
  · refine lv_iload_n hx hb qd_M_there_21 rfl (lv_at hl 2 rfl) ?_
    refine lv_i2l (v := Int32.toInt64 wh) hx hb qd_M_there_22 rfl ?_
    refine lv_lconst (v := 0) hx hb qd_M_there_23 (by decide) ?_
    refine lv_ldc2 (v := 5) hx hb hown (hts _ mw_598) qd_M_there_24 ?_
    refine mk_calli (va_runS (As := [.long (Int32.toInt64 wh), .long 0, .long 5]) (rest := []) ⟨hx, hb, hml, hown, hts⟩ (c_M_in l dC dI cA H.size cB (Int32.toInt64 wh) 0 5) (va_cwS 3 hts gc_M_51 rfl rfl rfl (by decide +kernel) ⟨Nat.le_of_ble_eq_true rfl, Nat.le_of_ble_eq_true rfl⟩) (mk_roS hP [] rfl hK) rfl rfl hl.1 rfl (lv_room (Nat.le_of_ble_eq_true rfl)) qd_M_there_27 ⟨(Nat.zero_le _), (Nat.zero_le _)⟩) hS hA hP (fun r_3 H locs hr_3 hP hS => ?_)
    obtain rfl : r_3 = mi_b (Int32.toInt64 wh) 0 5 := hr_3
    refine lv_if_eq (tgt := 51) hx hb qd_M_there_30 (by decide) (fun c_4 => ?_) (fun c_4 => ?_)
    · refine lv_iconst (v := (-1)) hx hb qd_M_there_51 (by decide) ?_
      exact mk_miret (upd y 0 0) hx hb hr hlocks hP hK hD hS qd_M_there_52 ⟨rfl, fun _ => rfl⟩
    · obtain ⟨i9, hi9, ei⟩ := mi_nat1 c_2 hnr (by omega)
      obtain ⟨w9, hw9, ew⟩ := mi_natc (n := 5) c_4 rfl (by decide)
      refine lv_aload_n hx hb qd_M_there_33 rfl (lv_at hl 0 rfl) ?_
      refine va_get (D := (dC, dI)) (ci := 1) (v := .ref (b 3)) (C := qR_M) (T := qT_M) (N := 24) hx hb hts qin_M hown hK hP 0 rfl rfl 11 (by decide) (hts _ mw_413) (fun _ h9 => h9) rfl qd_M_there_34 ?_
      refine lv_bipush (v := 6) hx hb qd_M_there_37 (by decide) ?_
      refine lv_aload_n hx hb qd_M_there_39 rfl (lv_at hl 0 rfl) ?_
      refine lv_iload_n hx hb qd_M_there_40 rfl (lv_at hl 1 rfl) ?_
      refine mk_rw (y := nI i9) (ei) ?_
      refine mk_calli (va_runV (As := [.int (nI i9)]) (rest := [.int 6, .ref (b 3)]) ⟨hx, hb, hml, hown, hts⟩ (c_M_rowBy l dC dI cA H.size cB b (upd y 0 0) ma ve rw jn ou fo go nr hnr hr96 i9 (by omega)) (cwV 1 hts gc_M_101 rfl rfl rfl (by decide +kernel) ⟨Nat.le_of_ble_eq_true rfl, Nat.le_of_ble_eq_true rfl⟩) (mk_roV hP [0, 1, 2, 3, 4, 5, 6, 7] rfl hK (va_recv hK hP (ci := 1) (q0 := 0) rfl rfl)) rfl rfl hl.1 rfl (lv_room (Nat.le_of_ble_eq_true rfl)) qd_M_there_41 ⟨(Nat.zero_le _), (Nat.zero_le _)⟩) hS hA hP (fun r_5 H locs hr_5 hP hS => ?_)
      obtain ⟨r9, hr9, er, -⟩ := mr_hit (mr_full_of hinc) hi9 hr_5
      subst er
      refine lv_imul hx hb qd_M_there_44 ?_
      refine lv_iload_n hx hb qd_M_there_45 rfl (lv_at hl 2 rfl) ?_
      refine mk_rw (y := nI w9) (ew) ?_
      refine lv_iadd hx hb qd_M_there_46 ?_
      refine mk_rw (y := nI ((6 * r9) + w9)) (by show ((nI 6) * (nI r9)) + (nI w9) = _; simp only [pk_mul, nI_add]) ?_
      refine va_iald (i := (nI ((6 * r9) + w9))) hx hb hK hP 3 0 rfl rfl (vp_in_nI (by omega) (by omega)) qd_M_there_47 ?_
      refine mk_rw (y := rw ((6 * r9) + w9)) (congrArg _ (nI_clamp (by omega))) ?_
      refine lv_goto (tgt := 52) hx hb qd_M_there_48 (by decide) ?_
      exact mk_miret (upd y 0 0) hx hb hr hlocks hP hK hD hS qd_M_there_52 ⟨rfl, fun h0 => absurd hi9 (by have := nI_z (by omega) (hnr.symm.trans h0); omega)⟩
set_option maxHeartbeats 4000000 in
set_option maxRecDepth 100000 in
/-- count: that it answers; what, where nothing is there -/
theorem c_M_count (l : Launch) (dC : Nat → ClassId) (dI : Nat → Nat → Nat) (cA : ClassId) (sz : Nat) (cB : ClassId) (b : Nat → Nat) (y ma ve rw jn ou fo go : Nat → Int32) (hok : mi_ok y ve rw) (wh : Int32) : Met l qy_M_count qw_M_count ({ frames := 1, cells := 0, slots := 0, locals := 30 }) (mk_mu [.ref (b 0), .int wh] sz (dC, dI) vwCl [(cA, .int), (cB, .boolean)] (wM b cA cB y ma ve rw jn ou fo go)) (mk_muQ (S := Nat → Int32) (fun r u => u = upd y 0 0 ∧ (y = (fun _ => 0) → r = mc0 wh)) (fun u => (wM b cA cB u ma ve rw jn ou fo go)) (dC, dI) vwCl [(cA, .int), (cB, .boolean)] (va_A (wM b cA cB y ma ve rw jn ou fo go) sz)) 0 0 (va_A (wM b cA cB y ma ve rw jn ou fo go) sz) := by
  refine Met.ofW (cc := qb_M_count) (maxL := 4) (ret := (some .int)) (by decide) rfl ?_
  intro p e s m args below meth c s₁ B hml hpre
  obtain ⟨rfl, hsz, hP, hK, hD0⟩ := hpre
  have hx := B.exec
  have hb := B.bytes
  have hr := B.returns
  have hts0 := atoms_spec (ws := qw_M_count) B.pre
  have hts := fun w (h : w ∈ lw_gd) => hts0 w (List.mem_cons_of_mem _ h)
  have hown : s.vm.findClass qR_M = some m.cls := findClass_of_methodNamed B.named
  have hlocks := B.notSynchronized
  subst hsz
  have hD := hD0.self (sz := s.heap.size)
  generalize hAe : va_A (wM b cA cB y ma ve rw jn ou fo go) s.heap.size = A at hD ⊢
  have hA : ∀ q : Nat, s.heap.size ≤ q → A q := fun q h => by rw [← hAe]; exact Or.inr h
  have hS : va_S A s.heap s.heap [] := va_S.rf
  have hl := lv_entry ([.ref (b 0), .int wh]) (n := 4) (Nat.le_of_ble_eq_true rfl)
  rw [lg_entry_eq]
  generalize (lg_sl ([.ref (b 0), .int wh]) ++ List.replicate (4 - (lg_sl ([.ref (b 0), .int wh])).length) Slot.unset).toArray = ls at hl ⊢
  have hl : lv_has ls 4 [(0, .ref (b 0)), (1, .int wh)] := hl
  have hP : va_P (dC, dI) vwCl (wM b cA cB y ma ve rw jn ou fo go) s.heap := hP
  refine mk_start (A := A) hP (fun H locs hP hS => ?_)
  obtain ⟨nt, nv, nr, no, c, hnt, ht3, hnv, hv, hnr, hr96, hno, hno2, hcm, hc3, hinc, hlc, hap, hbg⟩ := hok
  refine lv_aload_n hx hb qd_M_count_0 rfl (lv_at hl 0 rfl) ?_
  refine lv_iconst (v := 0) hx hb qd_M_count_1 (by decide) ?_
  refine va_put (D := (dC, dI)) (ci := 1) (v := .int 0) (ty := .int) (C := qR_M) (T := qT_M) (N := 24) hx hb hts qin_M qty_M qtyok_M qnm_M hown hK hP hD hS 0 rfl rfl 0 (by decide) (hts _ mw_402) (fun _ h9 => h9) rfl (by decide +kernel) rfl rfl (Nat.le_of_ble_eq_true rfl) qd_M_count_2 (fun H locs hP hD hS => ?_)
  have hP : va_P (dC, dI) vwCl (wM b cA cB (upd y 0 0) ma ve rw jn ou fo go) H := hP
  have hD : va_D A (wM b cA cB (upd y 0 0) ma ve rw jn ou fo go) := hD
  refine lv_iconst (v := 0) hx hb qd_M_count_5 (by decide) ?_
  refine lv_istore_n (lv' := [(2, .int 0), (0, .ref (b 0)), (1, .int wh)]) hx hb qd_M_count_6 rfl hl (by decide) rfl (fun ls hl => ?_)
  refine lv_iconst (v := 0) hx hb qd_M_count_7 (by decide) ?_
  refine mk_rw (y := nI 0) (rfl) ?_
  refine lv_istore_n (lv' := [(3, .int (nI 0)), (2, .int 0), (0, .ref (b 0)), (1, .int wh)]) hx hb qd_M_count_8 rfl hl (by decide) rfl (fun ls hl => ?_)
  refine mk_loop (σ := Nat × Int32) (fun n y9 H locs ls => (y9.1 + n = nr ∧ (nr = 0 → y9.2 = 0)) ∧ va_P (dC, dI) vwCl (wM b cA cB (upd y 0 0) ma ve rw jn ou fo go) H ∧ va_D A (wM b cA cB (upd y 0 0) ma ve rw jn ou fo go) ∧ va_S A s.heap H locs ∧ lv_has ls 4 [(0, .ref (b 0)), (1, .int wh), (2, .int y9.2), (3, .int (nI y9.1))]) (fun ls => F0 m 9 ls []) (fun n y9 H locs ls hI ih_1 => ?_) (fun y9 H locs ls hI => ?_) nr (0, 0) H locs ls ⟨⟨Nat.zero_add _, fun _ => rfl⟩, hP, hD, hS, lv_sub hl [2, 3, 1, 0] rfl⟩
  · obtain ⟨i, z⟩ := y9
    obtain ⟨hinv, hP, hD, hS, hl⟩ := hI
    have hinv : i + (n + 1) = nr ∧ (nr = 0 → z = 0) := hinv
    have hP : va_P (dC, dI) vwCl (wM b cA cB (upd y 0 0) ma ve rw jn ou fo go) H := hP
    have hD : va_D A (wM b cA cB (upd y 0 0) ma ve rw jn ou fo go) := hD
    have hl : lv_has ls 4 [(0, .ref (b 0)), (1, .int wh), (2, .int z), (3, .int (nI i))] := hl
    refine lv_iload_n hx hb qd_M_count_9 rfl (lv_at hl 3 rfl) ?_
    refine lv_aload_n hx hb qd_M_count_10 rfl (lv_at hl 0 rfl) ?_
    refine va_get (D := (dC, dI)) (ci := 1) (v := .int (y 13)) (C := qR_M) (T := qT_M) (N := 24) hx hb hts qin_M hown hK hP 0 rfl rfl 13 (by decide) (hts _ mw_415) (fun _ h9 => h9) rfl qd_M_count_11 ?_
    refine mk_rw (y := nI nr) (hnr) ?_
    refine lv_icmp_ge (tgt := 37) hx hb qd_M_count_14 (by decide) (fun c_2 => ?_) (fun c_2 => ?_)
    · exact absurd c_2 (nI_ge (by omega) (by omega))
    · refine lv_iload_n hx hb qd_M_count_17 rfl (lv_at hl 2 rfl) ?_
      refine lv_aload_n hx hb qd_M_count_18 rfl (lv_at hl 0 rfl) ?_
      refine va_get (D := (dC, dI)) (ci := 1) (v := .ref (b 3)) (C := qR_M) (T := qT_M) (N := 24) hx hb hts qin_M hown hK hP 0 rfl rfl 11 (by decide) (hts _ mw_413) (fun _ h9 => h9) rfl qd_M_count_19 ?_
      refine lv_bipush (v := 6) hx hb qd_M_count_22 (by decide) ?_
      refine lv_iload_n hx hb qd_M_count_24 rfl (lv_at hl 3 rfl) ?_
      refine lv_imul hx hb qd_M_count_25 ?_
      refine lv_iconst (v := 4) hx hb qd_M_count_26 (by decide) ?_
      refine lv_iadd hx hb qd_M_count_27 ?_
      refine mk_rw (y := nI ((6 * i) + 4)) (by show ((nI 6) * (nI i)) + (nI 4) = _; simp only [pk_mul, nI_add]) ?_
      refine va_iald (i := (nI ((6 * i) + 4))) hx hb hK hP 3 0 rfl rfl (vp_in_nI (by omega) (by omega)) qd_M_count_28 ?_
      refine mk_rw (y := rw ((6 * i) + 4)) (congrArg _ (nI_clamp (by omega))) ?_
      refine lv_iadd hx hb qd_M_count_29 ?_
      refine lv_istore_n (lv' := [(2, .int (z + (rw ((6 * i) + 4)))), (0, .ref (b 0)), (1, .int wh), (3, .int (nI i))]) hx hb qd_M_count_30 rfl hl (by decide) rfl (fun ls hl => ?_)
      refine lv_iinc (v := nI (i + 1)) (lv' := [(3, .int (nI (i + 1))), (2, .int (z + (rw ((6 * i) + 4)))), (0, .ref (b 0)), (1, .int wh)]) hx hb qd_M_count_31 hl (k := 3) rfl (mk_inc i) (by decide) rfl (fun ls hl => ?_)
      refine lv_goto (tgt := 9) hx hb qd_M_count_34 (by decide) ?_
      exact ih_1 ((i + 1), (z + (rw ((6 * i) + 4)))) H locs ls ⟨⟨by omega, fun q => absurd q (by omega)⟩, hP, hD, hS, lv_sub hl [2, 3, 1, 0] rfl⟩
  · obtain ⟨i, z⟩ := y9
    obtain ⟨hinv, hP, hD, hS, hl⟩ := hI
    have hinv : i + 0 = nr ∧ (nr = 0 → z = 0) := hinv
    have hP : va_P (dC, dI) vwCl (wM b cA cB (upd y 0 0) ma ve rw jn ou fo go) H := hP
    have hD : va_D A (wM b cA cB (upd y 0 0) ma ve rw jn ou fo go) := hD
    have hl : lv_has ls 4 [(0, .ref (b 0)), (1, .int wh), (2, .int z), (3, .int (nI i))] := hl
    refine lv_iload_n hx hb qd_M_count_9 rfl (lv_at hl 3 rfl) ?_
    refine lv_aload_n hx hb qd_M_count_10 rfl (lv_at hl 0 rfl) ?_
    refine va_get (D := (dC, dI)) (ci := 1) (v := .int (y 13)) (C := qR_M) (T := qT_M) (N := 24) hx hb hts qin_M hown hK hP 0 rfl rfl 13 (by decide) (hts _ mw_415) (fun _ h9 => h9) rfl qd_M_count_11 ?_
    refine mk_rw (y := nI nr) (hnr) ?_
    refine lv_icmp_ge (tgt := 37) hx hb qd_M_count_14 (by decide) (fun c_3 => ?_) (fun c_3 => ?_)
    · refine lv_iload_n hx hb qd_M_count_37 rfl (lv_at hl 1 rfl) ?_
      rcases pk_ix wh (n := 18) (by decide) with hq | hq | ⟨j, hj, rfl⟩
      · refine lv_tableOut (tgt := 222) hx hb qd_M_count_38 (sw_out (n := 17) (by decide) (Or.inl hq)) (by decide) ?_
        refine lv_iconst (v := (-1)) hx hb qd_M_count_222 (by decide) ?_
        exact mk_miret (upd y 0 0) hx hb hr hlocks hP hK hD hS qd_M_count_223 ⟨rfl, fun _ => (mc0_out (Or.inl hq)).symm⟩
      · refine lv_tableOut (tgt := 222) hx hb qd_M_count_38 (sw_out (n := 17) (by decide) (Or.inr hq)) (by decide) ?_
        refine lv_iconst (v := (-1)) hx hb qd_M_count_222 (by decide) ?_
        exact mk_miret (upd y 0 0) hx hb hr hlocks hP hK hD hS qd_M_count_223 ⟨rfl, fun _ => (mc0_out (Or.inr hq)).symm⟩
      · rcases (show j = 0 ∨ j = 1 ∨ j = 2 ∨ j = 3 ∨ j = 4 ∨ j = 5 ∨ j = 6 ∨ j = 7 ∨ j = 8 ∨ j = 9 ∨ j = 10 ∨ j = 11 ∨ j = 12 ∨ j = 13 ∨ j = 14 ∨ j = 15 ∨ j = 16 ∨ j = 17 by omega) with rfl | rfl | rfl | rfl | rfl | rfl | rfl | rfl | rfl | rfl | rfl | rfl | rfl | rfl | rfl | rfl | rfl | rfl
        · refine lv_tableIn (off := 86) (tgt := 124) hx hb qd_M_count_38 (by decide) (by decide) (by decide) (by decide) ?_
          refine lv_aload_n hx hb qd_M_count_124 rfl (lv_at hl 0 rfl) ?_
          refine va_get (D := (dC, dI)) (ci := 1) (v := .int (y 1)) (C := qR_M) (T := qT_M) (N := 24) hx hb hts qin_M hown hK hP 0 rfl rfl 1 (by decide) (hts _ mw_403) (fun _ h9 => h9) rfl qd_M_count_125 ?_
          exact mk_miret (upd y 0 0) hx hb hr hlocks hP hK hD hS qd_M_count_128 ⟨rfl, fun h0 => by subst h0; rfl⟩
        · refine lv_tableIn (off := 91) (tgt := 129) hx hb qd_M_count_38 (by decide) (by decide) (by decide) (by decide) ?_
          refine lv_aload_n hx hb qd_M_count_129 rfl (lv_at hl 0 rfl) ?_
          refine va_get (D := (dC, dI)) (ci := 1) (v := .int (y 10)) (C := qR_M) (T := qT_M) (N := 24) hx hb hts qin_M hown hK hP 0 rfl rfl 10 (by decide) (hts _ mw_412) (fun _ h9 => h9) rfl qd_M_count_130 ?_
          exact mk_miret (upd y 0 0) hx hb hr hlocks hP hK hD hS qd_M_count_133 ⟨rfl, fun h0 => by subst h0; rfl⟩
        · refine lv_tableIn (off := 96) (tgt := 134) hx hb qd_M_count_38 (by decide) (by decide) (by decide) (by decide) ?_
          refine lv_aload_n hx hb qd_M_count_134 rfl (lv_at hl 0 rfl) ?_
          refine va_get (D := (dC, dI)) (ci := 1) (v := .int (y 13)) (C := qR_M) (T := qT_M) (N := 24) hx hb hts qin_M hown hK hP 0 rfl rfl 13 (by decide) (hts _ mw_415) (fun _ h9 => h9) rfl qd_M_count_135 ?_
          exact mk_miret (upd y 0 0) hx hb hr hlocks hP hK hD hS qd_M_count_138 ⟨rfl, fun h0 => by subst h0; rfl⟩
        · refine lv_tableIn (off := 101) (tgt := 139) hx hb qd_M_count_38 (by decide) (by decide) (by decide) (by decide) ?_
          refine lv_iload_n hx hb qd_M_count_139 rfl (lv_at hl 2 rfl) ?_
          exact mk_miret (upd y 0 0) hx hb hr hlocks hP hK hD hS qd_M_count_140 ⟨rfl, fun h0 => by subst h0; exact hinv.2 (nI_z (by omega) hnr.symm)⟩
        · refine lv_tableIn (off := 103) (tgt := 141) hx hb qd_M_count_38 (by decide) (by decide) (by decide) (by decide) ?_
          refine lv_aload_n hx hb qd_M_count_141 rfl (lv_at hl 0 rfl) ?_
          refine va_get (D := (dC, dI)) (ci := 1) (v := .int (y 14)) (C := qR_M) (T := qT_M) (N := 24) hx hb hts qin_M hown hK hP 0 rfl rfl 14 (by decide) (hts _ mw_416) (fun _ h9 => h9) rfl qd_M_count_142 ?_
          exact mk_miret (upd y 0 0) hx hb hr hlocks hP hK hD hS qd_M_count_145 ⟨rfl, fun h0 => by subst h0; rfl⟩
        · refine lv_tableIn (off := 108) (tgt := 146) hx hb qd_M_count_38 (by decide) (by decide) (by decide) (by decide) ?_
          refine lv_aload_n hx hb qd_M_count_146 rfl (lv_at hl 0 rfl) ?_
          refine va_get (D := (dC, dI)) (ci := 1) (v := .int (y 15)) (C := qR_M) (T := qT_M) (N := 24) hx hb hts qin_M hown hK hP 0 rfl rfl 15 (by decide) (hts _ mw_417) (fun _ h9 => h9) rfl qd_M_count_147 ?_
          exact mk_miret (upd y 0 0) hx hb hr hlocks hP hK hD hS qd_M_count_150 ⟨rfl, fun h0 => by subst h0; rfl⟩
        · refine lv_tableIn (off := 113) (tgt := 151) hx hb qd_M_count_38 (by decide) (by decide) (by decide) (by decide) ?_
          refine lv_aload_n hx hb qd_M_count_151 rfl (lv_at hl 0 rfl) ?_
          refine va_get (D := (dC, dI)) (ci := 1) (v := .int (y 16)) (C := qR_M) (T := qT_M) (N := 24) hx hb hts qin_M hown hK hP 0 rfl rfl 16 (by decide) (hts _ mw_418) (fun _ h9 => h9) rfl qd_M_count_152 ?_
          exact mk_miret (upd y 0 0) hx hb hr hlocks hP hK hD hS qd_M_count_155 ⟨rfl, fun h0 => by subst h0; rfl⟩
        · refine lv_tableIn (off := 118) (tgt := 156) hx hb qd_M_count_38 (by decide) (by decide) (by decide) (by decide) ?_
          refine lv_aload_n hx hb qd_M_count_156 rfl (lv_at hl 0 rfl) ?_
          refine va_get (D := (dC, dI)) (ci := 1) (v := .int (y 17)) (C := qR_M) (T := qT_M) (N := 24) hx hb hts qin_M hown hK hP 0 rfl rfl 17 (by decide) (hts _ mw_419) (fun _ h9 => h9) rfl qd_M_count_157 ?_
          exact mk_miret (upd y 0 0) hx hb hr hlocks hP hK hD hS qd_M_count_160 ⟨rfl, fun h0 => by subst h0; rfl⟩
        · refine lv_tableIn (off := 123) (tgt := 161) hx hb qd_M_count_38 (by decide) (by decide) (by decide) (by decide) ?_
          refine lv_aload_n hx hb qd_M_count_161 rfl (lv_at hl 0 rfl) ?_
          refine va_get (D := (dC, dI)) (ci := 1) (v := .int (y 18)) (C := qR_M) (T := qT_M) (N := 24) hx hb hts qin_M hown hK hP 0 rfl rfl 18 (by decide) (hts _ mw_420) (fun _ h9 => h9) rfl qd_M_count_162 ?_
          exact mk_miret (upd y 0 0) hx hb hr hlocks hP hK hD hS qd_M_count_165 ⟨rfl, fun h0 => by subst h0; rfl⟩
        · refine lv_tableIn (off := 128) (tgt := 166) hx hb qd_M_count_38 (by decide) (by decide) (by decide) (by decide) ?_
          refine lv_aload_n hx hb qd_M_count_166 rfl (lv_at hl 0 rfl) ?_
          refine va_get (D := (dC, dI)) (ci := 1) (v := .int (y 19)) (C := qR_M) (T := qT_M) (N := 24) hx hb hts qin_M hown hK hP 0 rfl rfl 19 (by decide) (hts _ mw_421) (fun _ h9 => h9) rfl qd_M_count_167 ?_
          exact mk_miret (upd y 0 0) hx hb hr hlocks hP hK hD hS qd_M_count_170 ⟨rfl, fun h0 => by subst h0; rfl⟩
        · refine lv_tableIn (off := 133) (tgt := 171) hx hb qd_M_count_38 (by decide) (by decide) (by decide) (by decide) ?_
          refine lv_aload_n hx hb qd_M_count_171 rfl (lv_at hl 0 rfl) ?_
          refine va_get (D := (dC, dI)) (ci := 1) (v := .int (y 8)) (C := qR_M) (T := qT_M) (N := 24) hx hb hts qin_M hown hK hP 0 rfl rfl 8 (by decide) (hts _ mw_410) (fun _ h9 => h9) rfl qd_M_count_172 ?_
          exact mk_miret (upd y 0 0) hx hb hr hlocks hP hK hD hS qd_M_count_175 ⟨rfl, fun h0 => by subst h0; rfl⟩
        · refine lv_tableIn (off := 138) (tgt := 176) hx hb qd_M_count_38 (by decide) (by decide) (by decide) (by decide) ?_
          refine lv_iload_n hx hb qd_M_count_176 rfl (lv_at hl 1 rfl) ?_
          refine lv_bipush (v := 11) hx hb qd_M_count_177 (by decide) ?_
          refine lv_isub hx hb qd_M_count_179 ?_
          refine lv_aload_n hx hb qd_M_count_180 rfl (lv_at hl 0 rfl) ?_
          refine va_get (D := (dC, dI)) (ci := 1) (v := .int (y 1)) (C := qR_M) (T := qT_M) (N := 24) hx hb hts qin_M hown hK hP 0 rfl rfl 1 (by decide) (hts _ mw_403) (fun _ h9 => h9) rfl qd_M_count_181 ?_
          refine lv_icmp_ge (tgt := 199) hx hb qd_M_count_184 (by decide) (fun c_4 => ?_) (fun c_4 => ?_)
          · refine lv_bipush (v := (-2)) hx hb qd_M_count_199 (by decide) ?_
            exact mk_miret (upd y 0 0) hx hb hr hlocks hP hK hD hS qd_M_count_201 ⟨rfl, fun h0 => by subst h0; rfl⟩
          · refine lv_aload_n hx hb qd_M_count_187 rfl (lv_at hl 0 rfl) ?_
            refine va_get (D := (dC, dI)) (ci := 1) (v := .ref (b 1)) (C := qR_M) (T := qT_M) (N := 24) hx hb hts qin_M hown hK hP 0 rfl rfl 7 (by decide) (hts _ mw_409) (fun _ h9 => h9) rfl qd_M_count_188 ?_
            refine lv_iload_n hx hb qd_M_count_191 rfl (lv_at hl 1 rfl) ?_
            refine lv_bipush (v := 11) hx hb qd_M_count_192 (by decide) ?_
            refine lv_isub hx hb qd_M_count_194 ?_
            refine mk_rw (y := nI 0) (by decide) ?_
            refine va_iald (i := (nI 0)) hx hb hK hP 1 0 rfl rfl (vp_in_nI (by omega) (by omega)) qd_M_count_195 ?_
            refine mk_rw (y := ma 0) (congrArg _ (nI_clamp (by omega))) ?_
            refine lv_goto (tgt := 201) hx hb qd_M_count_196 (by decide) ?_
            exact mk_miret (upd y 0 0) hx hb hr hlocks hP hK hD hS qd_M_count_201 ⟨rfl, fun h0 => by subst h0; exact absurd c_4 (by decide)⟩
        · refine lv_tableIn (off := 138) (tgt := 176) hx hb qd_M_count_38 (by decide) (by decide) (by decide) (by decide) ?_
          refine lv_iload_n hx hb qd_M_count_176 rfl (lv_at hl 1 rfl) ?_
          refine lv_bipush (v := 11) hx hb qd_M_count_177 (by decide) ?_
          refine lv_isub hx hb qd_M_count_179 ?_
          refine lv_aload_n hx hb qd_M_count_180 rfl (lv_at hl 0 rfl) ?_
          refine va_get (D := (dC, dI)) (ci := 1) (v := .int (y 1)) (C := qR_M) (T := qT_M) (N := 24) hx hb hts qin_M hown hK hP 0 rfl rfl 1 (by decide) (hts _ mw_403) (fun _ h9 => h9) rfl qd_M_count_181 ?_
          refine lv_icmp_ge (tgt := 199) hx hb qd_M_count_184 (by decide) (fun c_5 => ?_) (fun c_5 => ?_)
          · refine lv_bipush (v := (-2)) hx hb qd_M_count_199 (by decide) ?_
            exact mk_miret (upd y 0 0) hx hb hr hlocks hP hK hD hS qd_M_count_201 ⟨rfl, fun h0 => by subst h0; rfl⟩
          · refine lv_aload_n hx hb qd_M_count_187 rfl (lv_at hl 0 rfl) ?_
            refine va_get (D := (dC, dI)) (ci := 1) (v := .ref (b 1)) (C := qR_M) (T := qT_M) (N := 24) hx hb hts qin_M hown hK hP 0 rfl rfl 7 (by decide) (hts _ mw_409) (fun _ h9 => h9) rfl qd_M_count_188 ?_
            refine lv_iload_n hx hb qd_M_count_191 rfl (lv_at hl 1 rfl) ?_
            refine lv_bipush (v := 11) hx hb qd_M_count_192 (by decide) ?_
            refine lv_isub hx hb qd_M_count_194 ?_
            refine mk_rw (y := nI 1) (by decide) ?_
            refine va_iald (i := (nI 1)) hx hb hK hP 1 0 rfl rfl (vp_in_nI (by omega) (by omega)) qd_M_count_195 ?_
            refine mk_rw (y := ma 1) (congrArg _ (nI_clamp (by omega))) ?_
            refine lv_goto (tgt := 201) hx hb qd_M_count_196 (by decide) ?_
            exact mk_miret (upd y 0 0) hx hb hr hlocks hP hK hD hS qd_M_count_201 ⟨rfl, fun h0 => by subst h0; exact absurd c_5 (by decide)⟩
        · refine lv_tableIn (off := 138) (tgt := 176) hx hb qd_M_count_38 (by decide) (by decide) (by decide) (by decide) ?_
          refine lv_iload_n hx hb qd_M_count_176 rfl (lv_at hl 1 rfl) ?_
          refine lv_bipush (v := 11) hx hb qd_M_count_177 (by decide) ?_
          refine lv_isub hx hb qd_M_count_179 ?_
          refine lv_aload_n hx hb qd_M_count_180 rfl (lv_at hl 0 rfl) ?_
          refine va_get (D := (dC, dI)) (ci := 1) (v := .int (y 1)) (C := qR_M) (T := qT_M) (N := 24) hx hb hts qin_M hown hK hP 0 rfl rfl 1 (by decide) (hts _ mw_403) (fun _ h9 => h9) rfl qd_M_count_181 ?_
          refine lv_icmp_ge (tgt := 199) hx hb qd_M_count_184 (by decide) (fun c_6 => ?_) (fun c_6 => ?_)
          · refine lv_bipush (v := (-2)) hx hb qd_M_count_199 (by decide) ?_
            exact mk_miret (upd y 0 0) hx hb hr hlocks hP hK hD hS qd_M_count_201 ⟨rfl, fun h0 => by subst h0; rfl⟩
          · refine lv_aload_n hx hb qd_M_count_187 rfl (lv_at hl 0 rfl) ?_
            refine va_get (D := (dC, dI)) (ci := 1) (v := .ref (b 1)) (C := qR_M) (T := qT_M) (N := 24) hx hb hts qin_M hown hK hP 0 rfl rfl 7 (by decide) (hts _ mw_409) (fun _ h9 => h9) rfl qd_M_count_188 ?_
            refine lv_iload_n hx hb qd_M_count_191 rfl (lv_at hl 1 rfl) ?_
            refine lv_bipush (v := 11) hx hb qd_M_count_192 (by decide) ?_
            refine lv_isub hx hb qd_M_count_194 ?_
            refine mk_rw (y := nI 2) (by decide) ?_
            refine va_iald (i := (nI 2)) hx hb hK hP 1 0 rfl rfl (vp_in_nI (by omega) (by omega)) qd_M_count_195 ?_
            refine mk_rw (y := ma 2) (congrArg _ (nI_clamp (by omega))) ?_
            refine lv_goto (tgt := 201) hx hb qd_M_count_196 (by decide) ?_
            exact mk_miret (upd y 0 0) hx hb hr hlocks hP hK hD hS qd_M_count_201 ⟨rfl, fun h0 => by subst h0; exact absurd c_6 (by decide)⟩
        · refine lv_tableIn (off := 164) (tgt := 202) hx hb qd_M_count_38 (by decide) (by decide) (by decide) (by decide) ?_
          refine lv_aload_n hx hb qd_M_count_202 rfl (lv_at hl 0 rfl) ?_
          refine va_get (D := (dC, dI)) (ci := 1) (v := .int (y 2)) (C := qR_M) (T := qT_M) (N := 24) hx hb hts qin_M hown hK hP 0 rfl rfl 2 (by decide) (hts _ mw_404) (fun _ h9 => h9) rfl qd_M_count_203 ?_
          exact mk_miret (upd y 0 0) hx hb hr hlocks hP hK hD hS qd_M_count_206 ⟨rfl, fun h0 => by subst h0; rfl⟩
        · refine lv_tableIn (off := 169) (tgt := 207) hx hb qd_M_count_38 (by decide) (by decide) (by decide) (by decide) ?_
          refine lv_aload_n hx hb qd_M_count_207 rfl (lv_at hl 0 rfl) ?_
          refine va_get (D := (dC, dI)) (ci := 1) (v := .int (y 3)) (C := qR_M) (T := qT_M) (N := 24) hx hb hts qin_M hown hK hP 0 rfl rfl 3 (by decide) (hts _ mw_405) (fun _ h9 => h9) rfl qd_M_count_208 ?_
          exact mk_miret (upd y 0 0) hx hb hr hlocks hP hK hD hS qd_M_count_211 ⟨rfl, fun h0 => by subst h0; rfl⟩
        · refine lv_tableIn (off := 174) (tgt := 212) hx hb qd_M_count_38 (by decide) (by decide) (by decide) (by decide) ?_
          refine lv_aload_n hx hb qd_M_count_212 rfl (lv_at hl 0 rfl) ?_
          refine va_get (D := (dC, dI)) (ci := 1) (v := .int (y 4)) (C := qR_M) (T := qT_M) (N := 24) hx hb hts qin_M hown hK hP 0 rfl rfl 4 (by decide) (hts _ mw_406) (fun _ h9 => h9) rfl qd_M_count_213 ?_
          exact mk_miret (upd y 0 0) hx hb hr hlocks hP hK hD hS qd_M_count_216 ⟨rfl, fun h0 => by subst h0; rfl⟩
        · refine lv_tableIn (off := 179) (tgt := 217) hx hb qd_M_count_38 (by decide) (by decide) (by decide) (by decide) ?_
          refine lv_aload_n hx hb qd_M_count_217 rfl (lv_at hl 0 rfl) ?_
          refine va_get (D := (dC, dI)) (ci := 1) (v := .int (y 5)) (C := qR_M) (T := qT_M) (N := 24) hx hb hts qin_M hown hK hP 0 rfl rfl 5 (by decide) (hts _ mw_407) (fun _ h9 => h9) rfl qd_M_count_218 ?_
          exact mk_miret (upd y 0 0) hx hb hr hlocks hP hK hD hS qd_M_count_221 ⟨rfl, fun h0 => by subst h0; rfl⟩
    · exact absurd (nI_le (by omega) (by omega)) c_3
