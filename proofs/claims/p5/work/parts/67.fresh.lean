set_option maxHeartbeats 4000000 in
set_option maxRecDepth 100000 in
/-- there(i, what) where no ROW is there -/
theorem c_X_there0 (l : Launch) (dC : Nat → ClassId) (dI : Nat → Nat → Nat) (cA : ClassId) (sz : Nat) (a : Nat → Nat) (x ru ma jo : Nat → Int32) (gv tk : Int32) (V : List (Nat → Int32)) (fV : Nat → Int32) (R : List (Nat → Int32)) (fR : Nat → Int32) (Lo : List (Nat → Int32)) (fO : Nat → Int32) (n3 : Nat) (hi : xi_ok x V fV R fR Lo fO n3) (i wh : Int32) : Met l qy_X_there qw_X_there ({ frames := 2, cells := 0, slots := 0, locals := 44 }) (mk_ro [.ref (a 0), .int i, .int wh] sz (dC, dI) vwCl [(cA, .int)] (wX a cA x ru ma jo gv tk V.length fV R.length fR Lo.length fO)) (mk_roQ (fun r => R = [] → r = -1) sz) 0 0 (mk_new sz) := by
  refine Met.ofW (cc := qb_X_there) (maxL := 3) (ret := (some .int)) (by decide) rfl ?_
  intro p e s m args below meth c s₁ B hml hpre
  obtain ⟨rfl, hsz, hP, hK⟩ := hpre
  have hx := B.exec
  have hb := B.bytes
  have hr := B.returns
  have hts0 := atoms_spec (ws := qw_X_there) B.pre
  have hts := fun w (h : w ∈ lw_gd) => hts0 w (List.mem_cons_of_mem _ h)
  have hown : s.vm.findClass qR_X = some m.cls := findClass_of_methodNamed B.named
  have hlocks := B.notSynchronized
  subst hsz
  have hA : ∀ q : Nat, s.heap.size ≤ q → mk_new s.heap.size q := fun _ h => h
  have hS : va_S (mk_new s.heap.size) s.heap s.heap [] := va_S.rf
  have hl := lv_entry ([.ref (a 0), .int i, .int wh]) (n := 3) (Nat.le_of_ble_eq_true rfl)
  rw [lg_entry_eq]
  generalize (lg_sl ([.ref (a 0), .int i, .int wh]) ++ List.replicate (3 - (lg_sl ([.ref (a 0), .int i, .int wh])).length) Slot.unset).toArray = ls at hl ⊢
  have hl : lv_has ls 3 [(0, .ref (a 0)), (1, .int i), (2, .int wh)] := hl
  have hP : va_P (dC, dI) vwCl (wX a cA x ru ma jo gv tk V.length fV R.length fR Lo.length fO) s.heap := hP
  refine mk_start (A := (mk_new s.heap.size)) hP (fun H locs hP hS => ?_)
  obtain ⟨hV, hR, hO, hsort, hpl, hky, hn3, h3⟩ := id hi
  obtain ⟨hokV, hlenV, -, -, -⟩ := id hV
  obtain ⟨hokR, hlenR, -, -, -⟩ := id hR
  obtain ⟨hokO, hlenO, -, -, -⟩ := id hO
  refine lv_iload_n hx hb qd_X_there_0 rfl (lv_at hl 1 rfl) ?_
  refine lv_if_lt (tgt := 25) hx hb qd_X_there_1 (by decide) (fun c_1 => ?_) (fun c_1 => ?_)
  · refine lv_iconst (v := (-1)) hx hb qd_X_there_25 (by decide) ?_
    exact mk_iret hx hb hr hlocks hS qd_X_there_26 (fun _ => rfl)
  · refine lv_iload_n hx hb qd_X_there_4 rfl (lv_at hl 1 rfl) ?_
    refine lv_aload_n hx hb qd_X_there_5 rfl (lv_at hl 0 rfl) ?_
    refine va_get (D := (dC, dI)) (ci := 0) (v := .ref (a 7)) (C := qR_X) (T := qT_X) (N := 13) hx hb hts qin_X hown hK hP 0 rfl rfl 3 (by decide) (hts _ mw_119) (fun _ h9 => h9) rfl qd_X_there_6 ?_
    refine mk_calli (va_runV (As := []) (rest := [.int i]) ⟨hx, hb, hml, hown, hts⟩ (c_R_size l dC dI cA H.size (a 7) (a 8) (a 9) fR R hR) (cwV 0 hts gc_X_94 rfl rfl rfl (by decide +kernel) ⟨Nat.le_of_ble_eq_true rfl, Nat.le_of_ble_eq_true rfl⟩) (mk_roV hP [7, 8, 9] rfl hK (va_recv hK hP (ci := 3) (q0 := 7) rfl rfl)) rfl rfl hl.1 rfl (lv_room (Nat.le_of_ble_eq_true rfl)) qd_X_there_9 ⟨(Nat.zero_le _), (Nat.zero_le _)⟩) hS hA hP (fun r_2 H locs hr_2 hP hS => ?_)
    obtain rfl : r_2 = nI R.length := hr_2
    refine lv_icmp_ge (tgt := 25) hx hb qd_X_there_12 (by decide) (fun c_3 => ?_) (fun c_3 => ?_)
    · refine lv_iconst (v := (-1)) hx hb qd_X_there_25 (by decide) ?_
      exact mk_iret hx hb hr hlocks hS qd_X_there_26 (fun _ => rfl)
    · refine lv_iload_n hx hb qd_X_there_15 rfl (lv_at hl 2 rfl) ?_
      refine lv_if_lt (tgt := 25) hx hb qd_X_there_16 (by decide) (fun c_4 => ?_) (fun c_4 => ?_)
      · refine lv_iconst (v := (-1)) hx hb qd_X_there_25 (by decide) ?_
        exact mk_iret hx hb hr hlocks hS qd_X_there_26 (fun _ => rfl)
      · refine lv_iload_n hx hb qd_X_there_19 rfl (lv_at hl 2 rfl) ?_
        refine lv_bipush (v := 6) hx hb qd_X_there_20 (by decide) ?_
        refine lv_icmp_lt (tgt := 27) hx hb qd_X_there_22 (by decide) (fun c_5 => ?_) (fun c_5 => ?_)
        · refine lv_aload_n hx hb qd_X_there_27 rfl (lv_at hl 0 rfl) ?_
          refine va_get (D := (dC, dI)) (ci := 0) (v := .ref (a 7)) (C := qR_X) (T := qT_X) (N := 13) hx hb hts qin_X hown hK hP 0 rfl rfl 3 (by decide) (hts _ mw_119) (fun _ h9 => h9) rfl qd_X_there_28 ?_
          refine lv_iload_n hx hb qd_X_there_31 rfl (lv_at hl 1 rfl) ?_
          refine lv_iload_n hx hb qd_X_there_32 rfl (lv_at hl 2 rfl) ?_
          refine mk_calli (va_runV (As := [.int i, .int wh]) (rest := []) ⟨hx, hb, hml, hown, hts⟩ (c_R_get l dC dI cA H.size (a 7) (a 8) (a 9) fR R hR i wh) (cwV 2 hts gc_X_129 rfl rfl rfl (by decide +kernel) ⟨Nat.le_of_ble_eq_true rfl, Nat.le_of_ble_eq_true rfl⟩) (mk_roV hP [7, 8, 9] rfl hK (va_recv hK hP (ci := 3) (q0 := 7) rfl rfl)) rfl rfl hl.1 rfl (lv_room (Nat.le_of_ble_eq_true rfl)) qd_X_there_33 ⟨(Nat.zero_le _), (Nat.zero_le _)⟩) hS hA hP (fun r_6 H locs hr_6 hP hS => ?_)
          exact mk_iret hx hb hr hlocks hS qd_X_there_36 (fun h => absurd (sh_le_of c_1) (by subst h; exact c_3))
        · refine lv_iconst (v := (-1)) hx hb qd_X_there_25 (by decide) ?_
          exact mk_iret hx hb hr hlocks hS qd_X_there_26 (fun _ => rfl)
set_option maxHeartbeats 4000000 in
set_option maxRecDepth 100000 in
/-- out(i, what) where no telling is there -/
theorem c_X_out0 (l : Launch) (dC : Nat → ClassId) (dI : Nat → Nat → Nat) (cA : ClassId) (sz : Nat) (a : Nat → Nat) (x ru ma jo : Nat → Int32) (gv tk : Int32) (V : List (Nat → Int32)) (fV : Nat → Int32) (R : List (Nat → Int32)) (fR : Nat → Int32) (Lo : List (Nat → Int32)) (fO : Nat → Int32) (n3 : Nat) (hi : xi_ok x V fV R fR Lo fO n3) (i wh : Int32) : Met l qy_X_out qw_X_out ({ frames := 2, cells := 0, slots := 0, locals := 44 }) (mk_ro [.ref (a 0), .int i, .int wh] sz (dC, dI) vwCl [(cA, .int)] (wX a cA x ru ma jo gv tk V.length fV R.length fR Lo.length fO)) (mk_roQ (fun r => Lo = [] → (i = -1 ∧ r = 0) ∨ (¬ i = -1 ∧ r = -1)) sz) 0 0 (mk_new sz) := by
  refine Met.ofW (cc := qb_X_out) (maxL := 3) (ret := (some .int)) (by decide) rfl ?_
  intro p e s m args below meth c s₁ B hml hpre
  obtain ⟨rfl, hsz, hP, hK⟩ := hpre
  have hx := B.exec
  have hb := B.bytes
  have hr := B.returns
  have hts0 := atoms_spec (ws := qw_X_out) B.pre
  have hts := fun w (h : w ∈ lw_gd) => hts0 w (List.mem_cons_of_mem _ h)
  have hown : s.vm.findClass qR_X = some m.cls := findClass_of_methodNamed B.named
  have hlocks := B.notSynchronized
  subst hsz
  have hA : ∀ q : Nat, s.heap.size ≤ q → mk_new s.heap.size q := fun _ h => h
  have hS : va_S (mk_new s.heap.size) s.heap s.heap [] := va_S.rf
  have hl := lv_entry ([.ref (a 0), .int i, .int wh]) (n := 3) (Nat.le_of_ble_eq_true rfl)
  rw [lg_entry_eq]
  generalize (lg_sl ([.ref (a 0), .int i, .int wh]) ++ List.replicate (3 - (lg_sl ([.ref (a 0), .int i, .int wh])).length) Slot.unset).toArray = ls at hl ⊢
  have hl : lv_has ls 3 [(0, .ref (a 0)), (1, .int i), (2, .int wh)] := hl
  have hP : va_P (dC, dI) vwCl (wX a cA x ru ma jo gv tk V.length fV R.length fR Lo.length fO) s.heap := hP
  refine mk_start (A := (mk_new s.heap.size)) hP (fun H locs hP hS => ?_)
  obtain ⟨hV, hR, hO, hsort, hpl, hky, hn3, h3⟩ := id hi
  obtain ⟨hokV, hlenV, -, -, -⟩ := id hV
  obtain ⟨hokR, hlenR, -, -, -⟩ := id hR
  obtain ⟨hokO, hlenO, -, -, -⟩ := id hO
  refine lv_iload_n hx hb qd_X_out_0 rfl (lv_at hl 1 rfl) ?_
  refine lv_iconst (v := (-1)) hx hb qd_X_out_1 (by decide) ?_
  refine lv_icmp_ne (tgt := 13) hx hb qd_X_out_2 (by decide) (fun c_1 => ?_) (fun c_1 => ?_)
  · refine lv_iload_n hx hb qd_X_out_13 rfl (lv_at hl 1 rfl) ?_
    refine lv_if_lt (tgt := 44) hx hb qd_X_out_14 (by decide) (fun c_2 => ?_) (fun c_2 => ?_)
    · refine lv_iconst (v := (-1)) hx hb qd_X_out_44 (by decide) ?_
      exact mk_iret hx hb hr hlocks hS qd_X_out_45 (fun _ => Or.inr ⟨c_1, rfl⟩)
    · refine lv_iload_n hx hb qd_X_out_17 rfl (lv_at hl 1 rfl) ?_
      refine lv_aload_n hx hb qd_X_out_18 rfl (lv_at hl 0 rfl) ?_
      refine va_get (D := (dC, dI)) (ci := 0) (v := .ref (a 10)) (C := qR_X) (T := qT_X) (N := 13) hx hb hts qin_X hown hK hP 0 rfl rfl 4 (by decide) (hts _ mw_120) (fun _ h9 => h9) rfl qd_X_out_19 ?_
      refine mk_calli (va_runV (As := []) (rest := [.int i]) ⟨hx, hb, hml, hown, hts⟩ (c_O_size l dC dI cA H.size (a 10) (a 11) (a 12) gv tk fO Lo hO) (cwV 0 hts gc_X_118 rfl rfl rfl (by decide +kernel) ⟨Nat.le_of_ble_eq_true rfl, Nat.le_of_ble_eq_true rfl⟩) (mk_roV hP [10, 11, 12] rfl hK (va_recv hK hP (ci := 2) (q0 := 10) rfl rfl)) rfl rfl hl.1 rfl (lv_room (Nat.le_of_ble_eq_true rfl)) qd_X_out_22 ⟨(Nat.zero_le _), (Nat.zero_le _)⟩) hS hA hP (fun r_3 H locs hr_3 hP hS => ?_)
      obtain rfl : r_3 = nI Lo.length := hr_3
      refine lv_icmp_ge (tgt := 44) hx hb qd_X_out_25 (by decide) (fun c_4 => ?_) (fun c_4 => ?_)
      · refine lv_iconst (v := (-1)) hx hb qd_X_out_44 (by decide) ?_
        exact mk_iret hx hb hr hlocks hS qd_X_out_45 (fun _ => Or.inr ⟨c_1, rfl⟩)
      · refine lv_iload_n hx hb qd_X_out_28 rfl (lv_at hl 2 rfl) ?_
        refine lv_if_lt (tgt := 44) hx hb qd_X_out_29 (by decide) (fun c_5 => ?_) (fun c_5 => ?_)
        · refine lv_iconst (v := (-1)) hx hb qd_X_out_44 (by decide) ?_
          exact mk_iret hx hb hr hlocks hS qd_X_out_45 (fun _ => Or.inr ⟨c_1, rfl⟩)
        · refine lv_iload_n hx hb qd_X_out_32 rfl (lv_at hl 2 rfl) ?_
          refine lv_iconst (v := 5) hx hb qd_X_out_33 (by decide) ?_
          refine lv_iconst (v := 2) hx hb qd_X_out_34 (by decide) ?_
          refine lv_aload_n hx hb qd_X_out_35 rfl (lv_at hl 0 rfl) ?_
          refine va_get (D := (dC, dI)) (ci := 0) (v := .int (x 6)) (C := qR_X) (T := qT_X) (N := 13) hx hb hts qin_X hown hK hP 0 rfl rfl 6 (by decide) (hts _ mw_122) (fun _ h9 => h9) rfl qd_X_out_36 ?_
          refine lv_imul hx hb qd_X_out_39 ?_
          refine lv_iadd hx hb qd_X_out_40 ?_
          refine lv_icmp_lt (tgt := 46) hx hb qd_X_out_41 (by decide) (fun c_6 => ?_) (fun c_6 => ?_)
          · refine lv_aload_n hx hb qd_X_out_46 rfl (lv_at hl 0 rfl) ?_
            refine va_get (D := (dC, dI)) (ci := 0) (v := .ref (a 10)) (C := qR_X) (T := qT_X) (N := 13) hx hb hts qin_X hown hK hP 0 rfl rfl 4 (by decide) (hts _ mw_120) (fun _ h9 => h9) rfl qd_X_out_47 ?_
            refine lv_iload_n hx hb qd_X_out_50 rfl (lv_at hl 1 rfl) ?_
            refine lv_iload_n hx hb qd_X_out_51 rfl (lv_at hl 2 rfl) ?_
            refine mk_calli (va_runV (As := [.int i, .int wh]) (rest := []) ⟨hx, hb, hml, hown, hts⟩ (c_O_get l dC dI cA H.size (a 10) (a 11) (a 12) gv tk fO Lo hO i wh) (cwV 2 hts gc_X_119 rfl rfl rfl (by decide +kernel) ⟨Nat.le_of_ble_eq_true rfl, Nat.le_of_ble_eq_true rfl⟩) (mk_roV hP [10, 11, 12] rfl hK (va_recv hK hP (ci := 2) (q0 := 10) rfl rfl)) rfl rfl hl.1 rfl (lv_room (Nat.le_of_ble_eq_true rfl)) qd_X_out_52 ⟨(Nat.zero_le _), (Nat.zero_le _)⟩) hS hA hP (fun r_7 H locs hr_7 hP hS => ?_)
            exact mk_iret hx hb hr hlocks hS qd_X_out_55 (fun h => absurd (sh_le_of c_2) (by subst h; exact c_4))
          · refine lv_iconst (v := (-1)) hx hb qd_X_out_44 (by decide) ?_
            exact mk_iret hx hb hr hlocks hS qd_X_out_45 (fun _ => Or.inr ⟨c_1, rfl⟩)
  · refine lv_aload_n hx hb qd_X_out_5 rfl (lv_at hl 0 rfl) ?_
    refine va_get (D := (dC, dI)) (ci := 0) (v := .ref (a 10)) (C := qR_X) (T := qT_X) (N := 13) hx hb hts qin_X hown hK hP 0 rfl rfl 4 (by decide) (hts _ mw_120) (fun _ h9 => h9) rfl qd_X_out_6 ?_
    refine mk_calli (va_runV (As := []) (rest := []) ⟨hx, hb, hml, hown, hts⟩ (c_O_size l dC dI cA H.size (a 10) (a 11) (a 12) gv tk fO Lo hO) (cwV 0 hts gc_X_118 rfl rfl rfl (by decide +kernel) ⟨Nat.le_of_ble_eq_true rfl, Nat.le_of_ble_eq_true rfl⟩) (mk_roV hP [10, 11, 12] rfl hK (va_recv hK hP (ci := 2) (q0 := 10) rfl rfl)) rfl rfl hl.1 rfl (lv_room (Nat.le_of_ble_eq_true rfl)) qd_X_out_9 ⟨(Nat.zero_le _), (Nat.zero_le _)⟩) hS hA hP (fun r_8 H locs hr_8 hP hS => ?_)
    obtain rfl : r_8 = nI Lo.length := hr_8
    exact mk_iret hx hb hr hlocks hS qd_X_out_12 (fun h => Or.inl ⟨c_1, by subst h; rfl⟩)
set_option maxHeartbeats 4000000 in
set_option maxRecDepth 100000 in
/-- asOf(table, key, time) where no VERSION is there -/
theorem c_X_asOf0 (l : Launch) (dC : Nat → ClassId) (dI : Nat → Nat → Nat) (cA : ClassId) (sz : Nat) (a : Nat → Nat) (x ru ma jo : Nat → Int32) (gv tk : Int32) (V : List (Nat → Int32)) (fV : Nat → Int32) (R : List (Nat → Int32)) (fR : Nat → Int32) (Lo : List (Nat → Int32)) (fO : Nat → Int32) (n3 : Nat) (hi : xi_ok x V fV R fR Lo fO n3) (t ky tm : Int32) : Met l qy_X_asOf qw_X_asOf ({ frames := 3, cells := 0, slots := 0, locals := 74 }) (mk_ro [.ref (a 0), .int t, .int ky, .int tm] sz (dC, dI) vwCl [(cA, .int)] (wX a cA x ru ma jo gv tk V.length fV R.length fR Lo.length fO)) (mk_roQ (fun r => V = [] → ((xt_b (x 6) t = 0 ∨ xk_b ky = 0 ∨ xm_b tm = 0) ∧ r = -1) ∨ (¬ (xt_b (x 6) t = 0 ∨ xk_b ky = 0 ∨ xm_b tm = 0) ∧ r = -2)) sz) 0 0 (mk_new sz) := by
  refine Met.ofW (cc := qb_X_asOf) (maxL := 5) (ret := (some .int)) (by decide) rfl ?_
  intro p e s m args below meth c s₁ B hml hpre
  obtain ⟨rfl, hsz, hP, hK⟩ := hpre
  have hx := B.exec
  have hb := B.bytes
  have hr := B.returns
  have hts0 := atoms_spec (ws := qw_X_asOf) B.pre
  have hts := fun w (h : w ∈ lw_gd) => hts0 w (List.mem_cons_of_mem _ h)
  have hown : s.vm.findClass qR_X = some m.cls := findClass_of_methodNamed B.named
  have hlocks := B.notSynchronized
  subst hsz
  have hA : ∀ q : Nat, s.heap.size ≤ q → mk_new s.heap.size q := fun _ h => h
  have hS : va_S (mk_new s.heap.size) s.heap s.heap [] := va_S.rf
  have hl := lv_entry ([.ref (a 0), .int t, .int ky, .int tm]) (n := 5) (Nat.le_of_ble_eq_true rfl)
  rw [lg_entry_eq]
  generalize (lg_sl ([.ref (a 0), .int t, .int ky, .int tm]) ++ List.replicate (5 - (lg_sl ([.ref (a 0), .int t, .int ky, .int tm])).length) Slot.unset).toArray = ls at hl ⊢
  have hl : lv_has ls 5 [(0, .ref (a 0)), (1, .int t), (2, .int ky), (3, .int tm)] := hl
  have hP : va_P (dC, dI) vwCl (wX a cA x ru ma jo gv tk V.length fV R.length fR Lo.length fO) s.heap := hP
  refine mk_start (A := (mk_new s.heap.size)) hP (fun H locs hP hS => ?_)
  obtain ⟨hV, hR, hO, hsort, hpl, hky, hn3, h3⟩ := id hi
  obtain ⟨hokV, hlenV, -, -, -⟩ := id hV
  obtain ⟨hokR, hlenR, -, -, -⟩ := id hR
  obtain ⟨hokO, hlenO, -, -, -⟩ := id hO
  refine lv_aload_n hx hb qd_X_asOf_0 rfl (lv_at hl 0 rfl) ?_
  refine lv_iload_n hx hb qd_X_asOf_1 rfl (lv_at hl 1 rfl) ?_
  refine mk_calli (va_runV (As := [.int t]) (rest := []) ⟨hx, hb, hml, hown, hts⟩ (c_X_isTable l dC dI cA H.size a x ru ma jo gv tk V.length fV R.length fR Lo.length fO t) (cwV 1 hts gc_X_48 rfl rfl rfl (by decide +kernel) ⟨Nat.le_of_ble_eq_true rfl, Nat.le_of_ble_eq_true rfl⟩) (mk_roV hP [0, 1, 2, 3, 4, 5, 6, 7, 8, 9, 10, 11, 12] rfl hK (va_recv hK hP (ci := 0) (q0 := 0) rfl rfl)) rfl rfl hl.1 rfl (lv_room (Nat.le_of_ble_eq_true rfl)) qd_X_asOf_2 ⟨(Nat.zero_le _), (Nat.zero_le _)⟩) hS hA hP (fun r_1 H locs hr_1 hP hS => ?_)
  obtain rfl : r_1 = xt_b (x 6) t := hr_1
  refine lv_if_eq (tgt := 22) hx hb qd_X_asOf_5 (by decide) (fun c_2 => ?_) (fun c_2 => ?_)
  · refine lv_iconst (v := (-1)) hx hb qd_X_asOf_22 (by decide) ?_
    exact mk_iret hx hb hr hlocks hS qd_X_asOf_23 (fun _ => Or.inl ⟨Or.inl c_2, rfl⟩)
  · refine lv_iload_n hx hb qd_X_asOf_8 rfl (lv_at hl 2 rfl) ?_
    refine mk_calli (va_runS (As := [.int ky]) (rest := []) ⟨hx, hb, hml, hown, hts⟩ (c_X_isKey l dC dI cA H.size ky) (va_cwS 1 hts gc_X_52 rfl rfl rfl (by decide +kernel) ⟨Nat.le_of_ble_eq_true rfl, Nat.le_of_ble_eq_true rfl⟩) (mk_roS hP [] rfl hK) rfl rfl hl.1 rfl (lv_room (Nat.le_of_ble_eq_true rfl)) qd_X_asOf_9 ⟨(Nat.zero_le _), (Nat.zero_le _)⟩) hS hA hP (fun r_3 H locs hr_3 hP hS => ?_)
    obtain rfl : r_3 = xk_b ky := hr_3
    refine lv_if_eq (tgt := 22) hx hb qd_X_asOf_12 (by decide) (fun c_4 => ?_) (fun c_4 => ?_)
    · refine lv_iconst (v := (-1)) hx hb qd_X_asOf_22 (by decide) ?_
      exact mk_iret hx hb hr hlocks hS qd_X_asOf_23 (fun _ => Or.inl ⟨Or.inr (Or.inl c_4), rfl⟩)
    · refine lv_iload_n hx hb qd_X_asOf_15 rfl (lv_at hl 3 rfl) ?_
      refine mk_calli (va_runS (As := [.int tm]) (rest := []) ⟨hx, hb, hml, hown, hts⟩ (c_X_isTime l dC dI cA H.size tm) (va_cwS 1 hts gc_X_55 rfl rfl rfl (by decide +kernel) ⟨Nat.le_of_ble_eq_true rfl, Nat.le_of_ble_eq_true rfl⟩) (mk_roS hP [] rfl hK) rfl rfl hl.1 rfl (lv_room (Nat.le_of_ble_eq_true rfl)) qd_X_asOf_16 ⟨(Nat.zero_le _), (Nat.zero_le _)⟩) hS hA hP (fun r_5 H locs hr_5 hP hS => ?_)
      obtain rfl : r_5 = xm_b tm := hr_5
      refine lv_if_ne (tgt := 24) hx hb qd_X_asOf_19 (by decide) (fun c_6 => ?_) (fun c_6 => ?_)
      · obtain ⟨t', ht', et, -⟩ := xt_nat c_2
        obtain ⟨kn, hkn, ek⟩ := xk_nat c_4
        refine lv_aload_n hx hb qd_X_asOf_24 rfl (lv_at hl 0 rfl) ?_
        refine va_get (D := (dC, dI)) (ci := 0) (v := .ref (a 4)) (C := qR_X) (T := qT_X) (N := 13) hx hb hts qin_X hown hK hP 0 rfl rfl 2 (by decide) (hts _ mw_118) (fun _ h9 => h9) rfl qd_X_asOf_25 ?_
        refine lv_iload_n hx hb qd_X_asOf_28 rfl (lv_at hl 1 rfl) ?_
        refine lv_iload_n hx hb qd_X_asOf_29 rfl (lv_at hl 2 rfl) ?_
        refine mk_calli (va_runS (As := [.int t, .int ky]) (rest := [.ref (a 4)]) ⟨hx, hb, hml, hown, hts⟩ (c_X_placeOf l dC dI cA H.size t ky) (va_cwS 2 hts gc_X_75 rfl rfl rfl (by decide +kernel) ⟨Nat.le_of_ble_eq_true rfl, Nat.le_of_ble_eq_true rfl⟩) (mk_roS hP [] rfl hK) rfl rfl hl.1 rfl (lv_room (Nat.le_of_ble_eq_true rfl)) qd_X_asOf_30 ⟨(Nat.zero_le _), (Nat.zero_le _)⟩) hS hA hP (fun r_7 H locs hr_7 hP hS => ?_)
        obtain rfl : r_7 = t * 16 + ky := hr_7
        refine mk_rw (y := nI (t' * 16 + kn)) (by rw [et, ek, show (16 : Int32) = nI 16 from rfl, pk_mul, nI_add]) ?_
        refine lv_iload_n hx hb qd_X_asOf_33 rfl (lv_at hl 3 rfl) ?_
        refine lv_aload_n hx hb qd_X_asOf_34 rfl (lv_at hl 0 rfl) ?_
        refine va_get (D := (dC, dI)) (ci := 0) (v := .ref (a 1)) (C := qR_X) (T := qT_X) (N := 13) hx hb hts qin_X hown hK hP 0 rfl rfl 0 (by decide) (hts _ mw_116) (fun _ h9 => h9) rfl qd_X_asOf_35 ?_
        refine lv_iconst (v := 0) hx hb qd_X_asOf_38 (by decide) ?_
        refine va_iald (i := 0) hx hb hK hP 1 0 rfl rfl (show ¬ ((0 : Int32) < 0 ∨ 4 ≤ (0 : Int32).toNatClampNeg) from by decide) qd_X_asOf_39 ?_
        refine mk_rw (y := ru 0) (rfl) ?_
        refine lv_isub hx hb qd_X_asOf_40 ?_
        obtain ⟨k0, hk0⟩ := vs_cuts hsort (nI (t' * 16 + kn)) (tm - ru 0)
        refine mk_calli (va_runV (As := [.int (nI (t' * 16 + kn)), .int (tm - (ru 0))]) (rest := []) ⟨hx, hb, hml, hown, hts⟩ (c_V_lineAsOf l dC dI cA H.size (a 4) (a 5) (a 6) fV V hV (nI (t' * 16 + kn)) (tm - (ru 0)) k0 hk0 (nI_nm2 (by omega))) (cwV 2 hts gc_X_122 rfl rfl rfl (by decide +kernel) ⟨Nat.le_of_ble_eq_true rfl, Nat.le_of_ble_eq_true rfl⟩) (mk_roV hP [4, 5, 6] rfl hK (va_recv hK hP (ci := 5) (q0 := 4) rfl rfl)) rfl rfl hl.1 rfl (lv_room (Nat.le_of_ble_eq_true rfl)) qd_X_asOf_41 ⟨(Nat.zero_le _), (Nat.zero_le _)⟩) hS hA hP (fun r_8 H locs hr_8 hP hS => ?_)
        refine lv_istore (lv' := [(4, .int r_8), (0, .ref (a 0)), (1, .int t), (2, .int ky), (3, .int tm)]) hx hb qd_X_asOf_44 hl (by decide) rfl (fun ls hl => ?_)
        refine lv_iload hx hb qd_X_asOf_46 (lv_at hl 0 rfl) ?_
        refine lv_if_ge (tgt := 56) hx hb qd_X_asOf_48 (by decide) (fun c_9 => ?_) (fun c_9 => ?_)
        · refine lv_aload_n hx hb qd_X_asOf_56 rfl (lv_at hl 1 rfl) ?_
          refine va_get (D := (dC, dI)) (ci := 0) (v := .ref (a 4)) (C := qR_X) (T := qT_X) (N := 13) hx hb hts qin_X hown hK hP 0 rfl rfl 2 (by decide) (hts _ mw_118) (fun _ h9 => h9) rfl qd_X_asOf_57 ?_
          refine lv_iload hx hb qd_X_asOf_60 (lv_at hl 0 rfl) ?_
          refine lv_iconst (v := 1) hx hb qd_X_asOf_62 (by decide) ?_
          refine mk_calli (va_runV (As := [.int r_8, .int 1]) (rest := []) ⟨hx, hb, hml, hown, hts⟩ (c_V_get l dC dI cA H.size (a 4) (a 5) (a 6) fV V hV r_8 1) (cwV 2 hts gc_X_125 rfl rfl rfl (by decide +kernel) ⟨Nat.le_of_ble_eq_true rfl, Nat.le_of_ble_eq_true rfl⟩) (mk_roV hP [4, 5, 6] rfl hK (va_recv hK hP (ci := 5) (q0 := 4) rfl rfl)) rfl rfl hl.1 rfl (lv_room (Nat.le_of_ble_eq_true rfl)) qd_X_asOf_63 ⟨(Nat.zero_le _), (Nat.zero_le _)⟩) hS hA hP (fun r_10 H locs hr_10 hP hS => ?_)
          exact mk_iret hx hb hr hlocks hS qd_X_asOf_66 (fun h => absurd c_9 (by rw [vs_asof_nil h hr_8]; decide))
        · refine lv_bipush (v := (-2)) hx hb qd_X_asOf_51 (by decide) ?_
          refine lv_goto (tgt := 66) hx hb qd_X_asOf_53 (by decide) ?_
          exact mk_iret hx hb hr hlocks hS qd_X_asOf_66 (fun _ => Or.inr ⟨fun q => q.elim c_2 (fun q => q.elim c_4 c_6), rfl⟩)
      · refine lv_iconst (v := (-1)) hx hb qd_X_asOf_22 (by decide) ?_
        exact mk_iret hx hb hr hlocks hS qd_X_asOf_23 (fun _ => Or.inl ⟨Or.inr (Or.inr c_6), rfl⟩)
set_option maxHeartbeats 4000000 in
set_option maxRecDepth 100000 in
/-- version(table, key, i, what) where no VERSION is there -/
theorem c_X_version0 (l : Launch) (dC : Nat → ClassId) (dI : Nat → Nat → Nat) (cA : ClassId) (sz : Nat) (a : Nat → Nat) (x ru ma jo : Nat → Int32) (gv tk : Int32) (V : List (Nat → Int32)) (fV : Nat → Int32) (R : List (Nat → Int32)) (fR : Nat → Int32) (Lo : List (Nat → Int32)) (fO : Nat → Int32) (n3 : Nat) (hi : xi_ok x V fV R fR Lo fO n3) (t ky i wh : Int32) : Met l qy_X_version qw_X_version ({ frames := 4, cells := 0, slots := 0, locals := 94 }) (mk_ro [.ref (a 0), .int t, .int ky, .int i, .int wh] sz (dC, dI) vwCl [(cA, .int)] (wX a cA x ru ma jo gv tk V.length fV R.length fR Lo.length fO)) (mk_roQ (fun r => V = [] → r = -1) sz) 0 0 (mk_new sz) := by
  refine Met.ofW (cc := qb_X_version) (maxL := 6) (ret := (some .int)) (by decide) rfl ?_
  intro p e s m args below meth c s₁ B hml hpre
  obtain ⟨rfl, hsz, hP, hK⟩ := hpre
  have hx := B.exec
  have hb := B.bytes
  have hr := B.returns
  have hts0 := atoms_spec (ws := qw_X_version) B.pre
  have hts := fun w (h : w ∈ lw_gd) => hts0 w (List.mem_cons_of_mem _ h)
  have hown : s.vm.findClass qR_X = some m.cls := findClass_of_methodNamed B.named
  have hlocks := B.notSynchronized
  subst hsz
  have hA : ∀ q : Nat, s.heap.size ≤ q → mk_new s.heap.size q := fun _ h => h
  have hS : va_S (mk_new s.heap.size) s.heap s.heap [] := va_S.rf
  have hl := lv_entry ([.ref (a 0), .int t, .int ky, .int i, .int wh]) (n := 6) (Nat.le_of_ble_eq_true rfl)
  rw [lg_entry_eq]
  generalize (lg_sl ([.ref (a 0), .int t, .int ky, .int i, .int wh]) ++ List.replicate (6 - (lg_sl ([.ref (a 0), .int t, .int ky, .int i, .int wh])).length) Slot.unset).toArray = ls at hl ⊢
  have hl : lv_has ls 6 [(0, .ref (a 0)), (1, .int t), (2, .int ky), (3, .int i), (4, .int wh)] := hl
  have hP : va_P (dC, dI) vwCl (wX a cA x ru ma jo gv tk V.length fV R.length fR Lo.length fO) s.heap := hP
  refine mk_start (A := (mk_new s.heap.size)) hP (fun H locs hP hS => ?_)
  obtain ⟨hV, hR, hO, hsort, hpl, hky, hn3, h3⟩ := id hi
  obtain ⟨hokV, hlenV, -, -, -⟩ := id hV
  obtain ⟨hokR, hlenR, -, -, -⟩ := id hR
  obtain ⟨hokO, hlenO, -, -, -⟩ := id hO
  refine lv_aload_n hx hb qd_X_version_0 rfl (lv_at hl 0 rfl) ?_
  refine lv_iload_n hx hb qd_X_version_1 rfl (lv_at hl 1 rfl) ?_
  refine mk_calli (va_runV (As := [.int t]) (rest := []) ⟨hx, hb, hml, hown, hts⟩ (c_X_isTable l dC dI cA H.size a x ru ma jo gv tk V.length fV R.length fR Lo.length fO t) (cwV 1 hts gc_X_48 rfl rfl rfl (by decide +kernel) ⟨Nat.le_of_ble_eq_true rfl, Nat.le_of_ble_eq_true rfl⟩) (mk_roV hP [0, 1, 2, 3, 4, 5, 6, 7, 8, 9, 10, 11, 12] rfl hK (va_recv hK hP (ci := 0) (q0 := 0) rfl rfl)) rfl rfl hl.1 rfl (lv_room (Nat.le_of_ble_eq_true rfl)) qd_X_version_2 ⟨(Nat.zero_le _), (Nat.zero_le _)⟩) hS hA hP (fun r_1 H locs hr_1 hP hS => ?_)
  obtain rfl : r_1 = xt_b (x 6) t := hr_1
  refine lv_if_eq (tgt := 26) hx hb qd_X_version_5 (by decide) (fun c_2 => ?_) (fun c_2 => ?_)
  · refine lv_iconst (v := (-1)) hx hb qd_X_version_26 (by decide) ?_
    exact mk_iret hx hb hr hlocks hS qd_X_version_27 (fun _ => rfl)
  · refine lv_iload_n hx hb qd_X_version_8 rfl (lv_at hl 2 rfl) ?_
    refine mk_calli (va_runS (As := [.int ky]) (rest := []) ⟨hx, hb, hml, hown, hts⟩ (c_X_isKey l dC dI cA H.size ky) (va_cwS 1 hts gc_X_52 rfl rfl rfl (by decide +kernel) ⟨Nat.le_of_ble_eq_true rfl, Nat.le_of_ble_eq_true rfl⟩) (mk_roS hP [] rfl hK) rfl rfl hl.1 rfl (lv_room (Nat.le_of_ble_eq_true rfl)) qd_X_version_9 ⟨(Nat.zero_le _), (Nat.zero_le _)⟩) hS hA hP (fun r_3 H locs hr_3 hP hS => ?_)
    obtain rfl : r_3 = xk_b ky := hr_3
    refine lv_if_eq (tgt := 26) hx hb qd_X_version_12 (by decide) (fun c_4 => ?_) (fun c_4 => ?_)
    · refine lv_iconst (v := (-1)) hx hb qd_X_version_26 (by decide) ?_
      exact mk_iret hx hb hr hlocks hS qd_X_version_27 (fun _ => rfl)
    · refine mk_after (σ := Unit) (fun y9 H locs ls => (¬ xt_b (x 6) t = 0 ∧ ¬ xk_b ky = 0) ∧ va_P (dC, dI) vwCl (wX a cA x ru ma jo gv tk V.length fV R.length fR Lo.length fO) H ∧ va_S (mk_new s.heap.size) s.heap H locs ∧ lv_has ls 6 [(0, .ref (a 0)), (1, .int t), (2, .int ky), (3, .int i), (4, .int wh)]) (fun ls => F0 m 28 ls []) (fun y9 H locs ls hI => ?_) (fun J_5 => ?_)
      · obtain ⟨z9, rfl⟩ : ∃ z, z = y9 := ⟨_, rfl⟩
        obtain ⟨hinv, hP, hS, hl⟩ := hI
        have hinv : ¬ xt_b (x 6) t = 0 ∧ ¬ xk_b ky = 0 := hinv
        have hP : va_P (dC, dI) vwCl (wX a cA x ru ma jo gv tk V.length fV R.length fR Lo.length fO) H := hP
        have hl : lv_has ls 6 [(0, .ref (a 0)), (1, .int t), (2, .int ky), (3, .int i), (4, .int wh)] := hl
        obtain ⟨t', ht', et, -⟩ := xt_nat hinv.1
        obtain ⟨kn, hkn, ek⟩ := xk_nat hinv.2
        refine lv_iload_n hx hb qd_X_version_28 rfl (lv_at hl 1 rfl) ?_
        refine lv_iload_n hx hb qd_X_version_29 rfl (lv_at hl 2 rfl) ?_
        refine mk_calli (va_runS (As := [.int t, .int ky]) (rest := []) ⟨hx, hb, hml, hown, hts⟩ (c_X_placeOf l dC dI cA H.size t ky) (va_cwS 2 hts gc_X_75 rfl rfl rfl (by decide +kernel) ⟨Nat.le_of_ble_eq_true rfl, Nat.le_of_ble_eq_true rfl⟩) (mk_roS hP [] rfl hK) rfl rfl hl.1 rfl (lv_room (Nat.le_of_ble_eq_true rfl)) qd_X_version_30 ⟨(Nat.zero_le _), (Nat.zero_le _)⟩) hS hA hP (fun r_6 H locs hr_6 hP hS => ?_)
        obtain rfl : r_6 = t * 16 + ky := hr_6
        refine mk_rw (y := nI (t' * 16 + kn)) (by rw [et, ek, show (16 : Int32) = nI 16 from rfl, pk_mul, nI_add]) ?_
        obtain ⟨k0, hk0⟩ := vs_cuts hsort (nI (t' * 16 + kn)) 0
        obtain ⟨k1, hk1⟩ := vs_cuts hsort (nI (t' * 16 + kn)) 100000
        have hkk := vs_cut_mono hk0 hk1 (by decide)
        refine lv_istore (lv' := [(5, .int (nI (t' * 16 + kn))), (0, .ref (a 0)), (1, .int t), (2, .int ky), (3, .int i), (4, .int wh)]) hx hb qd_X_version_33 hl (by decide) rfl (fun ls hl => ?_)
        refine lv_iload_n hx hb qd_X_version_35 rfl (lv_at hl 4 rfl) ?_
        refine lv_if_lt (tgt := 52) hx hb qd_X_version_36 (by decide) (fun c_7 => ?_) (fun c_7 => ?_)
        · refine lv_iconst (v := (-1)) hx hb qd_X_version_52 (by decide) ?_
          exact mk_iret hx hb hr hlocks hS qd_X_version_53 (fun _ => rfl)
        · refine lv_iload_n hx hb qd_X_version_39 rfl (lv_at hl 4 rfl) ?_
          refine lv_aload_n hx hb qd_X_version_40 rfl (lv_at hl 1 rfl) ?_
          refine va_get (D := (dC, dI)) (ci := 0) (v := .ref (a 4)) (C := qR_X) (T := qT_X) (N := 13) hx hb hts qin_X hown hK hP 0 rfl rfl 2 (by decide) (hts _ mw_118) (fun _ h9 => h9) rfl qd_X_version_41 ?_
          refine lv_iload hx hb qd_X_version_44 (lv_at hl 0 rfl) ?_
          refine mk_calli (va_runV (As := [.int (nI (t' * 16 + kn))]) (rest := [.int i]) ⟨hx, hb, hml, hown, hts⟩ (c_V_sizeAt l dC dI cA H.size (a 4) (a 5) (a 6) fV V hV (nI (t' * 16 + kn)) k0 k1 hk0 hk1 hkk) (cwV 1 hts gc_X_87 rfl rfl rfl (by decide +kernel) ⟨Nat.le_of_ble_eq_true rfl, Nat.le_of_ble_eq_true rfl⟩) (mk_roV hP [4, 5, 6] rfl hK (va_recv hK hP (ci := 5) (q0 := 4) rfl rfl)) rfl rfl hl.1 rfl (lv_room (Nat.le_of_ble_eq_true rfl)) qd_X_version_46 ⟨(Nat.zero_le _), (Nat.zero_le _)⟩) hS hA hP (fun r_8 H locs hr_8 hP hS => ?_)
          obtain rfl : r_8 = nI (k1 - k0) := hr_8
          refine lv_icmp_lt (tgt := 54) hx hb qd_X_version_49 (by decide) (fun c_9 => ?_) (fun c_9 => ?_)
          · refine lv_aload_n hx hb qd_X_version_54 rfl (lv_at hl 1 rfl) ?_
            refine va_get (D := (dC, dI)) (ci := 0) (v := .ref (a 4)) (C := qR_X) (T := qT_X) (N := 13) hx hb hts qin_X hown hK hP 0 rfl rfl 2 (by decide) (hts _ mw_118) (fun _ h9 => h9) rfl qd_X_version_55 ?_
            refine lv_aload_n hx hb qd_X_version_58 rfl (lv_at hl 1 rfl) ?_
            refine va_get (D := (dC, dI)) (ci := 0) (v := .ref (a 4)) (C := qR_X) (T := qT_X) (N := 13) hx hb hts qin_X hown hK hP 0 rfl rfl 2 (by decide) (hts _ mw_118) (fun _ h9 => h9) rfl qd_X_version_59 ?_
            refine lv_iload hx hb qd_X_version_62 (lv_at hl 0 rfl) ?_
            refine mk_calli (va_runV (As := [.int (nI (t' * 16 + kn))]) (rest := [.ref (a 4)]) ⟨hx, hb, hml, hown, hts⟩ (c_V_startOf l dC dI cA H.size (a 4) (a 5) (a 6) fV V hV (nI (t' * 16 + kn)) k0 hk0) (cwV 1 hts gc_X_126 rfl rfl rfl (by decide +kernel) ⟨Nat.le_of_ble_eq_true rfl, Nat.le_of_ble_eq_true rfl⟩) (mk_roV hP [4, 5, 6] rfl hK (va_recv hK hP (ci := 5) (q0 := 4) rfl rfl)) rfl rfl hl.1 rfl (lv_room (Nat.le_of_ble_eq_true rfl)) qd_X_version_64 ⟨(Nat.zero_le _), (Nat.zero_le _)⟩) hS hA hP (fun r_10 H locs hr_10 hP hS => ?_)
            refine lv_iload_n hx hb qd_X_version_67 rfl (lv_at hl 4 rfl) ?_
            refine lv_iadd hx hb qd_X_version_68 ?_
            refine lv_iload hx hb qd_X_version_69 (lv_at hl 5 rfl) ?_
            refine mk_calli (va_runV (As := [.int (r_10 + i), .int wh]) (rest := []) ⟨hx, hb, hml, hown, hts⟩ (c_V_get l dC dI cA H.size (a 4) (a 5) (a 6) fV V hV (r_10 + i) wh) (cwV 2 hts gc_X_125 rfl rfl rfl (by decide +kernel) ⟨Nat.le_of_ble_eq_true rfl, Nat.le_of_ble_eq_true rfl⟩) (mk_roV hP [4, 5, 6] rfl hK (va_recv hK hP (ci := 5) (q0 := 4) rfl rfl)) rfl rfl hl.1 rfl (lv_room (Nat.le_of_ble_eq_true rfl)) qd_X_version_71 ⟨(Nat.zero_le _), (Nat.zero_le _)⟩) hS hA hP (fun r_11 H locs hr_11 hP hS => ?_)
            exact mk_iret hx hb hr hlocks hS qd_X_version_74 (fun h => absurd c_9 (by have q1 := hk1.1; rw [h] at q1; have q2 : k1 - k0 = 0 := (by have := (show k1 ≤ 0 from q1); omega); rw [q2]; exact c_7))
          · refine lv_iconst (v := (-1)) hx hb qd_X_version_52 (by decide) ?_
            exact mk_iret hx hb hr hlocks hS qd_X_version_53 (fun _ => rfl)
      · refine lv_iload hx hb qd_X_version_15 (lv_at hl 4 rfl) ?_
        refine lv_if_eq (tgt := 28) hx hb qd_X_version_17 (by decide) (fun c_12 => ?_) (fun c_12 => ?_)
        · exact J_5 () H locs ls ⟨⟨c_2, c_4⟩, hP, hS, lv_sub hl [0, 1, 2, 3, 4] rfl⟩
        · refine lv_iload hx hb qd_X_version_20 (lv_at hl 4 rfl) ?_
          refine lv_iconst (v := 1) hx hb qd_X_version_22 (by decide) ?_
          refine lv_icmp_eq (tgt := 28) hx hb qd_X_version_23 (by decide) (fun c_13 => ?_) (fun c_13 => ?_)
          · exact J_5 () H locs ls ⟨⟨c_2, c_4⟩, hP, hS, lv_sub hl [0, 1, 2, 3, 4] rfl⟩
          · refine lv_iconst (v := (-1)) hx hb qd_X_version_26 (by decide) ?_
            exact mk_iret hx hb hr hlocks hS qd_X_version_27 (fun _ => rfl)
