set_option maxHeartbeats 4000000 in
set_option maxRecDepth 100000 in
/-- isTable(table) -/
theorem c_X_isTable (l : Launch) (dC : Nat → ClassId) (dI : Nat → Nat → Nat) (cA : ClassId) (sz : Nat) (a : Nat → Nat) (x ru ma jo : Nat → Int32) (gv tk : Int32) (kV : Nat) (fV : Nat → Int32) (kR : Nat) (fR : Nat → Int32) (kO : Nat) (fO : Nat → Int32) (t : Int32) : Met l qy_X_isTable qw_X_isTable ({ frames := 0, cells := 0, slots := 0, locals := 0 }) (mk_ro [.ref (a 0), .int t] sz (dC, dI) vwCl [(cA, .int)] (wX a cA x ru ma jo gv tk kV fV kR fR kO fO)) (mk_roQ (fun r => r = xt_b (x 6) t) sz) 0 0 (mk_new sz) := by
  refine Met.ofW (cc := qb_X_isTable) (maxL := 2) (ret := (some .boolean)) (by decide) rfl ?_
  intro p e s m args below meth c s₁ B hml hpre
  obtain ⟨rfl, hsz, hP, hK⟩ := hpre
  have hx := B.exec
  have hb := B.bytes
  have hr := B.returns
  have hts0 := atoms_spec (ws := qw_X_isTable) B.pre
  have hts := fun w (h : w ∈ lw_gd) => hts0 w (List.mem_cons_of_mem _ h)
  have hown : s.vm.findClass qR_X = some m.cls := findClass_of_methodNamed B.named
  have hlocks := B.notSynchronized
  subst hsz
  have hA : ∀ q : Nat, s.heap.size ≤ q → mk_new s.heap.size q := fun _ h => h
  have hS : va_S (mk_new s.heap.size) s.heap s.heap [] := va_S.rf
  have hl := lv_entry ([.ref (a 0), .int t]) (n := 2) (Nat.le_of_ble_eq_true rfl)
  rw [lg_entry_eq]
  generalize (lg_sl ([.ref (a 0), .int t]) ++ List.replicate (2 - (lg_sl ([.ref (a 0), .int t])).length) Slot.unset).toArray = ls at hl ⊢
  have hl : lv_has ls 2 [(0, .ref (a 0)), (1, .int t)] := hl
  have hP : va_P (dC, dI) vwCl (wX a cA x ru ma jo gv tk kV fV kR fR kO fO) s.heap := hP
  refine mk_start (A := (mk_new s.heap.size)) hP (fun H locs hP hS => ?_)
  refine lv_iload_n hx hb qd_X_isTable_0 rfl (lv_at hl 1 rfl) ?_
  refine lv_if_lt (tgt := 21) hx hb qd_X_isTable_1 (by decide) (fun c_1 => ?_) (fun c_1 => ?_)
  · refine lv_iconst (v := 0) hx hb qd_X_isTable_21 (by decide) ?_
    exact mk_zret hx hb hr hlocks hS qd_X_isTable_22 (by decide) ((if_neg (fun q => q.1 c_1)).symm)
  · refine lv_iload_n hx hb qd_X_isTable_4 rfl (lv_at hl 1 rfl) ?_
    refine lv_aload_n hx hb qd_X_isTable_5 rfl (lv_at hl 0 rfl) ?_
    refine va_get (D := (dC, dI)) (ci := 0) (v := .int (x 6)) (C := qR_X) (T := qT_X) (N := 13) hx hb hts qin_X hown hK hP 0 rfl rfl 6 (by decide) (hts _ mw_122) (fun _ h9 => h9) rfl qd_X_isTable_6 ?_
    refine lv_icmp_ge (tgt := 21) hx hb qd_X_isTable_9 (by decide) (fun c_2 => ?_) (fun c_2 => ?_)
    · refine lv_iconst (v := 0) hx hb qd_X_isTable_21 (by decide) ?_
      exact mk_zret hx hb hr hlocks hS qd_X_isTable_22 (by decide) ((if_neg (fun q => q.2.1 c_2)).symm)
    · refine lv_iload_n hx hb qd_X_isTable_12 rfl (lv_at hl 1 rfl) ?_
      refine lv_iconst (v := 3) hx hb qd_X_isTable_13 (by decide) ?_
      refine lv_icmp_ge (tgt := 21) hx hb qd_X_isTable_14 (by decide) (fun c_3 => ?_) (fun c_3 => ?_)
      · refine lv_iconst (v := 0) hx hb qd_X_isTable_21 (by decide) ?_
        exact mk_zret hx hb hr hlocks hS qd_X_isTable_22 (by decide) ((if_neg (fun q => q.2.2 c_3)).symm)
      · refine lv_iconst (v := 1) hx hb qd_X_isTable_17 (by decide) ?_
        refine lv_goto (tgt := 22) hx hb qd_X_isTable_18 (by decide) ?_
        exact mk_zret hx hb hr hlocks hS qd_X_isTable_22 (by decide) ((if_pos ⟨c_1, c_2, c_3⟩).symm)
set_option maxHeartbeats 4000000 in
set_option maxRecDepth 100000 in
/-- isKey(key) -/
theorem c_X_isKey (l : Launch) (dC : Nat → ClassId) (dI : Nat → Nat → Nat) (cA : ClassId) (sz : Nat) (k : Int32) : Met l qy_X_isKey qw_X_isKey ({ frames := 0, cells := 0, slots := 0, locals := 0 }) (mk_ro [.int k] sz (dC, dI) vwCl [(cA, .int)] wN) (mk_roQ (fun r => r = xk_b k) sz) 0 0 (mk_new sz) := by
  refine Met.ofW (cc := qb_X_isKey) (maxL := 1) (ret := (some .boolean)) (by decide) rfl ?_
  intro p e s m args below meth c s₁ B hml hpre
  obtain ⟨rfl, hsz, hP, hK⟩ := hpre
  have hx := B.exec
  have hb := B.bytes
  have hr := B.returns
  have hts0 := atoms_spec (ws := qw_X_isKey) B.pre
  have hts := fun w (h : w ∈ lw_gd) => hts0 w (List.mem_cons_of_mem _ h)
  have hown : s.vm.findClass qR_X = some m.cls := findClass_of_methodNamed B.named
  have hlocks := B.notSynchronized
  subst hsz
  have hA : ∀ q : Nat, s.heap.size ≤ q → mk_new s.heap.size q := fun _ h => h
  have hS : va_S (mk_new s.heap.size) s.heap s.heap [] := va_S.rf
  have hl := lv_entry ([.int k]) (n := 1) (Nat.le_of_ble_eq_true rfl)
  rw [lg_entry_eq]
  generalize (lg_sl ([.int k]) ++ List.replicate (1 - (lg_sl ([.int k])).length) Slot.unset).toArray = ls at hl ⊢
  have hl : lv_has ls 1 [(0, .int k)] := hl
  have hP : va_P (dC, dI) vwCl wN s.heap := hP
  refine mk_start (A := (mk_new s.heap.size)) hP (fun H locs hP hS => ?_)
  refine lv_iload_n hx hb qd_X_isKey_0 rfl (lv_at hl 0 rfl) ?_
  refine lv_if_lt (tgt := 14) hx hb qd_X_isKey_1 (by decide) (fun c_1 => ?_) (fun c_1 => ?_)
  · refine lv_iconst (v := 0) hx hb qd_X_isKey_14 (by decide) ?_
    exact mk_zret hx hb hr hlocks hS qd_X_isKey_15 (by decide) ((if_neg (fun q => q.1 c_1)).symm)
  · refine lv_iload_n hx hb qd_X_isKey_4 rfl (lv_at hl 0 rfl) ?_
    refine lv_bipush (v := 16) hx hb qd_X_isKey_5 (by decide) ?_
    refine lv_icmp_ge (tgt := 14) hx hb qd_X_isKey_7 (by decide) (fun c_2 => ?_) (fun c_2 => ?_)
    · refine lv_iconst (v := 0) hx hb qd_X_isKey_14 (by decide) ?_
      exact mk_zret hx hb hr hlocks hS qd_X_isKey_15 (by decide) ((if_neg (fun q => q.2 c_2)).symm)
    · refine lv_iconst (v := 1) hx hb qd_X_isKey_10 (by decide) ?_
      refine lv_goto (tgt := 15) hx hb qd_X_isKey_11 (by decide) ?_
      exact mk_zret hx hb hr hlocks hS qd_X_isKey_15 (by decide) ((if_pos ⟨c_1, c_2⟩).symm)
set_option maxHeartbeats 4000000 in
set_option maxRecDepth 100000 in
/-- isTime(time) -/
theorem c_X_isTime (l : Launch) (dC : Nat → ClassId) (dI : Nat → Nat → Nat) (cA : ClassId) (sz : Nat) (k : Int32) : Met l qy_X_isTime qw_X_isTime ({ frames := 0, cells := 0, slots := 0, locals := 0 }) (mk_ro [.int k] sz (dC, dI) vwCl [(cA, .int)] wN) (mk_roQ (fun r => r = xm_b k) sz) 0 0 (mk_new sz) := by
  refine Met.ofW (cc := qb_X_isTime) (maxL := 1) (ret := (some .boolean)) (by decide) rfl ?_
  intro p e s m args below meth c s₁ B hml hpre
  obtain ⟨rfl, hsz, hP, hK⟩ := hpre
  have hx := B.exec
  have hb := B.bytes
  have hr := B.returns
  have hts0 := atoms_spec (ws := qw_X_isTime) B.pre
  have hts := fun w (h : w ∈ lw_gd) => hts0 w (List.mem_cons_of_mem _ h)
  have hown : s.vm.findClass qR_X = some m.cls := findClass_of_methodNamed B.named
  have hlocks := B.notSynchronized
  subst hsz
  have hA : ∀ q : Nat, s.heap.size ≤ q → mk_new s.heap.size q := fun _ h => h
  have hS : va_S (mk_new s.heap.size) s.heap s.heap [] := va_S.rf
  have hl := lv_entry ([.int k]) (n := 1) (Nat.le_of_ble_eq_true rfl)
  rw [lg_entry_eq]
  generalize (lg_sl ([.int k]) ++ List.replicate (1 - (lg_sl ([.int k])).length) Slot.unset).toArray = ls at hl ⊢
  have hl : lv_has ls 1 [(0, .int k)] := hl
  have hP : va_P (dC, dI) vwCl wN s.heap := hP
  refine mk_start (A := (mk_new s.heap.size)) hP (fun H locs hP hS => ?_)
  refine lv_iload_n hx hb qd_X_isTime_0 rfl (lv_at hl 0 rfl) ?_
  refine lv_iconst (v := 1) hx hb qd_X_isTime_1 (by decide) ?_
  refine lv_icmp_lt (tgt := 15) hx hb qd_X_isTime_2 (by decide) (fun c_1 => ?_) (fun c_1 => ?_)
  · refine lv_iconst (v := 0) hx hb qd_X_isTime_15 (by decide) ?_
    exact mk_zret hx hb hr hlocks hS qd_X_isTime_16 (by decide) ((if_neg (fun q => q.1 c_1)).symm)
  · refine lv_iload_n hx hb qd_X_isTime_5 rfl (lv_at hl 0 rfl) ?_
    refine lv_ldc (v := 100000) hx hb hown (hts _ mw_178) qd_X_isTime_6 ?_
    refine lv_icmp_gt (tgt := 15) hx hb qd_X_isTime_8 (by decide) (fun c_2 => ?_) (fun c_2 => ?_)
    · refine lv_iconst (v := 0) hx hb qd_X_isTime_15 (by decide) ?_
      exact mk_zret hx hb hr hlocks hS qd_X_isTime_16 (by decide) ((if_neg (fun q => q.2 c_2)).symm)
    · refine lv_iconst (v := 1) hx hb qd_X_isTime_11 (by decide) ?_
      refine lv_goto (tgt := 16) hx hb qd_X_isTime_12 (by decide) ?_
      exact mk_zret hx hb hr hlocks hS qd_X_isTime_16 (by decide) ((if_pos ⟨c_1, c_2⟩).symm)
set_option maxHeartbeats 4000000 in
set_option maxRecDepth 100000 in
/-- isValue(value) -/
theorem c_X_isValue (l : Launch) (dC : Nat → ClassId) (dI : Nat → Nat → Nat) (cA : ClassId) (sz : Nat) (k : Int32) : Met l qy_X_isValue qw_X_isValue ({ frames := 0, cells := 0, slots := 0, locals := 0 }) (mk_ro [.int k] sz (dC, dI) vwCl [(cA, .int)] wN) (mk_roQ (fun r => r = xv_b k) sz) 0 0 (mk_new sz) := by
  refine Met.ofW (cc := qb_X_isValue) (maxL := 1) (ret := (some .boolean)) (by decide) rfl ?_
  intro p e s m args below meth c s₁ B hml hpre
  obtain ⟨rfl, hsz, hP, hK⟩ := hpre
  have hx := B.exec
  have hb := B.bytes
  have hr := B.returns
  have hts0 := atoms_spec (ws := qw_X_isValue) B.pre
  have hts := fun w (h : w ∈ lw_gd) => hts0 w (List.mem_cons_of_mem _ h)
  have hown : s.vm.findClass qR_X = some m.cls := findClass_of_methodNamed B.named
  have hlocks := B.notSynchronized
  subst hsz
  have hA : ∀ q : Nat, s.heap.size ≤ q → mk_new s.heap.size q := fun _ h => h
  have hS : va_S (mk_new s.heap.size) s.heap s.heap [] := va_S.rf
  have hl := lv_entry ([.int k]) (n := 1) (Nat.le_of_ble_eq_true rfl)
  rw [lg_entry_eq]
  generalize (lg_sl ([.int k]) ++ List.replicate (1 - (lg_sl ([.int k])).length) Slot.unset).toArray = ls at hl ⊢
  have hl : lv_has ls 1 [(0, .int k)] := hl
  have hP : va_P (dC, dI) vwCl wN s.heap := hP
  refine mk_start (A := (mk_new s.heap.size)) hP (fun H locs hP hS => ?_)
  refine lv_iload_n hx hb qd_X_isValue_0 rfl (lv_at hl 0 rfl) ?_
  refine lv_if_lt (tgt := 15) hx hb qd_X_isValue_1 (by decide) (fun c_1 => ?_) (fun c_1 => ?_)
  · refine lv_iconst (v := 0) hx hb qd_X_isValue_15 (by decide) ?_
    exact mk_zret hx hb hr hlocks hS qd_X_isValue_16 (by decide) ((if_neg (fun q => q.1 c_1)).symm)
  · refine lv_iload_n hx hb qd_X_isValue_4 rfl (lv_at hl 0 rfl) ?_
    refine lv_sipush (v := 1000) hx hb qd_X_isValue_5 (by decide) ?_
    refine lv_icmp_gt (tgt := 15) hx hb qd_X_isValue_8 (by decide) (fun c_2 => ?_) (fun c_2 => ?_)
    · refine lv_iconst (v := 0) hx hb qd_X_isValue_15 (by decide) ?_
      exact mk_zret hx hb hr hlocks hS qd_X_isValue_16 (by decide) ((if_neg (fun q => q.2 c_2)).symm)
    · refine lv_iconst (v := 1) hx hb qd_X_isValue_11 (by decide) ?_
      refine lv_goto (tgt := 16) hx hb qd_X_isValue_12 (by decide) ?_
      exact mk_zret hx hb hr hlocks hS qd_X_isValue_16 (by decide) ((if_pos ⟨c_1, c_2⟩).symm)
set_option maxHeartbeats 4000000 in
set_option maxRecDepth 100000 in
/-- placeOf(table, key) -/
theorem c_X_placeOf (l : Launch) (dC : Nat → ClassId) (dI : Nat → Nat → Nat) (cA : ClassId) (sz : Nat) (t k : Int32) : Met l qy_X_placeOf qw_X_placeOf ({ frames := 0, cells := 0, slots := 0, locals := 0 }) (mk_ro [.int t, .int k] sz (dC, dI) vwCl [(cA, .int)] wN) (mk_roQ (fun r => r = t * 16 + k) sz) 0 0 (mk_new sz) := by
  refine Met.ofW (cc := qb_X_placeOf) (maxL := 2) (ret := (some .int)) (by decide) rfl ?_
  intro p e s m args below meth c s₁ B hml hpre
  obtain ⟨rfl, hsz, hP, hK⟩ := hpre
  have hx := B.exec
  have hb := B.bytes
  have hr := B.returns
  have hts0 := atoms_spec (ws := qw_X_placeOf) B.pre
  have hts := fun w (h : w ∈ lw_gd) => hts0 w (List.mem_cons_of_mem _ h)
  have hown : s.vm.findClass qR_X = some m.cls := findClass_of_methodNamed B.named
  have hlocks := B.notSynchronized
  subst hsz
  have hA : ∀ q : Nat, s.heap.size ≤ q → mk_new s.heap.size q := fun _ h => h
  have hS : va_S (mk_new s.heap.size) s.heap s.heap [] := va_S.rf
  have hl := lv_entry ([.int t, .int k]) (n := 2) (Nat.le_of_ble_eq_true rfl)
  rw [lg_entry_eq]
  generalize (lg_sl ([.int t, .int k]) ++ List.replicate (2 - (lg_sl ([.int t, .int k])).length) Slot.unset).toArray = ls at hl ⊢
  have hl : lv_has ls 2 [(0, .int t), (1, .int k)] := hl
  have hP : va_P (dC, dI) vwCl wN s.heap := hP
  refine mk_start (A := (mk_new s.heap.size)) hP (fun H locs hP hS => ?_)
  refine lv_iload_n hx hb qd_X_placeOf_0 rfl (lv_at hl 0 rfl) ?_
  refine lv_bipush (v := 16) hx hb qd_X_placeOf_1 (by decide) ?_
  refine lv_imul hx hb qd_X_placeOf_3 ?_
  refine lv_iload_n hx hb qd_X_placeOf_4 rfl (lv_at hl 1 rfl) ?_
  refine lv_iadd hx hb qd_X_placeOf_5 ?_
  exact mk_iret hx hb hr hlocks hS qd_X_placeOf_6 (rfl)
set_option maxHeartbeats 4000000 in
set_option maxRecDepth 100000 in
/-- horizon() -/
theorem c_X_horizon (l : Launch) (dC : Nat → ClassId) (dI : Nat → Nat → Nat) (cA : ClassId) (sz : Nat) (a : Nat → Nat) (x ru ma jo : Nat → Int32) (gv tk : Int32) (kV : Nat) (fV : Nat → Int32) (kR : Nat) (fR : Nat → Int32) (kO : Nat) (fO : Nat → Int32) : Met l qy_X_horizon qw_X_horizon ({ frames := 0, cells := 0, slots := 0, locals := 0 }) (mk_ro [.ref (a 0)] sz (dC, dI) vwCl [(cA, .int)] (wX a cA x ru ma jo gv tk kV fV kR fR kO fO)) (mk_roQ (fun r => r = x 7 - ru 3) sz) 0 0 (mk_new sz) := by
  refine Met.ofW (cc := qb_X_horizon) (maxL := 1) (ret := (some .int)) (by decide) rfl ?_
  intro p e s m args below meth c s₁ B hml hpre
  obtain ⟨rfl, hsz, hP, hK⟩ := hpre
  have hx := B.exec
  have hb := B.bytes
  have hr := B.returns
  have hts0 := atoms_spec (ws := qw_X_horizon) B.pre
  have hts := fun w (h : w ∈ lw_gd) => hts0 w (List.mem_cons_of_mem _ h)
  have hown : s.vm.findClass qR_X = some m.cls := findClass_of_methodNamed B.named
  have hlocks := B.notSynchronized
  subst hsz
  have hA : ∀ q : Nat, s.heap.size ≤ q → mk_new s.heap.size q := fun _ h => h
  have hS : va_S (mk_new s.heap.size) s.heap s.heap [] := va_S.rf
  have hl := lv_entry ([.ref (a 0)]) (n := 1) (Nat.le_of_ble_eq_true rfl)
  rw [lg_entry_eq]
  generalize (lg_sl ([.ref (a 0)]) ++ List.replicate (1 - (lg_sl ([.ref (a 0)])).length) Slot.unset).toArray = ls at hl ⊢
  have hl : lv_has ls 1 [(0, .ref (a 0))] := hl
  have hP : va_P (dC, dI) vwCl (wX a cA x ru ma jo gv tk kV fV kR fR kO fO) s.heap := hP
  refine mk_start (A := (mk_new s.heap.size)) hP (fun H locs hP hS => ?_)
  refine lv_aload_n hx hb qd_X_horizon_0 rfl (lv_at hl 0 rfl) ?_
  refine va_get (D := (dC, dI)) (ci := 0) (v := .int (x 7)) (C := qR_X) (T := qT_X) (N := 13) hx hb hts qin_X hown hK hP 0 rfl rfl 7 (by decide) (hts _ mw_123) (fun _ h9 => h9) rfl qd_X_horizon_1 ?_
  refine lv_aload_n hx hb qd_X_horizon_4 rfl (lv_at hl 0 rfl) ?_
  refine va_get (D := (dC, dI)) (ci := 0) (v := .ref (a 1)) (C := qR_X) (T := qT_X) (N := 13) hx hb hts qin_X hown hK hP 0 rfl rfl 0 (by decide) (hts _ mw_116) (fun _ h9 => h9) rfl qd_X_horizon_5 ?_
  refine lv_iconst (v := 3) hx hb qd_X_horizon_8 (by decide) ?_
  refine va_iald (i := 3) hx hb hK hP 1 0 rfl rfl (show ¬ ((3 : Int32) < 0 ∨ 4 ≤ (3 : Int32).toNatClampNeg) from by decide) qd_X_horizon_9 ?_
  refine mk_rw (y := ru 3) (rfl) ?_
  refine lv_isub hx hb qd_X_horizon_10 ?_
  exact mk_iret hx hb hr hlocks hS qd_X_horizon_11 (rfl)
set_option maxHeartbeats 4000000 in
set_option maxRecDepth 100000 in
/-- markOrNone(table) -/
theorem c_X_markOrNone (l : Launch) (dC : Nat → ClassId) (dI : Nat → Nat → Nat) (cA : ClassId) (sz : Nat) (a : Nat → Nat) (x ru ma jo : Nat → Int32) (gv tk : Int32) (kV : Nat) (fV : Nat → Int32) (kR : Nat) (fR : Nat → Int32) (kO : Nat) (fO : Nat → Int32) (t : Int32) : Met l qy_X_markOrNone qw_X_markOrNone ({ frames := 1, cells := 0, slots := 0, locals := 21 }) (mk_ro [.ref (a 0), .int t] sz (dC, dI) vwCl [(cA, .int)] (wX a cA x ru ma jo gv tk kV fV kR fR kO fO)) (mk_roQ (fun r => r = xmn (x 6) ma t) sz) 0 0 (mk_new sz) := by
  refine Met.ofW (cc := qb_X_markOrNone) (maxL := 2) (ret := (some .int)) (by decide) rfl ?_
  intro p e s m args below meth c s₁ B hml hpre
  obtain ⟨rfl, hsz, hP, hK⟩ := hpre
  have hx := B.exec
  have hb := B.bytes
  have hr := B.returns
  have hts0 := atoms_spec (ws := qw_X_markOrNone) B.pre
  have hts := fun w (h : w ∈ lw_gd) => hts0 w (List.mem_cons_of_mem _ h)
  have hown : s.vm.findClass qR_X = some m.cls := findClass_of_methodNamed B.named
  have hlocks := B.notSynchronized
  subst hsz
  have hA : ∀ q : Nat, s.heap.size ≤ q → mk_new s.heap.size q := fun _ h => h
  have hS : va_S (mk_new s.heap.size) s.heap s.heap [] := va_S.rf
  have hl := lv_entry ([.ref (a 0), .int t]) (n := 2) (Nat.le_of_ble_eq_true rfl)
  rw [lg_entry_eq]
  generalize (lg_sl ([.ref (a 0), .int t]) ++ List.replicate (2 - (lg_sl ([.ref (a 0), .int t])).length) Slot.unset).toArray = ls at hl ⊢
  have hl : lv_has ls 2 [(0, .ref (a 0)), (1, .int t)] := hl
  have hP : va_P (dC, dI) vwCl (wX a cA x ru ma jo gv tk kV fV kR fR kO fO) s.heap := hP
  refine mk_start (A := (mk_new s.heap.size)) hP (fun H locs hP hS => ?_)
  refine lv_aload_n hx hb qd_X_markOrNone_0 rfl (lv_at hl 0 rfl) ?_
  refine lv_iload_n hx hb qd_X_markOrNone_1 rfl (lv_at hl 1 rfl) ?_
  refine mk_calli (va_runV (As := [.int t]) (rest := []) ⟨hx, hb, hml, hown, hts⟩ (c_X_isTable l dC dI cA H.size a x ru ma jo gv tk kV fV kR fR kO fO t) (cwV 1 hts gc_X_48 rfl rfl rfl (by decide +kernel) ⟨Nat.le_of_ble_eq_true rfl, Nat.le_of_ble_eq_true rfl⟩) (mk_roV hP [0, 1, 2, 3, 4, 5, 6, 7, 8, 9, 10, 11, 12] rfl hK (va_recv hK hP (ci := 0) (q0 := 0) rfl rfl)) rfl rfl hl.1 rfl (lv_room (Nat.le_of_ble_eq_true rfl)) qd_X_markOrNone_2 ⟨(Nat.zero_le _), (Nat.zero_le _)⟩) hS hA hP (fun r_1 H locs hr_1 hP hS => ?_)
  obtain rfl : r_1 = xt_b (x 6) t := hr_1
  refine lv_if_eq (tgt := 17) hx hb qd_X_markOrNone_5 (by decide) (fun c_2 => ?_) (fun c_2 => ?_)
  · refine lv_bipush (v := (-2)) hx hb qd_X_markOrNone_17 (by decide) ?_
    exact mk_iret hx hb hr hlocks hS qd_X_markOrNone_19 ((if_neg (rs_n1 c_2)).symm)
  · refine lv_aload_n hx hb qd_X_markOrNone_8 rfl (lv_at hl 0 rfl) ?_
    refine va_get (D := (dC, dI)) (ci := 0) (v := .ref (a 2)) (C := qR_X) (T := qT_X) (N := 13) hx hb hts qin_X hown hK hP 0 rfl rfl 1 (by decide) (hts _ mw_117) (fun _ h9 => h9) rfl qd_X_markOrNone_9 ?_
    have ht3 : vp_in t 3 := xt_in c_2
    refine lv_iload_n hx hb qd_X_markOrNone_12 rfl (lv_at hl 1 rfl) ?_
    refine va_iald (i := t) hx hb hK hP 2 0 rfl rfl ht3 qd_X_markOrNone_13 ?_
    refine mk_rw (y := ma t.toNatClampNeg) (rfl) ?_
    refine lv_goto (tgt := 19) hx hb qd_X_markOrNone_14 (by decide) ?_
    exact mk_iret hx hb hr hlocks hS qd_X_markOrNone_19 ((if_pos (rs_n2 c_2)).symm)
set_option maxHeartbeats 4000000 in
set_option maxRecDepth 100000 in
/-- isLateChange(table, from), of a table -/
theorem c_X_isLateChange (l : Launch) (dC : Nat → ClassId) (dI : Nat → Nat → Nat) (cA : ClassId) (sz : Nat) (a : Nat → Nat) (x ru ma jo : Nat → Int32) (gv tk : Int32) (kV : Nat) (fV : Nat → Int32) (kR : Nat) (fR : Nat → Int32) (kO : Nat) (fO : Nat → Int32) (t fr : Int32) (ht : xt_b (x 6) t = 1) : Met l qy_X_isLateChange qw_X_isLateChange ({ frames := 1, cells := 0, slots := 0, locals := 21 }) (mk_ro [.ref (a 0), .int t, .int fr] sz (dC, dI) vwCl [(cA, .int)] (wX a cA x ru ma jo gv tk kV fV kR fR kO fO)) (mk_roQ (fun r => r = xl_b ma ru (x 7) t fr) sz) 0 0 (mk_new sz) := by
  refine Met.ofW (cc := qb_X_isLateChange) (maxL := 3) (ret := (some .boolean)) (by decide) rfl ?_
  intro p e s m args below meth c s₁ B hml hpre
  obtain ⟨rfl, hsz, hP, hK⟩ := hpre
  have hx := B.exec
  have hb := B.bytes
  have hr := B.returns
  have hts0 := atoms_spec (ws := qw_X_isLateChange) B.pre
  have hts := fun w (h : w ∈ lw_gd) => hts0 w (List.mem_cons_of_mem _ h)
  have hown : s.vm.findClass qR_X = some m.cls := findClass_of_methodNamed B.named
  have hlocks := B.notSynchronized
  subst hsz
  have hA : ∀ q : Nat, s.heap.size ≤ q → mk_new s.heap.size q := fun _ h => h
  have hS : va_S (mk_new s.heap.size) s.heap s.heap [] := va_S.rf
  have hl := lv_entry ([.ref (a 0), .int t, .int fr]) (n := 3) (Nat.le_of_ble_eq_true rfl)
  rw [lg_entry_eq]
  generalize (lg_sl ([.ref (a 0), .int t, .int fr]) ++ List.replicate (3 - (lg_sl ([.ref (a 0), .int t, .int fr])).length) Slot.unset).toArray = ls at hl ⊢
  have hl : lv_has ls 3 [(0, .ref (a 0)), (1, .int t), (2, .int fr)] := hl
  have hP : va_P (dC, dI) vwCl (wX a cA x ru ma jo gv tk kV fV kR fR kO fO) s.heap := hP
  refine mk_start (A := (mk_new s.heap.size)) hP (fun H locs hP hS => ?_)
  refine lv_aload_n hx hb qd_X_isLateChange_0 rfl (lv_at hl 0 rfl) ?_
  refine lv_iload_n hx hb qd_X_isLateChange_1 rfl (lv_at hl 1 rfl) ?_
  refine mk_calli (va_runV (As := [.int t]) (rest := []) ⟨hx, hb, hml, hown, hts⟩ (c_X_isTable l dC dI cA H.size a x ru ma jo gv tk kV fV kR fR kO fO t) (cwV 1 hts gc_X_48 rfl rfl rfl (by decide +kernel) ⟨Nat.le_of_ble_eq_true rfl, Nat.le_of_ble_eq_true rfl⟩) (mk_roV hP [0, 1, 2, 3, 4, 5, 6, 7, 8, 9, 10, 11, 12] rfl hK (va_recv hK hP (ci := 0) (q0 := 0) rfl rfl)) rfl rfl hl.1 rfl (lv_room (Nat.le_of_ble_eq_true rfl)) qd_X_isLateChange_2 ⟨(Nat.zero_le _), (Nat.zero_le _)⟩) hS hA hP (fun r_1 H locs hr_1 hP hS => ?_)
  obtain rfl : r_1 = xt_b (x 6) t := hr_1
  refine lv_if_eq (tgt := 18) hx hb qd_X_isLateChange_5 (by decide) (fun c_2 => ?_) (fun c_2 => ?_)
  · exact absurd (c_2.symm.trans ht) (by decide)
  · refine lv_iload_n hx hb qd_X_isLateChange_8 rfl (lv_at hl 2 rfl) ?_
    refine lv_aload_n hx hb qd_X_isLateChange_9 rfl (lv_at hl 0 rfl) ?_
    refine va_get (D := (dC, dI)) (ci := 0) (v := .ref (a 2)) (C := qR_X) (T := qT_X) (N := 13) hx hb hts qin_X hown hK hP 0 rfl rfl 1 (by decide) (hts _ mw_117) (fun _ h9 => h9) rfl qd_X_isLateChange_10 ?_
    have ht3 : vp_in t 3 := xt_in c_2
    refine lv_iload_n hx hb qd_X_isLateChange_13 rfl (lv_at hl 1 rfl) ?_
    refine va_iald (i := t) hx hb hK hP 2 0 rfl rfl ht3 qd_X_isLateChange_14 ?_
    refine mk_rw (y := ma t.toNatClampNeg) (rfl) ?_
    refine lv_icmp_le (tgt := 20) hx hb qd_X_isLateChange_15 (by decide) (fun c_3 => ?_) (fun c_3 => ?_)
    · refine lv_aload_n hx hb qd_X_isLateChange_20 rfl (lv_at hl 0 rfl) ?_
      refine va_get (D := (dC, dI)) (ci := 0) (v := .ref (a 1)) (C := qR_X) (T := qT_X) (N := 13) hx hb hts qin_X hown hK hP 0 rfl rfl 0 (by decide) (hts _ mw_116) (fun _ h9 => h9) rfl qd_X_isLateChange_21 ?_
      refine lv_iconst (v := 1) hx hb qd_X_isLateChange_24 (by decide) ?_
      refine va_iald (i := 1) hx hb hK hP 1 0 rfl rfl (show ¬ ((1 : Int32) < 0 ∨ 4 ≤ (1 : Int32).toNatClampNeg) from by decide) qd_X_isLateChange_25 ?_
      refine mk_rw (y := ru 1) (rfl) ?_
      refine lv_if_eq (tgt := 37) hx hb qd_X_isLateChange_26 (by decide) (fun c_4 => ?_) (fun c_4 => ?_)
      · refine lv_iconst (v := 1) hx hb qd_X_isLateChange_37 (by decide) ?_
        refine lv_goto (tgt := 42) hx hb qd_X_isLateChange_38 (by decide) ?_
        exact mk_zret hx hb hr hlocks hS qd_X_isLateChange_42 (by decide) ((if_pos ⟨c_3, Or.inl c_4⟩).symm)
      · refine lv_iload_n hx hb qd_X_isLateChange_29 rfl (lv_at hl 2 rfl) ?_
        refine lv_aload_n hx hb qd_X_isLateChange_30 rfl (lv_at hl 0 rfl) ?_
        refine mk_calli (va_runV (As := []) (rest := [.int fr]) ⟨hx, hb, hml, hown, hts⟩ (c_X_horizon l dC dI cA H.size a x ru ma jo gv tk kV fV kR fR kO fO) (cwV 0 hts gc_X_109 rfl rfl rfl (by decide +kernel) ⟨Nat.le_of_ble_eq_true rfl, Nat.le_of_ble_eq_true rfl⟩) (mk_roV hP [0, 1, 2, 3, 4, 5, 6, 7, 8, 9, 10, 11, 12] rfl hK (va_recv hK hP (ci := 0) (q0 := 0) rfl rfl)) rfl rfl hl.1 rfl (lv_room (Nat.le_of_ble_eq_true rfl)) qd_X_isLateChange_31 ⟨(Nat.zero_le _), (Nat.zero_le _)⟩) hS hA hP (fun r_5 H locs hr_5 hP hS => ?_)
        obtain rfl : r_5 = (x 7) - ru 3 := hr_5
        refine lv_icmp_gt (tgt := 41) hx hb qd_X_isLateChange_34 (by decide) (fun c_6 => ?_) (fun c_6 => ?_)
        · refine lv_iconst (v := 0) hx hb qd_X_isLateChange_41 (by decide) ?_
          exact mk_zret hx hb hr hlocks hS qd_X_isLateChange_42 (by decide) ((if_neg (fun q => q.2.elim c_4 (fun q2 => sh_nle c_6 q2))).symm)
        · refine lv_iconst (v := 1) hx hb qd_X_isLateChange_37 (by decide) ?_
          refine lv_goto (tgt := 42) hx hb qd_X_isLateChange_38 (by decide) ?_
          exact mk_zret hx hb hr hlocks hS qd_X_isLateChange_42 (by decide) ((if_pos ⟨c_3, Or.inr (sh_le_of c_6)⟩).symm)
    · refine lv_iconst (v := 0) hx hb qd_X_isLateChange_18 (by decide) ?_
      exact mk_zret hx hb hr hlocks hS qd_X_isLateChange_19 (by decide) ((if_neg (fun q => c_3 q.1)).symm)
set_option maxHeartbeats 4000000 in
set_option maxRecDepth 100000 in
/-- lowestMark() -/
theorem c_X_lowestMark (l : Launch) (dC : Nat → ClassId) (dI : Nat → Nat → Nat) (cA : ClassId) (sz : Nat) (a : Nat → Nat) (x ru ma jo : Nat → Int32) (gv tk : Int32) (kV : Nat) (fV : Nat → Int32) (kR : Nat) (fR : Nat → Int32) (kO : Nat) (fO : Nat → Int32) (n3 : Nat) (hn3 : x 6 = nI n3) (h3 : n3 ≤ 3) : Met l qy_X_lowestMark qw_X_lowestMark ({ frames := 1, cells := 0, slots := 0, locals := 13 }) (mk_ro [.ref (a 0)] sz (dC, dI) vwCl [(cA, .int)] (wX a cA x ru ma jo gv tk kV fV kR fR kO fO)) (mk_roQ (fun r => r = xt_low ma n3) sz) 0 0 (mk_new sz) := by
  refine Met.ofW (cc := qb_X_lowestMark) (maxL := 3) (ret := (some .int)) (by decide) rfl ?_
  intro p e s m args below meth c s₁ B hml hpre
  obtain ⟨rfl, hsz, hP, hK⟩ := hpre
  have hx := B.exec
  have hb := B.bytes
  have hr := B.returns
  have hts0 := atoms_spec (ws := qw_X_lowestMark) B.pre
  have hts := fun w (h : w ∈ lw_gd) => hts0 w (List.mem_cons_of_mem _ h)
  have hown : s.vm.findClass qR_X = some m.cls := findClass_of_methodNamed B.named
  have hlocks := B.notSynchronized
  subst hsz
  have hA : ∀ q : Nat, s.heap.size ≤ q → mk_new s.heap.size q := fun _ h => h
  have hS : va_S (mk_new s.heap.size) s.heap s.heap [] := va_S.rf
  have hl := lv_entry ([.ref (a 0)]) (n := 3) (Nat.le_of_ble_eq_true rfl)
  rw [lg_entry_eq]
  generalize (lg_sl ([.ref (a 0)]) ++ List.replicate (3 - (lg_sl ([.ref (a 0)])).length) Slot.unset).toArray = ls at hl ⊢
  have hl : lv_has ls 3 [(0, .ref (a 0))] := hl
  have hP : va_P (dC, dI) vwCl (wX a cA x ru ma jo gv tk kV fV kR fR kO fO) s.heap := hP
  refine mk_start (A := (mk_new s.heap.size)) hP (fun H locs hP hS => ?_)
  refine lv_ldc (v := 100000) hx hb hown (hts _ mw_178) qd_X_lowestMark_0 ?_
  refine mk_rw (y := xt_low ma 0) (rfl) ?_
  refine lv_istore_n (lv' := [(1, .int (xt_low ma 0)), (0, .ref (a 0))]) hx hb qd_X_lowestMark_2 rfl hl (by decide) rfl (fun ls hl => ?_)
  refine lv_iconst (v := 0) hx hb qd_X_lowestMark_3 (by decide) ?_
  refine mk_rw (y := nI 0) (rfl) ?_
  refine lv_istore_n (lv' := [(2, .int (nI 0)), (1, .int (xt_low ma 0)), (0, .ref (a 0))]) hx hb qd_X_lowestMark_4 rfl hl (by decide) rfl (fun ls hl => ?_)
  refine mk_loop (σ := Nat) (fun n y9 H locs ls => (y9 + n = n3) ∧ va_P (dC, dI) vwCl (wX a cA x ru ma jo gv tk kV fV kR fR kO fO) H ∧ va_S (mk_new s.heap.size) s.heap H locs ∧ lv_has ls 3 [(0, .ref (a 0)), (1, .int (xt_low ma y9)), (2, .int (nI y9))]) (fun ls => F0 m 5 ls []) (fun n y9 H locs ls hI ih_1 => ?_) (fun y9 H locs ls hI => ?_) n3 0 H locs ls ⟨Nat.zero_add _, hP, hS, lv_sub hl [2, 1, 0] rfl⟩
  · obtain ⟨t, rfl⟩ : ∃ z, z = y9 := ⟨_, rfl⟩
    obtain ⟨hinv, hP, hS, hl⟩ := hI
    have hinv : t + (n + 1) = n3 := hinv
    have hP : va_P (dC, dI) vwCl (wX a cA x ru ma jo gv tk kV fV kR fR kO fO) H := hP
    have hl : lv_has ls 3 [(0, .ref (a 0)), (1, .int (xt_low ma t)), (2, .int (nI t))] := hl
    refine lv_iload_n hx hb qd_X_lowestMark_5 rfl (lv_at hl 2 rfl) ?_
    refine lv_aload_n hx hb qd_X_lowestMark_6 rfl (lv_at hl 0 rfl) ?_
    refine va_get (D := (dC, dI)) (ci := 0) (v := .int (x 6)) (C := qR_X) (T := qT_X) (N := 13) hx hb hts qin_X hown hK hP 0 rfl rfl 6 (by decide) (hts _ mw_122) (fun _ h9 => h9) rfl qd_X_lowestMark_7 ?_
    refine mk_rw (y := nI n3) (hn3) ?_
    refine lv_icmp_ge (tgt := 35) hx hb qd_X_lowestMark_10 (by decide) (fun c_2 => ?_) (fun c_2 => ?_)
    · exact absurd c_2 (nI_ge (by omega) (by omega))
    · refine lv_iload_n hx hb qd_X_lowestMark_13 rfl (lv_at hl 2 rfl) ?_
      refine lv_iconst (v := 3) hx hb qd_X_lowestMark_14 (by decide) ?_
      refine lv_icmp_ge (tgt := 35) hx hb qd_X_lowestMark_15 (by decide) (fun c_3 => ?_) (fun c_3 => ?_)
      · exact absurd c_3 (nI_ge (a := t) (b := 3) (by omega) (by decide))
      · refine lv_iload_n hx hb qd_X_lowestMark_18 rfl (lv_at hl 1 rfl) ?_
        refine lv_aload_n hx hb qd_X_lowestMark_19 rfl (lv_at hl 0 rfl) ?_
        refine va_get (D := (dC, dI)) (ci := 0) (v := .ref (a 2)) (C := qR_X) (T := qT_X) (N := 13) hx hb hts qin_X hown hK hP 0 rfl rfl 1 (by decide) (hts _ mw_117) (fun _ h9 => h9) rfl qd_X_lowestMark_20 ?_
        refine lv_iload_n hx hb qd_X_lowestMark_23 rfl (lv_at hl 2 rfl) ?_
        refine va_iald (i := (nI t)) hx hb hK hP 2 0 rfl rfl (vp_in_nI (by omega) (by omega)) qd_X_lowestMark_24 ?_
        refine mk_rw (y := ma t) (congrArg _ (nI_clamp (by omega))) ?_
        refine va_mmin hx hb (hml.trans hl.1.symm) hown (hts _ mw_325) (hts _ mw_326) (hts _ mw_38) (hts _ mw_327) (Nat.le_of_ble_eq_true rfl) (Nat.le_of_ble_eq_true rfl) (Nat.zero_le _) (Nat.zero_le _) qd_X_lowestMark_25 ?_
        refine mk_rw (y := xt_low ma (t + 1)) (rfl) ?_
        refine lv_istore_n (lv' := [(1, .int (xt_low ma (t + 1))), (0, .ref (a 0)), (2, .int (nI t))]) hx hb qd_X_lowestMark_28 rfl hl (by decide) rfl (fun ls hl => ?_)
        refine lv_iinc (v := nI (t + 1)) (lv' := [(2, .int (nI (t + 1))), (1, .int (xt_low ma (t + 1))), (0, .ref (a 0))]) hx hb qd_X_lowestMark_29 hl (k := 2) rfl (mk_inc t) (by decide) rfl (fun ls hl => ?_)
        refine lv_goto (tgt := 5) hx hb qd_X_lowestMark_32 (by decide) ?_
        exact ih_1 (t + 1) H locs ls ⟨by omega, hP, hS, lv_sub hl [2, 1, 0] rfl⟩
  · obtain ⟨t, rfl⟩ : ∃ z, z = y9 := ⟨_, rfl⟩
    obtain ⟨hinv, hP, hS, hl⟩ := hI
    have hinv : t + 0 = n3 := hinv
    have hP : va_P (dC, dI) vwCl (wX a cA x ru ma jo gv tk kV fV kR fR kO fO) H := hP
    have hl : lv_has ls 3 [(0, .ref (a 0)), (1, .int (xt_low ma t)), (2, .int (nI t))] := hl
    have et : t = n3 := by omega
    refine lv_iload_n hx hb qd_X_lowestMark_5 rfl (lv_at hl 2 rfl) ?_
    refine lv_aload_n hx hb qd_X_lowestMark_6 rfl (lv_at hl 0 rfl) ?_
    refine va_get (D := (dC, dI)) (ci := 0) (v := .int (x 6)) (C := qR_X) (T := qT_X) (N := 13) hx hb hts qin_X hown hK hP 0 rfl rfl 6 (by decide) (hts _ mw_122) (fun _ h9 => h9) rfl qd_X_lowestMark_7 ?_
    refine mk_rw (y := nI n3) (hn3) ?_
    refine lv_icmp_ge (tgt := 35) hx hb qd_X_lowestMark_10 (by decide) (fun c_4 => ?_) (fun c_4 => ?_)
    · refine lv_iload_n hx hb qd_X_lowestMark_35 rfl (lv_at hl 1 rfl) ?_
      exact mk_iret hx hb hr hlocks hS qd_X_lowestMark_36 (by rw [et])
    · exact absurd (nI_le (by omega) (by omega)) c_4
set_option maxHeartbeats 4000000 in
set_option maxRecDepth 100000 in
/-- isGivenByJoin() -/
theorem c_X_isGivenByJoin (l : Launch) (dC : Nat → ClassId) (dI : Nat → Nat → Nat) (cA : ClassId) (sz : Nat) (a : Nat → Nat) (x ru ma jo : Nat → Int32) (gv tk : Int32) (kV : Nat) (fV : Nat → Int32) (kR : Nat) (fR : Nat → Int32) (kO : Nat) (fO : Nat → Int32) (n3 : Nat) (hn3 : x 6 = nI n3) (h3 : n3 ≤ 3) : Met l qy_X_isGivenByJoin qw_X_isGivenByJoin ({ frames := 0, cells := 0, slots := 0, locals := 0 }) (mk_ro [.ref (a 0)] sz (dC, dI) vwCl [(cA, .int)] (wX a cA x ru ma jo gv tk kV fV kR fR kO fO)) (mk_roQ (fun r => r = xg_b (ru 2) n3 jo) sz) 0 0 (mk_new sz) := by
  refine Met.ofW (cc := qb_X_isGivenByJoin) (maxL := 2) (ret := (some .boolean)) (by decide) rfl ?_
  intro p e s m args below meth c s₁ B hml hpre
  obtain ⟨rfl, hsz, hP, hK⟩ := hpre
  have hx := B.exec
  have hb := B.bytes
  have hr := B.returns
  have hts0 := atoms_spec (ws := qw_X_isGivenByJoin) B.pre
  have hts := fun w (h : w ∈ lw_gd) => hts0 w (List.mem_cons_of_mem _ h)
  have hown : s.vm.findClass qR_X = some m.cls := findClass_of_methodNamed B.named
  have hlocks := B.notSynchronized
  subst hsz
  have hA : ∀ q : Nat, s.heap.size ≤ q → mk_new s.heap.size q := fun _ h => h
  have hS : va_S (mk_new s.heap.size) s.heap s.heap [] := va_S.rf
  have hl := lv_entry ([.ref (a 0)]) (n := 2) (Nat.le_of_ble_eq_true rfl)
  rw [lg_entry_eq]
  generalize (lg_sl ([.ref (a 0)]) ++ List.replicate (2 - (lg_sl ([.ref (a 0)])).length) Slot.unset).toArray = ls at hl ⊢
  have hl : lv_has ls 2 [(0, .ref (a 0))] := hl
  have hP : va_P (dC, dI) vwCl (wX a cA x ru ma jo gv tk kV fV kR fR kO fO) s.heap := hP
  refine mk_start (A := (mk_new s.heap.size)) hP (fun H locs hP hS => ?_)
  refine lv_aload_n hx hb qd_X_isGivenByJoin_0 rfl (lv_at hl 0 rfl) ?_
  refine va_get (D := (dC, dI)) (ci := 0) (v := .ref (a 1)) (C := qR_X) (T := qT_X) (N := 13) hx hb hts qin_X hown hK hP 0 rfl rfl 0 (by decide) (hts _ mw_116) (fun _ h9 => h9) rfl qd_X_isGivenByJoin_1 ?_
  refine lv_iconst (v := 2) hx hb qd_X_isGivenByJoin_4 (by decide) ?_
  refine va_iald (i := 2) hx hb hK hP 1 0 rfl rfl (show ¬ ((2 : Int32) < 0 ∨ 4 ≤ (2 : Int32).toNatClampNeg) from by decide) qd_X_isGivenByJoin_5 ?_
  refine mk_rw (y := ru 2) (rfl) ?_
  refine lv_if_ne (tgt := 11) hx hb qd_X_isGivenByJoin_6 (by decide) (fun c_1 => ?_) (fun c_1 => ?_)
  · refine lv_iconst (v := 0) hx hb qd_X_isGivenByJoin_11 (by decide) ?_
    refine mk_rw (y := nI 0) (rfl) ?_
    refine lv_istore_n (lv' := [(1, .int (nI 0)), (0, .ref (a 0))]) hx hb qd_X_isGivenByJoin_12 rfl hl (by decide) rfl (fun ls hl => ?_)
    refine mk_loop (σ := Nat) (fun n y9 H locs ls => (y9 + n = n3 ∧ ∀ c, c < y9 → ¬ jo (2 * c) = -2) ∧ va_P (dC, dI) vwCl (wX a cA x ru ma jo gv tk kV fV kR fR kO fO) H ∧ va_S (mk_new s.heap.size) s.heap H locs ∧ lv_has ls 2 [(0, .ref (a 0)), (1, .int (nI y9))]) (fun ls => F0 m 13 ls []) (fun n y9 H locs ls hI ih_2 => ?_) (fun y9 H locs ls hI => ?_) n3 0 H locs ls ⟨⟨Nat.zero_add _, fun _ q => absurd q (Nat.not_lt_zero _)⟩, hP, hS, lv_sub hl [1, 0] rfl⟩
    · obtain ⟨t, rfl⟩ : ∃ z, z = y9 := ⟨_, rfl⟩
      obtain ⟨hinv, hP, hS, hl⟩ := hI
      have hinv : t + (n + 1) = n3 ∧ ∀ c, c < t → ¬ jo (2 * c) = -2 := hinv
      have hP : va_P (dC, dI) vwCl (wX a cA x ru ma jo gv tk kV fV kR fR kO fO) H := hP
      have hl : lv_has ls 2 [(0, .ref (a 0)), (1, .int (nI t))] := hl
      refine lv_iload_n hx hb qd_X_isGivenByJoin_13 rfl (lv_at hl 1 rfl) ?_
      refine lv_aload_n hx hb qd_X_isGivenByJoin_14 rfl (lv_at hl 0 rfl) ?_
      refine va_get (D := (dC, dI)) (ci := 0) (v := .int (x 6)) (C := qR_X) (T := qT_X) (N := 13) hx hb hts qin_X hown hK hP 0 rfl rfl 6 (by decide) (hts _ mw_122) (fun _ h9 => h9) rfl qd_X_isGivenByJoin_15 ?_
      refine mk_rw (y := nI n3) (hn3) ?_
      refine lv_icmp_ge (tgt := 47) hx hb qd_X_isGivenByJoin_18 (by decide) (fun c_3 => ?_) (fun c_3 => ?_)
      · exact absurd c_3 (nI_ge (by omega) (by omega))
      · refine lv_iload_n hx hb qd_X_isGivenByJoin_21 rfl (lv_at hl 1 rfl) ?_
        refine lv_iconst (v := 3) hx hb qd_X_isGivenByJoin_22 (by decide) ?_
        refine lv_icmp_ge (tgt := 47) hx hb qd_X_isGivenByJoin_23 (by decide) (fun c_4 => ?_) (fun c_4 => ?_)
        · exact absurd c_4 (nI_ge (a := t) (b := 3) (by omega) (by decide))
        · refine lv_aload_n hx hb qd_X_isGivenByJoin_26 rfl (lv_at hl 0 rfl) ?_
          refine va_get (D := (dC, dI)) (ci := 0) (v := .ref (a 3)) (C := qR_X) (T := qT_X) (N := 13) hx hb hts qin_X hown hK hP 0 rfl rfl 5 (by decide) (hts _ mw_121) (fun _ h9 => h9) rfl qd_X_isGivenByJoin_27 ?_
          refine lv_iconst (v := 2) hx hb qd_X_isGivenByJoin_30 (by decide) ?_
          refine lv_iload_n hx hb qd_X_isGivenByJoin_31 rfl (lv_at hl 1 rfl) ?_
          refine lv_imul hx hb qd_X_isGivenByJoin_32 ?_
          refine mk_rw (y := nI (2 * t)) (pk_mul 2 t) ?_
          refine va_iald (i := (nI (2 * t))) hx hb hK hP 3 0 rfl rfl (vp_in_nI (by omega) (by omega)) qd_X_isGivenByJoin_33 ?_
          refine mk_rw (y := jo (2 * t)) (congrArg _ (nI_clamp (by omega))) ?_
          refine lv_bipush (v := (-2)) hx hb qd_X_isGivenByJoin_34 (by decide) ?_
          refine lv_icmp_ne (tgt := 41) hx hb qd_X_isGivenByJoin_36 (by decide) (fun c_5 => ?_) (fun c_5 => ?_)
          · refine lv_iinc (v := nI (t + 1)) (lv' := [(1, .int (nI (t + 1))), (0, .ref (a 0))]) hx hb qd_X_isGivenByJoin_41 hl (k := 1) rfl (mk_inc t) (by decide) rfl (fun ls hl => ?_)
            refine lv_goto (tgt := 13) hx hb qd_X_isGivenByJoin_44 (by decide) ?_
            exact ih_2 (t + 1) H locs ls ⟨⟨by omega, fun c q => by rcases Nat.lt_or_ge c t with q2 | q2; exact hinv.2 c q2; obtain rfl : c = t := (by omega); exact c_5⟩, hP, hS, lv_sub hl [1, 0] rfl⟩
          · refine lv_iconst (v := 0) hx hb qd_X_isGivenByJoin_39 (by decide) ?_
            exact mk_zret hx hb hr hlocks hS qd_X_isGivenByJoin_40 (by decide) ((if_neg (fun q => q.elim c_1 (fun q2 => q2 t (by omega) c_5))).symm)
    · obtain ⟨t, rfl⟩ : ∃ z, z = y9 := ⟨_, rfl⟩
      obtain ⟨hinv, hP, hS, hl⟩ := hI
      have hinv : t + 0 = n3 ∧ ∀ c, c < t → ¬ jo (2 * c) = -2 := hinv
      have hP : va_P (dC, dI) vwCl (wX a cA x ru ma jo gv tk kV fV kR fR kO fO) H := hP
      have hl : lv_has ls 2 [(0, .ref (a 0)), (1, .int (nI t))] := hl
      refine lv_iload_n hx hb qd_X_isGivenByJoin_13 rfl (lv_at hl 1 rfl) ?_
      refine lv_aload_n hx hb qd_X_isGivenByJoin_14 rfl (lv_at hl 0 rfl) ?_
      refine va_get (D := (dC, dI)) (ci := 0) (v := .int (x 6)) (C := qR_X) (T := qT_X) (N := 13) hx hb hts qin_X hown hK hP 0 rfl rfl 6 (by decide) (hts _ mw_122) (fun _ h9 => h9) rfl qd_X_isGivenByJoin_15 ?_
      refine mk_rw (y := nI n3) (hn3) ?_
      refine lv_icmp_ge (tgt := 47) hx hb qd_X_isGivenByJoin_18 (by decide) (fun c_6 => ?_) (fun c_6 => ?_)
      · refine lv_iconst (v := 1) hx hb qd_X_isGivenByJoin_47 (by decide) ?_
        exact mk_zret hx hb hr hlocks hS qd_X_isGivenByJoin_48 (by decide) ((if_pos (Or.inr (fun c q => hinv.2 c (by omega)))).symm)
      · exact absurd (nI_le (by omega) (by omega)) c_6
  · refine lv_iconst (v := 1) hx hb qd_X_isGivenByJoin_9 (by decide) ?_
    exact mk_zret hx hb hr hlocks hS qd_X_isGivenByJoin_10 (by decide) ((if_pos (Or.inl c_1)).symm)
