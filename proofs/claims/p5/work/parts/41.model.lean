set_option maxHeartbeats 4000000 in
set_option maxRecDepth 100000 in
/-- in(x, low, high) -/
theorem c_M_in (l : Launch) (dC : Nat → ClassId) (dI : Nat → Nat → Nat) (cA : ClassId) (sz : Nat) (cB : ClassId) (x lo hi : Int64) : Met l qy_M_in qw_M_in ({ frames := 0, cells := 0, slots := 0, locals := 0 }) (mk_ro [.long x, .long lo, .long hi] sz (dC, dI) vwCl [(cA, .int), (cB, .boolean)] wN) (mk_roQ (fun r => r = mi_b x lo hi) sz) 0 0 (mk_new sz) := by
  refine Met.ofW (cc := qb_M_in) (maxL := 6) (ret := (some .boolean)) (by decide) rfl ?_
  intro p e s m args below meth c s₁ B hml hpre
  obtain ⟨rfl, hsz, hP, hK⟩ := hpre
  have hx := B.exec
  have hb := B.bytes
  have hr := B.returns
  have hts0 := atoms_spec (ws := qw_M_in) B.pre
  have hts := fun w (h : w ∈ lw_gd) => hts0 w (List.mem_cons_of_mem _ h)
  have hown : s.vm.findClass qR_M = some m.cls := findClass_of_methodNamed B.named
  have hlocks := B.notSynchronized
  subst hsz
  have hA : ∀ q : Nat, s.heap.size ≤ q → mk_new s.heap.size q := fun _ h => h
  have hS : va_S (mk_new s.heap.size) s.heap s.heap [] := va_S.rf
  have hl := lv_entry ([.long x, .long lo, .long hi]) (n := 6) (Nat.le_of_ble_eq_true rfl)
  rw [lg_entry_eq]
  generalize (lg_sl ([.long x, .long lo, .long hi]) ++ List.replicate (6 - (lg_sl ([.long x, .long lo, .long hi])).length) Slot.unset).toArray = ls at hl ⊢
  have hl : lv_has ls 6 [(0, .long x), (2, .long lo), (4, .long hi)] := hl
  have hP : va_P (dC, dI) vwCl wN s.heap := hP
  refine mk_start (A := (mk_new s.heap.size)) hP (fun H locs hP hS => ?_)
  refine lv_lload_n hx hb qd_M_in_0 rfl (lv_at hl 0 rfl) ?_
  refine lv_lload_n hx hb qd_M_in_1 rfl (lv_at hl 1 rfl) ?_
  refine W.lcmp hx hb qd_M_in_2 ?_
  refine lv_if_lt (tgt := 17) hx hb qd_M_in_3 (by decide) (fun c_1 => ?_) (fun c_1 => ?_)
  · refine lv_iconst (v := 0) hx hb qd_M_in_17 (by decide) ?_
    exact mk_zret hx hb hr hlocks hS qd_M_in_18 (by decide) ((if_neg (fun q => q.1 c_1)).symm)
  · refine lv_lload_n hx hb qd_M_in_6 rfl (lv_at hl 0 rfl) ?_
    refine lv_lload hx hb qd_M_in_7 (lv_at hl 2 rfl) ?_
    refine W.lcmp hx hb qd_M_in_9 ?_
    refine lv_if_gt (tgt := 17) hx hb qd_M_in_10 (by decide) (fun c_2 => ?_) (fun c_2 => ?_)
    · refine lv_iconst (v := 0) hx hb qd_M_in_17 (by decide) ?_
      exact mk_zret hx hb hr hlocks hS qd_M_in_18 (by decide) ((if_neg (fun q => q.2 c_2)).symm)
    · refine lv_iconst (v := 1) hx hb qd_M_in_13 (by decide) ?_
      refine lv_goto (tgt := 18) hx hb qd_M_in_14 (by decide) ?_
      exact mk_zret hx hb hr hlocks hS qd_M_in_18 (by decide) ((if_pos ⟨c_1, c_2⟩).symm)
set_option maxHeartbeats 4000000 in
set_option maxRecDepth 100000 in
/-- horizon() -/
theorem c_M_horizon (l : Launch) (dC : Nat → ClassId) (dI : Nat → Nat → Nat) (cA : ClassId) (sz : Nat) (cB : ClassId) (b : Nat → Nat) (y ma ve rw jn ou fo go : Nat → Int32) : Met l qy_M_horizon qw_M_horizon ({ frames := 0, cells := 0, slots := 0, locals := 0 }) (mk_ro [.ref (b 0)] sz (dC, dI) vwCl [(cA, .int), (cB, .boolean)] (wM b cA cB y ma ve rw jn ou fo go)) (mk_roQ (fun r => r = y 8 - y 5) sz) 0 0 (mk_new sz) := by
  refine Met.ofW (cc := qb_M_horizon) (maxL := 1) (ret := (some .int)) (by decide) rfl ?_
  intro p e s m args below meth c s₁ B hml hpre
  obtain ⟨rfl, hsz, hP, hK⟩ := hpre
  have hx := B.exec
  have hb := B.bytes
  have hr := B.returns
  have hts0 := atoms_spec (ws := qw_M_horizon) B.pre
  have hts := fun w (h : w ∈ lw_gd) => hts0 w (List.mem_cons_of_mem _ h)
  have hown : s.vm.findClass qR_M = some m.cls := findClass_of_methodNamed B.named
  have hlocks := B.notSynchronized
  subst hsz
  have hA : ∀ q : Nat, s.heap.size ≤ q → mk_new s.heap.size q := fun _ h => h
  have hS : va_S (mk_new s.heap.size) s.heap s.heap [] := va_S.rf
  have hl := lv_entry ([.ref (b 0)]) (n := 1) (Nat.le_of_ble_eq_true rfl)
  rw [lg_entry_eq]
  generalize (lg_sl ([.ref (b 0)]) ++ List.replicate (1 - (lg_sl ([.ref (b 0)])).length) Slot.unset).toArray = ls at hl ⊢
  have hl : lv_has ls 1 [(0, .ref (b 0))] := hl
  have hP : va_P (dC, dI) vwCl (wM b cA cB y ma ve rw jn ou fo go) s.heap := hP
  refine mk_start (A := (mk_new s.heap.size)) hP (fun H locs hP hS => ?_)
  refine lv_aload_n hx hb qd_M_horizon_0 rfl (lv_at hl 0 rfl) ?_
  refine va_get (D := (dC, dI)) (ci := 1) (v := .int (y 8)) (C := qR_M) (T := qT_M) (N := 24) hx hb hts qin_M hown hK hP 0 rfl rfl 8 (by decide) (hts _ mw_410) (fun _ h9 => h9) rfl qd_M_horizon_1 ?_
  refine lv_aload_n hx hb qd_M_horizon_4 rfl (lv_at hl 0 rfl) ?_
  refine va_get (D := (dC, dI)) (ci := 1) (v := .int (y 5)) (C := qR_M) (T := qT_M) (N := 24) hx hb hts qin_M hown hK hP 0 rfl rfl 5 (by decide) (hts _ mw_407) (fun _ h9 => h9) rfl qd_M_horizon_5 ?_
  refine lv_isub hx hb qd_M_horizon_8 ?_
  exact mk_iret hx hb hr hlocks hS qd_M_horizon_9 (rfl)
set_option maxHeartbeats 4000000 in
set_option maxRecDepth 100000 in
/-- isOf(i, table, key) -/
theorem c_M_isOf (l : Launch) (dC : Nat → ClassId) (dI : Nat → Nat → Nat) (cA : ClassId) (sz : Nat) (cB : ClassId) (b : Nat → Nat) (y ma ve rw jn ou fo go : Nat → Int32) (i' : Nat) (hi : i' < 160) (t k : Int32) : Met l qy_M_isOf qw_M_isOf ({ frames := 0, cells := 0, slots := 0, locals := 0 }) (mk_ro [.ref (b 0), .int (nI i'), .int t, .int k] sz (dC, dI) vwCl [(cA, .int), (cB, .boolean)] (wM b cA cB y ma ve rw jn ou fo go)) (mk_roQ (fun r => r = mo_b ve i' t k) sz) 0 0 (mk_new sz) := by
  refine Met.ofW (cc := qb_M_isOf) (maxL := 4) (ret := (some .boolean)) (by decide) rfl ?_
  intro p e s m args below meth c s₁ B hml hpre
  obtain ⟨rfl, hsz, hP, hK⟩ := hpre
  have hx := B.exec
  have hb := B.bytes
  have hr := B.returns
  have hts0 := atoms_spec (ws := qw_M_isOf) B.pre
  have hts := fun w (h : w ∈ lw_gd) => hts0 w (List.mem_cons_of_mem _ h)
  have hown : s.vm.findClass qR_M = some m.cls := findClass_of_methodNamed B.named
  have hlocks := B.notSynchronized
  subst hsz
  have hA : ∀ q : Nat, s.heap.size ≤ q → mk_new s.heap.size q := fun _ h => h
  have hS : va_S (mk_new s.heap.size) s.heap s.heap [] := va_S.rf
  have hl := lv_entry ([.ref (b 0), .int (nI i'), .int t, .int k]) (n := 4) (Nat.le_of_ble_eq_true rfl)
  rw [lg_entry_eq]
  generalize (lg_sl ([.ref (b 0), .int (nI i'), .int t, .int k]) ++ List.replicate (4 - (lg_sl ([.ref (b 0), .int (nI i'), .int t, .int k])).length) Slot.unset).toArray = ls at hl ⊢
  have hl : lv_has ls 4 [(0, .ref (b 0)), (1, .int (nI i')), (2, .int t), (3, .int k)] := hl
  have hP : va_P (dC, dI) vwCl (wM b cA cB y ma ve rw jn ou fo go) s.heap := hP
  refine mk_start (A := (mk_new s.heap.size)) hP (fun H locs hP hS => ?_)
  refine lv_aload_n hx hb qd_M_isOf_0 rfl (lv_at hl 0 rfl) ?_
  refine va_get (D := (dC, dI)) (ci := 1) (v := .ref (b 2)) (C := qR_M) (T := qT_M) (N := 24) hx hb hts qin_M hown hK hP 0 rfl rfl 9 (by decide) (hts _ mw_411) (fun _ h9 => h9) rfl qd_M_isOf_1 ?_
  refine lv_iconst (v := 4) hx hb qd_M_isOf_4 (by decide) ?_
  refine lv_iload_n hx hb qd_M_isOf_5 rfl (lv_at hl 1 rfl) ?_
  refine lv_imul hx hb qd_M_isOf_6 ?_
  refine mk_rw (y := nI (4 * i')) (by show (nI 4) * (nI i') = _; simp only [pk_mul, nI_add]) ?_
  refine va_iald (i := (nI (4 * i'))) hx hb hK hP 2 0 rfl rfl (vp_in_nI (by omega) (by omega)) qd_M_isOf_7 ?_
  refine mk_rw (y := ve (4 * i')) (congrArg _ (nI_clamp (by omega))) ?_
  refine lv_iload_n hx hb qd_M_isOf_8 rfl (lv_at hl 2 rfl) ?_
  refine lv_icmp_ne (tgt := 30) hx hb qd_M_isOf_9 (by decide) (fun c_1 => ?_) (fun c_1 => ?_)
  · refine lv_iconst (v := 0) hx hb qd_M_isOf_30 (by decide) ?_
    exact mk_zret hx hb hr hlocks hS qd_M_isOf_31 (by decide) ((if_neg (fun q => c_1 q.1)).symm)
  · refine lv_aload_n hx hb qd_M_isOf_12 rfl (lv_at hl 0 rfl) ?_
    refine va_get (D := (dC, dI)) (ci := 1) (v := .ref (b 2)) (C := qR_M) (T := qT_M) (N := 24) hx hb hts qin_M hown hK hP 0 rfl rfl 9 (by decide) (hts _ mw_411) (fun _ h9 => h9) rfl qd_M_isOf_13 ?_
    refine lv_iconst (v := 4) hx hb qd_M_isOf_16 (by decide) ?_
    refine lv_iload_n hx hb qd_M_isOf_17 rfl (lv_at hl 1 rfl) ?_
    refine lv_imul hx hb qd_M_isOf_18 ?_
    refine lv_iconst (v := 1) hx hb qd_M_isOf_19 (by decide) ?_
    refine lv_iadd hx hb qd_M_isOf_20 ?_
    refine mk_rw (y := nI ((4 * i') + 1)) (by show ((nI 4) * (nI i')) + (nI 1) = _; simp only [pk_mul, nI_add]) ?_
    refine va_iald (i := (nI ((4 * i') + 1))) hx hb hK hP 2 0 rfl rfl (vp_in_nI (by omega) (by omega)) qd_M_isOf_21 ?_
    refine mk_rw (y := ve ((4 * i') + 1)) (congrArg _ (nI_clamp (by omega))) ?_
    refine lv_iload_n hx hb qd_M_isOf_22 rfl (lv_at hl 3 rfl) ?_
    refine lv_icmp_ne (tgt := 30) hx hb qd_M_isOf_23 (by decide) (fun c_2 => ?_) (fun c_2 => ?_)
    · refine lv_iconst (v := 0) hx hb qd_M_isOf_30 (by decide) ?_
      exact mk_zret hx hb hr hlocks hS qd_M_isOf_31 (by decide) ((if_neg (fun q => c_2 q.2)).symm)
    · refine lv_iconst (v := 1) hx hb qd_M_isOf_26 (by decide) ?_
      refine lv_goto (tgt := 31) hx hb qd_M_isOf_27 (by decide) ?_
      exact mk_zret hx hb hr hlocks hS qd_M_isOf_31 (by decide) ((if_pos ⟨c_1, c_2⟩).symm)
set_option maxHeartbeats 4000000 in
set_option maxRecDepth 100000 in
/-- reaches(from, time) -/
theorem c_M_reaches (l : Launch) (dC : Nat → ClassId) (dI : Nat → Nat → Nat) (cA : ClassId) (sz : Nat) (cB : ClassId) (b : Nat → Nat) (y ma ve rw jn ou fo go : Nat → Int32) (f tm : Int32) : Met l qy_M_reaches qw_M_reaches ({ frames := 0, cells := 0, slots := 0, locals := 0 }) (mk_ro [.ref (b 0), .int f, .int tm] sz (dC, dI) vwCl [(cA, .int), (cB, .boolean)] (wM b cA cB y ma ve rw jn ou fo go)) (mk_roQ (fun r => r = mr_b (y 2) f tm) sz) 0 0 (mk_new sz) := by
  refine Met.ofW (cc := qb_M_reaches) (maxL := 3) (ret := (some .boolean)) (by decide) rfl ?_
  intro p e s m args below meth c s₁ B hml hpre
  obtain ⟨rfl, hsz, hP, hK⟩ := hpre
  have hx := B.exec
  have hb := B.bytes
  have hr := B.returns
  have hts0 := atoms_spec (ws := qw_M_reaches) B.pre
  have hts := fun w (h : w ∈ lw_gd) => hts0 w (List.mem_cons_of_mem _ h)
  have hown : s.vm.findClass qR_M = some m.cls := findClass_of_methodNamed B.named
  have hlocks := B.notSynchronized
  subst hsz
  have hA : ∀ q : Nat, s.heap.size ≤ q → mk_new s.heap.size q := fun _ h => h
  have hS : va_S (mk_new s.heap.size) s.heap s.heap [] := va_S.rf
  have hl := lv_entry ([.ref (b 0), .int f, .int tm]) (n := 3) (Nat.le_of_ble_eq_true rfl)
  rw [lg_entry_eq]
  generalize (lg_sl ([.ref (b 0), .int f, .int tm]) ++ List.replicate (3 - (lg_sl ([.ref (b 0), .int f, .int tm])).length) Slot.unset).toArray = ls at hl ⊢
  have hl : lv_has ls 3 [(0, .ref (b 0)), (1, .int f), (2, .int tm)] := hl
  have hP : va_P (dC, dI) vwCl (wM b cA cB y ma ve rw jn ou fo go) s.heap := hP
  refine mk_start (A := (mk_new s.heap.size)) hP (fun H locs hP hS => ?_)
  refine lv_aload_n hx hb qd_M_reaches_0 rfl (lv_at hl 0 rfl) ?_
  refine va_get (D := (dC, dI)) (ci := 1) (v := .int (y 2)) (C := qR_M) (T := qT_M) (N := 24) hx hb hts qin_M hown hK hP 0 rfl rfl 2 (by decide) (hts _ mw_404) (fun _ h9 => h9) rfl qd_M_reaches_1 ?_
  refine lv_if_ne (tgt := 20) hx hb qd_M_reaches_4 (by decide) (fun c_1 => ?_) (fun c_1 => ?_)
  · refine lv_iload_n hx hb qd_M_reaches_20 rfl (lv_at hl 1 rfl) ?_
    refine lv_iload_n hx hb qd_M_reaches_21 rfl (lv_at hl 2 rfl) ?_
    refine lv_icmp_ge (tgt := 29) hx hb qd_M_reaches_22 (by decide) (fun c_2 => ?_) (fun c_2 => ?_)
    · refine lv_iconst (v := 0) hx hb qd_M_reaches_29 (by decide) ?_
      exact mk_zret hx hb hr hlocks hS qd_M_reaches_30 (by decide) ((if_neg (fun q => q.elim (fun z => c_1 z.1) (fun z => sh_nlt c_2 z.2))).symm)
    · refine lv_iconst (v := 1) hx hb qd_M_reaches_25 (by decide) ?_
      refine lv_goto (tgt := 30) hx hb qd_M_reaches_26 (by decide) ?_
      exact mk_zret hx hb hr hlocks hS qd_M_reaches_30 (by decide) ((if_pos (Or.inr ⟨c_1, sh_lt_of c_2⟩)).symm)
  · refine lv_iload_n hx hb qd_M_reaches_7 rfl (lv_at hl 1 rfl) ?_
    refine lv_iload_n hx hb qd_M_reaches_8 rfl (lv_at hl 2 rfl) ?_
    refine lv_icmp_gt (tgt := 16) hx hb qd_M_reaches_9 (by decide) (fun c_3 => ?_) (fun c_3 => ?_)
    · refine lv_iconst (v := 0) hx hb qd_M_reaches_16 (by decide) ?_
      refine lv_goto (tgt := 30) hx hb qd_M_reaches_17 (by decide) ?_
      exact mk_zret hx hb hr hlocks hS qd_M_reaches_30 (by decide) ((if_neg (fun q => q.elim (fun z => sh_nle c_3 z.2) (fun z => z.1 c_1))).symm)
    · refine lv_iconst (v := 1) hx hb qd_M_reaches_12 (by decide) ?_
      refine lv_goto (tgt := 30) hx hb qd_M_reaches_13 (by decide) ?_
      exact mk_zret hx hb hr hlocks hS qd_M_reaches_30 (by decide) ((if_pos (Or.inl ⟨c_1, sh_le_of c_3⟩)).symm)
set_option maxHeartbeats 4000000 in
set_option maxRecDepth 100000 in
/-- latest(table, key, time): a line, or none -/
theorem c_M_latest (l : Launch) (dC : Nat → ClassId) (dI : Nat → Nat → Nat) (cA : ClassId) (sz : Nat) (cB : ClassId) (b : Nat → Nat) (y ma ve rw jn ou fo go : Nat → Int32) (nv : Nat) (hnv : y 10 = nI nv) (hv : nv ≤ 160) (t k tm : Int32) : Met l qy_M_latest qw_M_latest ({ frames := 1, cells := 0, slots := 0, locals := 30 }) (mk_ro [.ref (b 0), .int t, .int k, .int tm] sz (dC, dI) vwCl [(cA, .int), (cB, .boolean)] (wM b cA cB y ma ve rw jn ou fo go)) (mk_roQ (fun r => r = -2 ∨ ∃ i, i < nv ∧ r = nI i) sz) 0 0 (mk_new sz) := by
  refine Met.ofW (cc := qb_M_latest) (maxL := 6) (ret := (some .int)) (by decide) rfl ?_
  intro p e s m args below meth c s₁ B hml hpre
  obtain ⟨rfl, hsz, hP, hK⟩ := hpre
  have hx := B.exec
  have hb := B.bytes
  have hr := B.returns
  have hts0 := atoms_spec (ws := qw_M_latest) B.pre
  have hts := fun w (h : w ∈ lw_gd) => hts0 w (List.mem_cons_of_mem _ h)
  have hown : s.vm.findClass qR_M = some m.cls := findClass_of_methodNamed B.named
  have hlocks := B.notSynchronized
  subst hsz
  have hA : ∀ q : Nat, s.heap.size ≤ q → mk_new s.heap.size q := fun _ h => h
  have hS : va_S (mk_new s.heap.size) s.heap s.heap [] := va_S.rf
  have hl := lv_entry ([.ref (b 0), .int t, .int k, .int tm]) (n := 6) (Nat.le_of_ble_eq_true rfl)
  rw [lg_entry_eq]
  generalize (lg_sl ([.ref (b 0), .int t, .int k, .int tm]) ++ List.replicate (6 - (lg_sl ([.ref (b 0), .int t, .int k, .int tm])).length) Slot.unset).toArray = ls at hl ⊢
  have hl : lv_has ls 6 [(0, .ref (b 0)), (1, .int t), (2, .int k), (3, .int tm)] := hl
  have hP : va_P (dC, dI) vwCl (wM b cA cB y ma ve rw jn ou fo go) s.heap := hP
  refine mk_start (A := (mk_new s.heap.size)) hP (fun H locs hP hS => ?_)
  refine lv_bipush (v := (-2)) hx hb qd_M_latest_0 (by decide) ?_
  refine lv_istore (lv' := [(4, .int (-2)), (0, .ref (b 0)), (1, .int t), (2, .int k), (3, .int tm)]) hx hb qd_M_latest_2 hl (by decide) rfl (fun ls hl => ?_)
  refine lv_iconst (v := 0) hx hb qd_M_latest_4 (by decide) ?_
  refine mk_rw (y := nI 0) (rfl) ?_
  refine lv_istore (lv' := [(5, .int (nI 0)), (4, .int (-2)), (0, .ref (b 0)), (1, .int t), (2, .int k), (3, .int tm)]) hx hb qd_M_latest_5 hl (by decide) rfl (fun ls hl => ?_)
  refine mk_loop (σ := Nat × Int32) (fun n y9 H locs ls => (y9.1 + n = nv ∧ (y9.2 = -2 ∨ ∃ j, j < y9.1 ∧ y9.2 = nI j)) ∧ va_P (dC, dI) vwCl (wM b cA cB y ma ve rw jn ou fo go) H ∧ va_S (mk_new s.heap.size) s.heap H locs ∧ lv_has ls 6 [(0, .ref (b 0)), (1, .int t), (2, .int k), (3, .int tm), (4, .int y9.2), (5, .int (nI y9.1))]) (fun ls => F0 m 7 ls []) (fun n y9 H locs ls hI ih_1 => ?_) (fun y9 H locs ls hI => ?_) nv (0, (-2)) H locs ls ⟨⟨Nat.zero_add _, Or.inl rfl⟩, hP, hS, lv_sub hl [2, 3, 4, 5, 1, 0] rfl⟩
  · obtain ⟨i, z⟩ := y9
    obtain ⟨hinv, hP, hS, hl⟩ := hI
    have hinv : i + (n + 1) = nv ∧ (z = -2 ∨ ∃ j, j < i ∧ z = nI j) := hinv
    have hP : va_P (dC, dI) vwCl (wM b cA cB y ma ve rw jn ou fo go) H := hP
    have hl : lv_has ls 6 [(0, .ref (b 0)), (1, .int t), (2, .int k), (3, .int tm), (4, .int z), (5, .int (nI i))] := hl
    refine lv_iload hx hb qd_M_latest_7 (lv_at hl 5 rfl) ?_
    refine lv_aload_n hx hb qd_M_latest_9 rfl (lv_at hl 0 rfl) ?_
    refine va_get (D := (dC, dI)) (ci := 1) (v := .int (y 10)) (C := qR_M) (T := qT_M) (N := 24) hx hb hts qin_M hown hK hP 0 rfl rfl 10 (by decide) (hts _ mw_412) (fun _ h9 => h9) rfl qd_M_latest_10 ?_
    refine mk_rw (y := nI nv) (hnv) ?_
    refine lv_icmp_ge (tgt := 91) hx hb qd_M_latest_13 (by decide) (fun c_2 => ?_) (fun c_2 => ?_)
    · exact absurd c_2 (nI_ge (by omega) (by omega))
    · refine lv_aload_n hx hb qd_M_latest_16 rfl (lv_at hl 0 rfl) ?_
      refine lv_iload hx hb qd_M_latest_17 (lv_at hl 5 rfl) ?_
      refine lv_iload_n hx hb qd_M_latest_19 rfl (lv_at hl 1 rfl) ?_
      refine lv_iload_n hx hb qd_M_latest_20 rfl (lv_at hl 2 rfl) ?_
      refine mk_calli (va_runV (As := [.int (nI i), .int t, .int k]) (rest := []) ⟨hx, hb, hml, hown, hts⟩ (c_M_isOf l dC dI cA H.size cB b y ma ve rw jn ou fo go i (by omega) t k) (cwV 3 hts gc_M_69 rfl rfl rfl (by decide +kernel) ⟨Nat.le_of_ble_eq_true rfl, Nat.le_of_ble_eq_true rfl⟩) (mk_roV hP [0, 1, 2, 3, 4, 5, 6, 7] rfl hK (va_recv hK hP (ci := 1) (q0 := 0) rfl rfl)) rfl rfl hl.1 rfl (lv_room (Nat.le_of_ble_eq_true rfl)) qd_M_latest_21 ⟨(Nat.zero_le _), (Nat.zero_le _)⟩) hS hA hP (fun r_3 H locs hr_3 hP hS => ?_)
      obtain rfl : r_3 = mo_b ve i t k := hr_3
      refine lv_if_eq (tgt := 85) hx hb qd_M_latest_24 (by decide) (fun c_4 => ?_) (fun c_4 => ?_)
      · refine lv_iinc (v := nI (i + 1)) (lv' := [(5, .int (nI (i + 1))), (0, .ref (b 0)), (1, .int t), (2, .int k), (3, .int tm), (4, .int z)]) hx hb qd_M_latest_85 hl (k := 5) rfl (mk_inc i) (by decide) rfl (fun ls hl => ?_)
        refine lv_goto (tgt := 7) hx hb qd_M_latest_88 (by decide) ?_
        exact ih_1 ((i + 1), z) H locs ls ⟨⟨by omega, hinv.2.elim Or.inl (fun q => Or.inr (q.imp (fun _ p => ⟨by omega, p.2⟩)))⟩, hP, hS, lv_sub hl [1, 2, 3, 4, 5, 0] rfl⟩
      · refine lv_aload_n hx hb qd_M_latest_27 rfl (lv_at hl 0 rfl) ?_
        refine lv_aload_n hx hb qd_M_latest_28 rfl (lv_at hl 0 rfl) ?_
        refine va_get (D := (dC, dI)) (ci := 1) (v := .ref (b 2)) (C := qR_M) (T := qT_M) (N := 24) hx hb hts qin_M hown hK hP 0 rfl rfl 9 (by decide) (hts _ mw_411) (fun _ h9 => h9) rfl qd_M_latest_29 ?_
        refine lv_iconst (v := 4) hx hb qd_M_latest_32 (by decide) ?_
        refine lv_iload hx hb qd_M_latest_33 (lv_at hl 5 rfl) ?_
        refine lv_imul hx hb qd_M_latest_35 ?_
        refine lv_iconst (v := 2) hx hb qd_M_latest_36 (by decide) ?_
        refine lv_iadd hx hb qd_M_latest_37 ?_
        refine mk_rw (y := nI ((4 * i) + 2)) (by show ((nI 4) * (nI i)) + (nI 2) = _; simp only [pk_mul, nI_add]) ?_
        refine va_iald (i := (nI ((4 * i) + 2))) hx hb hK hP 2 0 rfl rfl (vp_in_nI (by omega) (by omega)) qd_M_latest_38 ?_
        refine mk_rw (y := ve ((4 * i) + 2)) (congrArg _ (nI_clamp (by omega))) ?_
        refine lv_iload_n hx hb qd_M_latest_39 rfl (lv_at hl 3 rfl) ?_
        refine mk_calli (va_runV (As := [.int (ve ((4 * i) + 2)), .int tm]) (rest := []) ⟨hx, hb, hml, hown, hts⟩ (c_M_reaches l dC dI cA H.size cB b y ma ve rw jn ou fo go (ve ((4 * i) + 2)) tm) (cwV 2 hts gc_M_73 rfl rfl rfl (by decide +kernel) ⟨Nat.le_of_ble_eq_true rfl, Nat.le_of_ble_eq_true rfl⟩) (mk_roV hP [0, 1, 2, 3, 4, 5, 6, 7] rfl hK (va_recv hK hP (ci := 1) (q0 := 0) rfl rfl)) rfl rfl hl.1 rfl (lv_room (Nat.le_of_ble_eq_true rfl)) qd_M_latest_40 ⟨(Nat.zero_le _), (Nat.zero_le _)⟩) hS hA hP (fun r_5 H locs hr_5 hP hS => ?_)
        obtain rfl : r_5 = mr_b (y 2) (ve (4 * i + 2)) tm := hr_5
        refine lv_if_eq (tgt := 85) hx hb qd_M_latest_43 (by decide) (fun c_6 => ?_) (fun c_6 => ?_)
        · refine lv_iinc (v := nI (i + 1)) (lv' := [(5, .int (nI (i + 1))), (0, .ref (b 0)), (1, .int t), (2, .int k), (3, .int tm), (4, .int z)]) hx hb qd_M_latest_85 hl (k := 5) rfl (mk_inc i) (by decide) rfl (fun ls hl => ?_)
          refine lv_goto (tgt := 7) hx hb qd_M_latest_88 (by decide) ?_
          exact ih_1 ((i + 1), z) H locs ls ⟨⟨by omega, hinv.2.elim Or.inl (fun q => Or.inr (q.imp (fun _ p => ⟨by omega, p.2⟩)))⟩, hP, hS, lv_sub hl [1, 2, 3, 4, 5, 0] rfl⟩
        · refine lv_iload hx hb qd_M_latest_46 (lv_at hl 4 rfl) ?_
          refine lv_if_lt (tgt := 76) hx hb qd_M_latest_48 (by decide) (fun c_7 => ?_) (fun c_7 => ?_)
          · refine lv_iload hx hb qd_M_latest_76 (lv_at hl 5 rfl) ?_
            refine lv_goto (tgt := 83) hx hb qd_M_latest_78 (by decide) ?_
            refine lv_istore (lv' := [(4, .int (nI i)), (0, .ref (b 0)), (1, .int t), (2, .int k), (3, .int tm), (5, .int (nI i))]) hx hb qd_M_latest_83 hl (by decide) rfl (fun ls hl => ?_)
            refine lv_iinc (v := nI (i + 1)) (lv' := [(5, .int (nI (i + 1))), (4, .int (nI i)), (0, .ref (b 0)), (1, .int t), (2, .int k), (3, .int tm)]) hx hb qd_M_latest_85 hl (k := 5) rfl (mk_inc i) (by decide) rfl (fun ls hl => ?_)
            refine lv_goto (tgt := 7) hx hb qd_M_latest_88 (by decide) ?_
            exact ih_1 ((i + 1), (nI i)) H locs ls ⟨⟨by omega, Or.inr ⟨i, by omega, rfl⟩⟩, hP, hS, lv_sub hl [2, 3, 4, 5, 1, 0] rfl⟩
          · obtain ⟨jz, hjz, ejz⟩ : ∃ j, j < i ∧ z = nI j := hinv.2.resolve_left (fun q => c_7 (by rw [q]; decide))
            refine lv_aload_n hx hb qd_M_latest_51 rfl (lv_at hl 0 rfl) ?_
            refine va_get (D := (dC, dI)) (ci := 1) (v := .ref (b 2)) (C := qR_M) (T := qT_M) (N := 24) hx hb hts qin_M hown hK hP 0 rfl rfl 9 (by decide) (hts _ mw_411) (fun _ h9 => h9) rfl qd_M_latest_52 ?_
            refine lv_iconst (v := 4) hx hb qd_M_latest_55 (by decide) ?_
            refine lv_iload hx hb qd_M_latest_56 (lv_at hl 5 rfl) ?_
            refine lv_imul hx hb qd_M_latest_58 ?_
            refine lv_iconst (v := 2) hx hb qd_M_latest_59 (by decide) ?_
            refine lv_iadd hx hb qd_M_latest_60 ?_
            refine mk_rw (y := nI ((4 * i) + 2)) (by show ((nI 4) * (nI i)) + (nI 2) = _; simp only [pk_mul, nI_add]) ?_
            refine va_iald (i := (nI ((4 * i) + 2))) hx hb hK hP 2 0 rfl rfl (vp_in_nI (by omega) (by omega)) qd_M_latest_61 ?_
            refine mk_rw (y := ve ((4 * i) + 2)) (congrArg _ (nI_clamp (by omega))) ?_
            refine lv_aload_n hx hb qd_M_latest_62 rfl (lv_at hl 0 rfl) ?_
            refine va_get (D := (dC, dI)) (ci := 1) (v := .ref (b 2)) (C := qR_M) (T := qT_M) (N := 24) hx hb hts qin_M hown hK hP 0 rfl rfl 9 (by decide) (hts _ mw_411) (fun _ h9 => h9) rfl qd_M_latest_63 ?_
            refine lv_iconst (v := 4) hx hb qd_M_latest_66 (by decide) ?_
            refine lv_iload hx hb qd_M_latest_67 (lv_at hl 4 rfl) ?_
            refine mk_rw (y := nI jz) (ejz) ?_
            refine lv_imul hx hb qd_M_latest_69 ?_
            refine lv_iconst (v := 2) hx hb qd_M_latest_70 (by decide) ?_
            refine lv_iadd hx hb qd_M_latest_71 ?_
            refine mk_rw (y := nI ((4 * jz) + 2)) (by show ((nI 4) * (nI jz)) + (nI 2) = _; simp only [pk_mul, nI_add]) ?_
            refine va_iald (i := (nI ((4 * jz) + 2))) hx hb hK hP 2 0 rfl rfl (vp_in_nI (by omega) (by omega)) qd_M_latest_72 ?_
            refine mk_rw (y := ve ((4 * jz) + 2)) (congrArg _ (nI_clamp (by omega))) ?_
            refine lv_icmp_le (tgt := 81) hx hb qd_M_latest_73 (by decide) (fun c_8 => ?_) (fun c_8 => ?_)
            · refine lv_iload hx hb qd_M_latest_81 (lv_at hl 4 rfl) ?_
              refine lv_istore (lv' := [(4, .int z), (0, .ref (b 0)), (1, .int t), (2, .int k), (3, .int tm), (5, .int (nI i))]) hx hb qd_M_latest_83 hl (by decide) rfl (fun ls hl => ?_)
              refine lv_iinc (v := nI (i + 1)) (lv' := [(5, .int (nI (i + 1))), (4, .int z), (0, .ref (b 0)), (1, .int t), (2, .int k), (3, .int tm)]) hx hb qd_M_latest_85 hl (k := 5) rfl (mk_inc i) (by decide) rfl (fun ls hl => ?_)
              refine lv_goto (tgt := 7) hx hb qd_M_latest_88 (by decide) ?_
              exact ih_1 ((i + 1), z) H locs ls ⟨⟨by omega, hinv.2.elim Or.inl (fun q => Or.inr (q.imp (fun _ p => ⟨by omega, p.2⟩)))⟩, hP, hS, lv_sub hl [2, 3, 4, 5, 1, 0] rfl⟩
            · refine lv_iload hx hb qd_M_latest_76 (lv_at hl 5 rfl) ?_
              refine lv_goto (tgt := 83) hx hb qd_M_latest_78 (by decide) ?_
              refine lv_istore (lv' := [(4, .int (nI i)), (0, .ref (b 0)), (1, .int t), (2, .int k), (3, .int tm), (5, .int (nI i))]) hx hb qd_M_latest_83 hl (by decide) rfl (fun ls hl => ?_)
              refine lv_iinc (v := nI (i + 1)) (lv' := [(5, .int (nI (i + 1))), (4, .int (nI i)), (0, .ref (b 0)), (1, .int t), (2, .int k), (3, .int tm)]) hx hb qd_M_latest_85 hl (k := 5) rfl (mk_inc i) (by decide) rfl (fun ls hl => ?_)
              refine lv_goto (tgt := 7) hx hb qd_M_latest_88 (by decide) ?_
              exact ih_1 ((i + 1), (nI i)) H locs ls ⟨⟨by omega, Or.inr ⟨i, by omega, rfl⟩⟩, hP, hS, lv_sub hl [2, 3, 4, 5, 1, 0] rfl⟩
  · obtain ⟨i, z⟩ := y9
    obtain ⟨hinv, hP, hS, hl⟩ := hI
    have hinv : i + 0 = nv ∧ (z = -2 ∨ ∃ j, j < i ∧ z = nI j) := hinv
    have hP : va_P (dC, dI) vwCl (wM b cA cB y ma ve rw jn ou fo go) H := hP
    have hl : lv_has ls 6 [(0, .ref (b 0)), (1, .int t), (2, .int k), (3, .int tm), (4, .int z), (5, .int (nI i))] := hl
    refine lv_iload hx hb qd_M_latest_7 (lv_at hl 5 rfl) ?_
    refine lv_aload_n hx hb qd_M_latest_9 rfl (lv_at hl 0 rfl) ?_
    refine va_get (D := (dC, dI)) (ci := 1) (v := .int (y 10)) (C := qR_M) (T := qT_M) (N := 24) hx hb hts qin_M hown hK hP 0 rfl rfl 10 (by decide) (hts _ mw_412) (fun _ h9 => h9) rfl qd_M_latest_10 ?_
    refine mk_rw (y := nI nv) (hnv) ?_
    refine lv_icmp_ge (tgt := 91) hx hb qd_M_latest_13 (by decide) (fun c_9 => ?_) (fun c_9 => ?_)
    · refine lv_iload hx hb qd_M_latest_91 (lv_at hl 4 rfl) ?_
      exact mk_iret hx hb hr hlocks hS qd_M_latest_93 (hinv.2.elim Or.inl (fun q => Or.inr (q.imp (fun _ p => ⟨by omega, p.2⟩))))
    · exact absurd (nI_le (by omega) (by omega)) c_9
set_option maxHeartbeats 4000000 in
set_option maxRecDepth 100000 in
/-- versionAt(table, key, from) -/
theorem c_M_versionAt (l : Launch) (dC : Nat → ClassId) (dI : Nat → Nat → Nat) (cA : ClassId) (sz : Nat) (cB : ClassId) (b : Nat → Nat) (y ma ve rw jn ou fo go : Nat → Int32) (nv : Nat) (hnv : y 10 = nI nv) (hv : nv ≤ 160) (t k fr : Int32) : Met l qy_M_versionAt qw_M_versionAt ({ frames := 1, cells := 0, slots := 0, locals := 30 }) (mk_ro [.ref (b 0), .int t, .int k, .int fr] sz (dC, dI) vwCl [(cA, .int), (cB, .boolean)] (wM b cA cB y ma ve rw jn ou fo go)) (mk_roQ (fun r => (r = -2 ∧ ∀ i, i < nv → ¬ mv_at ve i t k fr) ∨ ∃ i, i < nv ∧ r = nI i ∧ mv_at ve i t k fr) sz) 0 0 (mk_new sz) := by
  refine Met.ofW (cc := qb_M_versionAt) (maxL := 5) (ret := (some .int)) (by decide) rfl ?_
  intro p e s m args below meth c s₁ B hml hpre
  obtain ⟨rfl, hsz, hP, hK⟩ := hpre
  have hx := B.exec
  have hb := B.bytes
  have hr := B.returns
  have hts0 := atoms_spec (ws := qw_M_versionAt) B.pre
  have hts := fun w (h : w ∈ lw_gd) => hts0 w (List.mem_cons_of_mem _ h)
  have hown : s.vm.findClass qR_M = some m.cls := findClass_of_methodNamed B.named
  have hlocks := B.notSynchronized
  subst hsz
  have hA : ∀ q : Nat, s.heap.size ≤ q → mk_new s.heap.size q := fun _ h => h
  have hS : va_S (mk_new s.heap.size) s.heap s.heap [] := va_S.rf
  have hl := lv_entry ([.ref (b 0), .int t, .int k, .int fr]) (n := 5) (Nat.le_of_ble_eq_true rfl)
  rw [lg_entry_eq]
  generalize (lg_sl ([.ref (b 0), .int t, .int k, .int fr]) ++ List.replicate (5 - (lg_sl ([.ref (b 0), .int t, .int k, .int fr])).length) Slot.unset).toArray = ls at hl ⊢
  have hl : lv_has ls 5 [(0, .ref (b 0)), (1, .int t), (2, .int k), (3, .int fr)] := hl
  have hP : va_P (dC, dI) vwCl (wM b cA cB y ma ve rw jn ou fo go) s.heap := hP
  refine mk_start (A := (mk_new s.heap.size)) hP (fun H locs hP hS => ?_)
  refine lv_iconst (v := 0) hx hb qd_M_versionAt_0 (by decide) ?_
  refine mk_rw (y := nI 0) (rfl) ?_
  refine lv_istore (lv' := [(4, .int (nI 0)), (0, .ref (b 0)), (1, .int t), (2, .int k), (3, .int fr)]) hx hb qd_M_versionAt_1 hl (by decide) rfl (fun ls hl => ?_)
  refine mk_loop (σ := Nat) (fun n y9 H locs ls => (y9 + n = nv ∧ ∀ j, j < y9 → ¬ mv_at ve j t k fr) ∧ va_P (dC, dI) vwCl (wM b cA cB y ma ve rw jn ou fo go) H ∧ va_S (mk_new s.heap.size) s.heap H locs ∧ lv_has ls 5 [(0, .ref (b 0)), (1, .int t), (2, .int k), (3, .int fr), (4, .int (nI y9))]) (fun ls => F0 m 3 ls []) (fun n y9 H locs ls hI ih_1 => ?_) (fun y9 H locs ls hI => ?_) nv 0 H locs ls ⟨⟨Nat.zero_add _, fun _ q => absurd q (Nat.not_lt_zero _)⟩, hP, hS, lv_sub hl [1, 2, 3, 4, 0] rfl⟩
  · obtain ⟨i, rfl⟩ : ∃ z, z = y9 := ⟨_, rfl⟩
    obtain ⟨hinv, hP, hS, hl⟩ := hI
    have hinv : i + (n + 1) = nv ∧ ∀ j, j < i → ¬ mv_at ve j t k fr := hinv
    have hP : va_P (dC, dI) vwCl (wM b cA cB y ma ve rw jn ou fo go) H := hP
    have hl : lv_has ls 5 [(0, .ref (b 0)), (1, .int t), (2, .int k), (3, .int fr), (4, .int (nI i))] := hl
    refine lv_iload hx hb qd_M_versionAt_3 (lv_at hl 4 rfl) ?_
    refine lv_aload_n hx hb qd_M_versionAt_5 rfl (lv_at hl 0 rfl) ?_
    refine va_get (D := (dC, dI)) (ci := 1) (v := .int (y 10)) (C := qR_M) (T := qT_M) (N := 24) hx hb hts qin_M hown hK hP 0 rfl rfl 10 (by decide) (hts _ mw_412) (fun _ h9 => h9) rfl qd_M_versionAt_6 ?_
    refine mk_rw (y := nI nv) (hnv) ?_
    refine lv_icmp_ge (tgt := 47) hx hb qd_M_versionAt_9 (by decide) (fun c_2 => ?_) (fun c_2 => ?_)
    · exact absurd c_2 (nI_ge (by omega) (by omega))
    · refine lv_aload_n hx hb qd_M_versionAt_12 rfl (lv_at hl 0 rfl) ?_
      refine lv_iload hx hb qd_M_versionAt_13 (lv_at hl 4 rfl) ?_
      refine lv_iload_n hx hb qd_M_versionAt_15 rfl (lv_at hl 1 rfl) ?_
      refine lv_iload_n hx hb qd_M_versionAt_16 rfl (lv_at hl 2 rfl) ?_
      refine mk_calli (va_runV (As := [.int (nI i), .int t, .int k]) (rest := []) ⟨hx, hb, hml, hown, hts⟩ (c_M_isOf l dC dI cA H.size cB b y ma ve rw jn ou fo go i (by omega) t k) (cwV 3 hts gc_M_69 rfl rfl rfl (by decide +kernel) ⟨Nat.le_of_ble_eq_true rfl, Nat.le_of_ble_eq_true rfl⟩) (mk_roV hP [0, 1, 2, 3, 4, 5, 6, 7] rfl hK (va_recv hK hP (ci := 1) (q0 := 0) rfl rfl)) rfl rfl hl.1 rfl (lv_room (Nat.le_of_ble_eq_true rfl)) qd_M_versionAt_17 ⟨(Nat.zero_le _), (Nat.zero_le _)⟩) hS hA hP (fun r_3 H locs hr_3 hP hS => ?_)
      obtain rfl : r_3 = mo_b ve i t k := hr_3
      refine lv_if_eq (tgt := 41) hx hb qd_M_versionAt_20 (by decide) (fun c_4 => ?_) (fun c_4 => ?_)
      · refine lv_iinc (v := nI (i + 1)) (lv' := [(4, .int (nI (i + 1))), (0, .ref (b 0)), (1, .int t), (2, .int k), (3, .int fr)]) hx hb qd_M_versionAt_41 hl (k := 4) rfl (mk_inc i) (by decide) rfl (fun ls hl => ?_)
        refine lv_goto (tgt := 3) hx hb qd_M_versionAt_44 (by decide) ?_
        exact ih_1 (i + 1) H locs ls ⟨⟨by omega, fun j hj => by rcases Nat.lt_or_ge j i with q | q; exact hinv.2 j q; obtain rfl : i = j := (by omega); exact fun z => z.1 c_4⟩, hP, hS, lv_sub hl [1, 2, 3, 4, 0] rfl⟩
      · refine lv_aload_n hx hb qd_M_versionAt_23 rfl (lv_at hl 0 rfl) ?_
        refine va_get (D := (dC, dI)) (ci := 1) (v := .ref (b 2)) (C := qR_M) (T := qT_M) (N := 24) hx hb hts qin_M hown hK hP 0 rfl rfl 9 (by decide) (hts _ mw_411) (fun _ h9 => h9) rfl qd_M_versionAt_24 ?_
        refine lv_iconst (v := 4) hx hb qd_M_versionAt_27 (by decide) ?_
        refine lv_iload hx hb qd_M_versionAt_28 (lv_at hl 4 rfl) ?_
        refine lv_imul hx hb qd_M_versionAt_30 ?_
        refine lv_iconst (v := 2) hx hb qd_M_versionAt_31 (by decide) ?_
        refine lv_iadd hx hb qd_M_versionAt_32 ?_
        refine mk_rw (y := nI ((4 * i) + 2)) (by show ((nI 4) * (nI i)) + (nI 2) = _; simp only [pk_mul, nI_add]) ?_
        refine va_iald (i := (nI ((4 * i) + 2))) hx hb hK hP 2 0 rfl rfl (vp_in_nI (by omega) (by omega)) qd_M_versionAt_33 ?_
        refine mk_rw (y := ve ((4 * i) + 2)) (congrArg _ (nI_clamp (by omega))) ?_
        refine lv_iload_n hx hb qd_M_versionAt_34 rfl (lv_at hl 3 rfl) ?_
        refine lv_icmp_ne (tgt := 41) hx hb qd_M_versionAt_35 (by decide) (fun c_5 => ?_) (fun c_5 => ?_)
        · refine lv_iinc (v := nI (i + 1)) (lv' := [(4, .int (nI (i + 1))), (0, .ref (b 0)), (1, .int t), (2, .int k), (3, .int fr)]) hx hb qd_M_versionAt_41 hl (k := 4) rfl (mk_inc i) (by decide) rfl (fun ls hl => ?_)
          refine lv_goto (tgt := 3) hx hb qd_M_versionAt_44 (by decide) ?_
          exact ih_1 (i + 1) H locs ls ⟨⟨by omega, fun j hj => by rcases Nat.lt_or_ge j i with q | q; exact hinv.2 j q; obtain rfl : i = j := (by omega); exact fun z => c_5 z.2⟩, hP, hS, lv_sub hl [1, 2, 3, 4, 0] rfl⟩
        · refine lv_iload hx hb qd_M_versionAt_38 (lv_at hl 4 rfl) ?_
          exact mk_iret hx hb hr hlocks hS qd_M_versionAt_40 (Or.inr ⟨i, by omega, rfl, c_4, c_5⟩)
  · obtain ⟨i, rfl⟩ : ∃ z, z = y9 := ⟨_, rfl⟩
    obtain ⟨hinv, hP, hS, hl⟩ := hI
    have hinv : i + 0 = nv ∧ ∀ j, j < i → ¬ mv_at ve j t k fr := hinv
    have hP : va_P (dC, dI) vwCl (wM b cA cB y ma ve rw jn ou fo go) H := hP
    have hl : lv_has ls 5 [(0, .ref (b 0)), (1, .int t), (2, .int k), (3, .int fr), (4, .int (nI i))] := hl
    refine lv_iload hx hb qd_M_versionAt_3 (lv_at hl 4 rfl) ?_
    refine lv_aload_n hx hb qd_M_versionAt_5 rfl (lv_at hl 0 rfl) ?_
    refine va_get (D := (dC, dI)) (ci := 1) (v := .int (y 10)) (C := qR_M) (T := qT_M) (N := 24) hx hb hts qin_M hown hK hP 0 rfl rfl 10 (by decide) (hts _ mw_412) (fun _ h9 => h9) rfl qd_M_versionAt_6 ?_
    refine mk_rw (y := nI nv) (hnv) ?_
    refine lv_icmp_ge (tgt := 47) hx hb qd_M_versionAt_9 (by decide) (fun c_6 => ?_) (fun c_6 => ?_)
    · refine lv_bipush (v := (-2)) hx hb qd_M_versionAt_47 (by decide) ?_
      exact mk_iret hx hb hr hlocks hS qd_M_versionAt_49 (Or.inl ⟨rfl, fun j hj => hinv.2 j (by omega)⟩)
    · exact absurd (nI_le (by omega) (by omega)) c_6
set_option maxHeartbeats 4000000 in
set_option maxRecDepth 100000 in
/-- manyOf(table, key) -/
theorem c_M_manyOf (l : Launch) (dC : Nat → ClassId) (dI : Nat → Nat → Nat) (cA : ClassId) (sz : Nat) (cB : ClassId) (b : Nat → Nat) (y ma ve rw jn ou fo go : Nat → Int32) (nv : Nat) (hnv : y 10 = nI nv) (hv : nv ≤ 160) (t k : Int32) : Met l qy_M_manyOf qw_M_manyOf ({ frames := 1, cells := 0, slots := 0, locals := 30 }) (mk_ro [.ref (b 0), .int t, .int k] sz (dC, dI) vwCl [(cA, .int), (cB, .boolean)] (wM b cA cB y ma ve rw jn ou fo go)) (mk_roQ (fun r => r = nI (mv_cnt ve t k nv)) sz) 0 0 (mk_new sz) := by
  refine Met.ofW (cc := qb_M_manyOf) (maxL := 5) (ret := (some .int)) (by decide) rfl ?_
  intro p e s m args below meth c s₁ B hml hpre
  obtain ⟨rfl, hsz, hP, hK⟩ := hpre
  have hx := B.exec
  have hb := B.bytes
  have hr := B.returns
  have hts0 := atoms_spec (ws := qw_M_manyOf) B.pre
  have hts := fun w (h : w ∈ lw_gd) => hts0 w (List.mem_cons_of_mem _ h)
  have hown : s.vm.findClass qR_M = some m.cls := findClass_of_methodNamed B.named
  have hlocks := B.notSynchronized
  subst hsz
  have hA : ∀ q : Nat, s.heap.size ≤ q → mk_new s.heap.size q := fun _ h => h
  have hS : va_S (mk_new s.heap.size) s.heap s.heap [] := va_S.rf
  have hl := lv_entry ([.ref (b 0), .int t, .int k]) (n := 5) (Nat.le_of_ble_eq_true rfl)
  rw [lg_entry_eq]
  generalize (lg_sl ([.ref (b 0), .int t, .int k]) ++ List.replicate (5 - (lg_sl ([.ref (b 0), .int t, .int k])).length) Slot.unset).toArray = ls at hl ⊢
  have hl : lv_has ls 5 [(0, .ref (b 0)), (1, .int t), (2, .int k)] := hl
  have hP : va_P (dC, dI) vwCl (wM b cA cB y ma ve rw jn ou fo go) s.heap := hP
  refine mk_start (A := (mk_new s.heap.size)) hP (fun H locs hP hS => ?_)
  refine lv_iconst (v := 0) hx hb qd_M_manyOf_0 (by decide) ?_
  refine mk_rw (y := nI (mv_cnt ve t k 0)) (rfl) ?_
  refine lv_istore_n (lv' := [(3, .int (nI (mv_cnt ve t k 0))), (0, .ref (b 0)), (1, .int t), (2, .int k)]) hx hb qd_M_manyOf_1 rfl hl (by decide) rfl (fun ls hl => ?_)
  refine lv_iconst (v := 0) hx hb qd_M_manyOf_2 (by decide) ?_
  refine mk_rw (y := nI 0) (rfl) ?_
  refine lv_istore (lv' := [(4, .int (nI 0)), (3, .int (nI (mv_cnt ve t k 0))), (0, .ref (b 0)), (1, .int t), (2, .int k)]) hx hb qd_M_manyOf_3 hl (by decide) rfl (fun ls hl => ?_)
  refine mk_loop (σ := Nat) (fun n y9 H locs ls => (y9 + n = nv) ∧ va_P (dC, dI) vwCl (wM b cA cB y ma ve rw jn ou fo go) H ∧ va_S (mk_new s.heap.size) s.heap H locs ∧ lv_has ls 5 [(0, .ref (b 0)), (1, .int t), (2, .int k), (3, .int (nI (mv_cnt ve t k y9))), (4, .int (nI y9))]) (fun ls => F0 m 5 ls []) (fun n y9 H locs ls hI ih_1 => ?_) (fun y9 H locs ls hI => ?_) nv 0 H locs ls ⟨Nat.zero_add _, hP, hS, lv_sub hl [2, 3, 4, 1, 0] rfl⟩
  · obtain ⟨i, rfl⟩ : ∃ z, z = y9 := ⟨_, rfl⟩
    obtain ⟨hinv, hP, hS, hl⟩ := hI
    have hinv : i + (n + 1) = nv := hinv
    have hP : va_P (dC, dI) vwCl (wM b cA cB y ma ve rw jn ou fo go) H := hP
    have hl : lv_has ls 5 [(0, .ref (b 0)), (1, .int t), (2, .int k), (3, .int (nI (mv_cnt ve t k i))), (4, .int (nI i))] := hl
    refine lv_iload hx hb qd_M_manyOf_5 (lv_at hl 4 rfl) ?_
    refine lv_aload_n hx hb qd_M_manyOf_7 rfl (lv_at hl 0 rfl) ?_
    refine va_get (D := (dC, dI)) (ci := 1) (v := .int (y 10)) (C := qR_M) (T := qT_M) (N := 24) hx hb hts qin_M hown hK hP 0 rfl rfl 10 (by decide) (hts _ mw_412) (fun _ h9 => h9) rfl qd_M_manyOf_8 ?_
    refine mk_rw (y := nI nv) (hnv) ?_
    refine lv_icmp_ge (tgt := 39) hx hb qd_M_manyOf_11 (by decide) (fun c_2 => ?_) (fun c_2 => ?_)
    · exact absurd c_2 (nI_ge (by omega) (by omega))
    · refine lv_aload_n hx hb qd_M_manyOf_14 rfl (lv_at hl 0 rfl) ?_
      refine lv_iload hx hb qd_M_manyOf_15 (lv_at hl 4 rfl) ?_
      refine lv_iload_n hx hb qd_M_manyOf_17 rfl (lv_at hl 1 rfl) ?_
      refine lv_iload_n hx hb qd_M_manyOf_18 rfl (lv_at hl 2 rfl) ?_
      refine mk_calli (va_runV (As := [.int (nI i), .int t, .int k]) (rest := []) ⟨hx, hb, hml, hown, hts⟩ (c_M_isOf l dC dI cA H.size cB b y ma ve rw jn ou fo go i (by omega) t k) (cwV 3 hts gc_M_69 rfl rfl rfl (by decide +kernel) ⟨Nat.le_of_ble_eq_true rfl, Nat.le_of_ble_eq_true rfl⟩) (mk_roV hP [0, 1, 2, 3, 4, 5, 6, 7] rfl hK (va_recv hK hP (ci := 1) (q0 := 0) rfl rfl)) rfl rfl hl.1 rfl (lv_room (Nat.le_of_ble_eq_true rfl)) qd_M_manyOf_19 ⟨(Nat.zero_le _), (Nat.zero_le _)⟩) hS hA hP (fun r_3 H locs hr_3 hP hS => ?_)
      obtain rfl : r_3 = mo_b ve i t k := hr_3
      refine lv_if_eq (tgt := 31) hx hb qd_M_manyOf_22 (by decide) (fun c_4 => ?_) (fun c_4 => ?_)
      · refine lv_iload_n hx hb qd_M_manyOf_31 rfl (lv_at hl 3 rfl) ?_
        refine mk_rw (y := nI (mv_cnt ve t k (i + 1))) (by show _ = nI (mv_cnt ve t k i + (if mo_b ve i t k = 0 then 0 else 1)); rw [if_pos c_4, Nat.add_zero]) ?_
        refine lv_istore_n (lv' := [(3, .int (nI (mv_cnt ve t k (i + 1)))), (0, .ref (b 0)), (1, .int t), (2, .int k), (4, .int (nI i))]) hx hb qd_M_manyOf_32 rfl hl (by decide) rfl (fun ls hl => ?_)
        refine lv_iinc (v := nI (i + 1)) (lv' := [(4, .int (nI (i + 1))), (3, .int (nI (mv_cnt ve t k (i + 1)))), (0, .ref (b 0)), (1, .int t), (2, .int k)]) hx hb qd_M_manyOf_33 hl (k := 4) rfl (mk_inc i) (by decide) rfl (fun ls hl => ?_)
        refine lv_goto (tgt := 5) hx hb qd_M_manyOf_36 (by decide) ?_
        exact ih_1 (i + 1) H locs ls ⟨by omega, hP, hS, lv_sub hl [2, 3, 4, 1, 0] rfl⟩
      · refine lv_iload_n hx hb qd_M_manyOf_25 rfl (lv_at hl 3 rfl) ?_
        refine lv_iconst (v := 1) hx hb qd_M_manyOf_26 (by decide) ?_
        refine lv_iadd hx hb qd_M_manyOf_27 ?_
        refine lv_goto (tgt := 32) hx hb qd_M_manyOf_28 (by decide) ?_
        refine mk_rw (y := nI (mv_cnt ve t k (i + 1))) (by show nI (mv_cnt ve t k i) + nI 1 = nI (mv_cnt ve t k i + (if mo_b ve i t k = 0 then 0 else 1)); rw [if_neg c_4, nI_add]) ?_
        refine lv_istore_n (lv' := [(3, .int (nI (mv_cnt ve t k (i + 1)))), (0, .ref (b 0)), (1, .int t), (2, .int k), (4, .int (nI i))]) hx hb qd_M_manyOf_32 rfl hl (by decide) rfl (fun ls hl => ?_)
        refine lv_iinc (v := nI (i + 1)) (lv' := [(4, .int (nI (i + 1))), (3, .int (nI (mv_cnt ve t k (i + 1)))), (0, .ref (b 0)), (1, .int t), (2, .int k)]) hx hb qd_M_manyOf_33 hl (k := 4) rfl (mk_inc i) (by decide) rfl (fun ls hl => ?_)
        refine lv_goto (tgt := 5) hx hb qd_M_manyOf_36 (by decide) ?_
        exact ih_1 (i + 1) H locs ls ⟨by omega, hP, hS, lv_sub hl [2, 3, 4, 1, 0] rfl⟩
  · obtain ⟨i, rfl⟩ : ∃ z, z = y9 := ⟨_, rfl⟩
    obtain ⟨hinv, hP, hS, hl⟩ := hI
    have hinv : i + 0 = nv := hinv
    have hP : va_P (dC, dI) vwCl (wM b cA cB y ma ve rw jn ou fo go) H := hP
    have hl : lv_has ls 5 [(0, .ref (b 0)), (1, .int t), (2, .int k), (3, .int (nI (mv_cnt ve t k i))), (4, .int (nI i))] := hl
    have ei : i = nv := by omega
    refine lv_iload hx hb qd_M_manyOf_5 (lv_at hl 4 rfl) ?_
    refine lv_aload_n hx hb qd_M_manyOf_7 rfl (lv_at hl 0 rfl) ?_
    refine va_get (D := (dC, dI)) (ci := 1) (v := .int (y 10)) (C := qR_M) (T := qT_M) (N := 24) hx hb hts qin_M hown hK hP 0 rfl rfl 10 (by decide) (hts _ mw_412) (fun _ h9 => h9) rfl qd_M_manyOf_8 ?_
    refine mk_rw (y := nI nv) (hnv) ?_
    refine lv_icmp_ge (tgt := 39) hx hb qd_M_manyOf_11 (by decide) (fun c_5 => ?_) (fun c_5 => ?_)
    · refine lv_iload_n hx hb qd_M_manyOf_39 rfl (lv_at hl 3 rfl) ?_
      exact mk_iret hx hb hr hlocks hS qd_M_manyOf_40 (by rw [ei])
    · exact absurd (nI_le (by omega) (by omega)) c_5
