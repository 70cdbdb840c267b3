set_option maxHeartbeats 4000000 in
set_option maxRecDepth 100000 in
/-- joinAll() -/
theorem c_M_joinAll (l : Launch) (dC : Nat → ClassId) (dI : Nat → Nat → Nat) (cA : ClassId) (sz : Nat) (cB : ClassId) (b : Nat → Nat) (y ma ve rw jn ou fo go : Nat → Int32) (nv : Nat) (hnv : y 10 = nI nv) (hv : nv ≤ 160) (nt : Nat) (hnt : y 1 = nI nt) (ht3 : nt ≤ 3) (nr : Nat) (hnr : y 13 = nI nr) (hr96 : nr ≤ 96) (hno0 : y 21 = nI 0) (hfull : mr_full rw nr) (hinj : m4_inj rw nr) : Met l qy_M_joinAll qw_M_joinAll ({ frames := 3, cells := 0, slots := 0, locals := 84 }) (mk_mu [.ref (b 0)] sz (dC, dI) vwCl [(cA, .int), (cB, .boolean)] (wM b cA cB y ma ve rw jn ou fo go)) (mk_muV (S := (Nat → Int32) × (Nat → Int32) × (Nat → Int32) × (Nat → Int32) × (Nat → Int32)) (fun u => my_same y u.1 ∧ (∃ no, no ≤ 192 ∧ u.1 21 = nI no) ∧ mrow rw u.2.1 nr ∧ m4_join rw ma u.2.1 nt nr) (fun u => (wM b cA cB u.1 ma ve u.2.1 u.2.2.1 u.2.2.2.1 u.2.2.2.2 go)) (dC, dI) vwCl [(cA, .int), (cB, .boolean)] (va_A (wM b cA cB y ma ve rw jn ou fo go) sz)) 0 0 (va_A (wM b cA cB y ma ve rw jn ou fo go) sz) := by
  refine Met.ofW (cc := qb_M_joinAll) (maxL := 3) (ret := none) (by decide) rfl ?_
  intro p e s m args below meth c s₁ B hml hpre
  obtain ⟨rfl, hsz, hP, hK, hD0⟩ := hpre
  have hx := B.exec
  have hb := B.bytes
  have hr := B.returns
  have hts0 := atoms_spec (ws := qw_M_joinAll) B.pre
  have hts := fun w (h : w ∈ lw_gd) => hts0 w (List.mem_cons_of_mem _ h)
  have hown : s.vm.findClass qR_M = some m.cls := findClass_of_methodNamed B.named
  have hlocks := B.notSynchronized
  subst hsz
  have hD := hD0.self (sz := s.heap.size)
  generalize hAe : va_A (wM b cA cB y ma ve rw jn ou fo go) s.heap.size = A at hD ⊢
  have hA : ∀ q : Nat, s.heap.size ≤ q → A q := fun q h => by rw [← hAe]; exact Or.inr h
  have hS : va_S A s.heap s.heap [] := va_S.rf
  have hl := lv_entry ([.ref (b 0)]) (n := 3) (Nat.le_of_ble_eq_true rfl)
  rw [lg_entry_eq]
  generalize (lg_sl ([.ref (b 0)]) ++ List.replicate (3 - (lg_sl ([.ref (b 0)])).length) Slot.unset).toArray = ls at hl ⊢
  have hl : lv_has ls 3 [(0, .ref (b 0))] := hl
  have hP : va_P (dC, dI) vwCl (wM b cA cB y ma ve rw jn ou fo go) s.heap := hP
  refine mk_start (A := A) hP (fun H locs hP hS => ?_)
  refine lv_iconst (v := 0) hx hb qd_M_joinAll_0 (by decide) ?_
  refine mk_rw (y := nI 0) (rfl) ?_
  refine lv_istore_n (lv' := [(1, .int (nI 0)), (0, .ref (b 0))]) hx hb qd_M_joinAll_1 rfl hl (by decide) rfl (fun ls hl => ?_)
  refine mk_loop (σ := Nat × (Nat → Int32) × (Nat → Int32) × (Nat → Int32) × (Nat → Int32) × (Nat → Int32)) (fun n y9 H locs ls => (y9.1 + n = nr ∧ my_same y y9.2.1 ∧ (∃ no, no ≤ y9.1 ∧ y9.2.1 21 = nI no) ∧ mrow rw y9.2.2.1 nr ∧ ∀ j9, j9 < nr → y9.2.2.1 (6 * j9 + 4) = m4_at rw ma nt nr y9.1 j9) ∧ va_P (dC, dI) vwCl (wM b cA cB y9.2.1 ma ve y9.2.2.1 y9.2.2.2.1 y9.2.2.2.2.1 y9.2.2.2.2.2 go) H ∧ va_D A (wM b cA cB y9.2.1 ma ve y9.2.2.1 y9.2.2.2.1 y9.2.2.2.2.1 y9.2.2.2.2.2 go) ∧ va_S A s.heap H locs ∧ lv_has ls 3 [(0, .ref (b 0)), (1, .int (nI y9.1))]) (fun ls => F0 m 2 ls []) (fun n y9 H locs ls hI ih_1 => ?_) (fun y9 H locs ls hI => ?_) nr (0, y, rw, jn, ou, fo) H locs ls ⟨⟨Nat.zero_add _, my_rf y, ⟨0, Nat.zero_le _, hno0⟩, mrow_rf rw nr, m4_0⟩, hP, hD, hS, lv_sub hl [1, 0] rfl⟩
  · obtain ⟨i, y1, w1, j1, o1, f1⟩ := y9
    obtain ⟨hinv, hP, hD, hS, hl⟩ := hI
    have hinv : i + (n + 1) = nr ∧ my_same y y1 ∧ (∃ no, no ≤ i ∧ y1 21 = nI no) ∧ mrow rw w1 nr ∧ ∀ j9, j9 < nr → w1 (6 * j9 + 4) = m4_at rw ma nt nr i j9 := hinv
    have hP : va_P (dC, dI) vwCl (wM b cA cB y1 ma ve w1 j1 o1 f1 go) H := hP
    have hD : va_D A (wM b cA cB y1 ma ve w1 j1 o1 f1 go) := hD
    have hl : lv_has ls 3 [(0, .ref (b 0)), (1, .int (nI i))] := hl
    obtain ⟨ha, hms, ⟨no, hno1, hno⟩, hmr, h4⟩ := hinv
    have hnr1 : y1 13 = nI nr := (hms 13 (by decide) (by decide) (by decide)).trans hnr
    have hnt1 : y1 1 = nI nt := (hms 1 (by decide) (by decide) (by decide)).trans hnt
    have hnv1 : y1 10 = nI nv := (hms 10 (by decide) (by decide) (by decide)).trans hnv
    have hilt : i < nr := by omega
    refine lv_iload_n hx hb qd_M_joinAll_2 rfl (lv_at hl 1 rfl) ?_
    refine lv_aload_n hx hb qd_M_joinAll_3 rfl (lv_at hl 0 rfl) ?_
    refine va_get (D := (dC, dI)) (ci := 1) (v := .int (y1 13)) (C := qR_M) (T := qT_M) (N := 24) hx hb hts qin_M hown hK hP 0 rfl rfl 13 (by decide) (hts _ mw_415) (fun _ h9 => h9) rfl qd_M_joinAll_4 ?_
    refine mk_rw (y := nI nr) (hnr1) ?_
    refine lv_icmp_ge (tgt := 55) hx hb qd_M_joinAll_7 (by decide) (fun c_2 => ?_) (fun c_2 => ?_)
    · exact absurd c_2 (nI_ge (by omega) (by omega))
    · refine lv_aload_n hx hb qd_M_joinAll_10 rfl (lv_at hl 0 rfl) ?_
      refine lv_iload_n hx hb qd_M_joinAll_11 rfl (lv_at hl 1 rfl) ?_
      refine mk_calli (va_runV (As := [.int (nI i)]) (rest := []) ⟨hx, hb, hml, hown, hts⟩ (c_M_rowBy l dC dI cA H.size cB b y1 ma ve w1 j1 o1 f1 go nr hnr1 hr96 i (by omega)) (cwV 1 hts gc_M_101 rfl rfl rfl (by decide +kernel) ⟨Nat.le_of_ble_eq_true rfl, Nat.le_of_ble_eq_true rfl⟩) (mk_roV hP [0, 1, 2, 3, 4, 5, 6, 7] rfl hK (va_recv hK hP (ci := 1) (q0 := 0) rfl rfl)) rfl rfl hl.1 rfl (lv_room (Nat.le_of_ble_eq_true rfl)) qd_M_joinAll_12 ⟨(Nat.zero_le _), (Nat.zero_le _)⟩) hS hA hP (fun r_3 H locs hr_3 hP hS => ?_)
      obtain ⟨r9, hr9, e9, hk9⟩ := mr_hit (mr_full_c hmr hfull) hilt hr_3
      subst e9
      have hk8 : mr_rank rw r9 nr = i := (mr_rank_c hmr hr9 nr (Nat.le_refl _)).symm.trans hk9
      refine lv_istore_n (lv' := [(2, .int (nI r9)), (0, .ref (b 0)), (1, .int (nI i))]) hx hb qd_M_joinAll_15 rfl hl (by decide) rfl (fun ls hl => ?_)
      refine lv_aload_n hx hb qd_M_joinAll_16 rfl (lv_at hl 1 rfl) ?_
      refine va_get (D := (dC, dI)) (ci := 1) (v := .ref (b 3)) (C := qR_M) (T := qT_M) (N := 24) hx hb hts qin_M hown hK hP 0 rfl rfl 11 (by decide) (hts _ mw_413) (fun _ h9 => h9) rfl qd_M_joinAll_17 ?_
      refine lv_bipush (v := 6) hx hb qd_M_joinAll_20 (by decide) ?_
      refine lv_iload_n hx hb qd_M_joinAll_22 rfl (lv_at hl 0 rfl) ?_
      refine lv_imul hx hb qd_M_joinAll_23 ?_
      refine lv_iconst (v := 4) hx hb qd_M_joinAll_24 (by decide) ?_
      refine lv_iadd hx hb qd_M_joinAll_25 ?_
      refine mk_rw (y := nI ((6 * r9) + 4)) (by show ((nI 6) * (nI r9)) + (nI 4) = _; simp only [pk_mul, nI_add]) ?_
      refine va_iald (i := (nI ((6 * r9) + 4))) hx hb hK hP 3 0 rfl rfl (vp_in_nI (by omega) (by omega)) qd_M_joinAll_26 ?_
      refine mk_rw (y := w1 ((6 * r9) + 4)) (congrArg _ (nI_clamp (by omega))) ?_
      refine lv_iconst (v := 1) hx hb qd_M_joinAll_27 (by decide) ?_
      refine lv_icmp_ne (tgt := 49) hx hb qd_M_joinAll_28 (by decide) (fun c_4 => ?_) (fun c_4 => ?_)
      · refine lv_iinc (v := nI (i + 1)) (lv' := [(1, .int (nI (i + 1))), (2, .int (nI r9)), (0, .ref (b 0))]) hx hb qd_M_joinAll_49 hl (k := 2) rfl (mk_inc i) (by decide) rfl (fun ls hl => ?_)
        refine lv_goto (tgt := 2) hx hb qd_M_joinAll_52 (by decide) ?_
        exact ih_1 ((i + 1), y1, w1, j1, o1, f1) H locs ls ⟨⟨by omega, hms, ⟨no, by omega, hno⟩, hmr, m4_skip hinj h4 hr9 hk8 (fun z => c_4 z.1)⟩, hP, hD, hS, lv_sub hl [2, 0] rfl⟩
      · refine lv_aload_n hx hb qd_M_joinAll_31 rfl (lv_at hl 1 rfl) ?_
        refine lv_iload_n hx hb qd_M_joinAll_32 rfl (lv_at hl 0 rfl) ?_
        refine mk_calli (va_runV (As := [.int (nI r9)]) (rest := []) ⟨hx, hb, hml, hown, hts⟩ (c_M_canJoin l dC dI cA H.size cB b y1 ma ve w1 j1 o1 f1 go nt hnt1 ht3 r9 (by omega)) (cwV 1 hts gc_M_105 rfl rfl rfl (by decide +kernel) ⟨Nat.le_of_ble_eq_true rfl, Nat.le_of_ble_eq_true rfl⟩) (mk_roV hP [0, 1, 2, 3, 4, 5, 6, 7] rfl hK (va_recv hK hP (ci := 1) (q0 := 0) rfl rfl)) rfl rfl hl.1 rfl (lv_room (Nat.le_of_ble_eq_true rfl)) qd_M_joinAll_33 ⟨(Nat.zero_le _), (Nat.zero_le _)⟩) hS hA hP (fun r_5 H locs hr_5 hP hS => ?_)
        obtain rfl : r_5 = mc_b w1 ma r9 nt := hr_5
        refine lv_if_eq (tgt := 49) hx hb qd_M_joinAll_36 (by decide) (fun c_6 => ?_) (fun c_6 => ?_)
        · refine lv_iinc (v := nI (i + 1)) (lv' := [(1, .int (nI (i + 1))), (2, .int (nI r9)), (0, .ref (b 0))]) hx hb qd_M_joinAll_49 hl (k := 2) rfl (mk_inc i) (by decide) rfl (fun ls hl => ?_)
          refine lv_goto (tgt := 2) hx hb qd_M_joinAll_52 (by decide) ?_
          exact ih_1 ((i + 1), y1, w1, j1, o1, f1) H locs ls ⟨⟨by omega, hms, ⟨no, by omega, hno⟩, hmr, m4_skip hinj h4 hr9 hk8 (fun z => z.2 ((mc_c hmr hr9).symm.trans c_6))⟩, hP, hD, hS, lv_sub hl [2, 0] rfl⟩
        · refine lv_aload_n hx hb qd_M_joinAll_39 rfl (lv_at hl 1 rfl) ?_
          refine lv_iload_n hx hb qd_M_joinAll_40 rfl (lv_at hl 0 rfl) ?_
          refine mk_mcallv (wr := []) (wf := (fun u => (wM b cA cB y1 ma ve w1 j1 o1 u go))) (va_runV (As := [.int (nI r9)]) (rest := []) ⟨hx, hb, hml, hown, hts⟩ (c_M_find l dC dI cA H.size cB b y1 ma ve w1 j1 o1 f1 go nv hnv1 hv r9 (by omega)) (cwV 1 hts gc_M_109 rfl rfl rfl (by decide +kernel) ⟨Nat.le_of_ble_eq_true rfl, Nat.le_of_ble_eq_true rfl⟩) (mk_muP hP hD [0, 1, 2, 3, 4, 5, 6, 7] (by decide) rfl hK (va_recv hK hP (ci := 1) (q0 := 0) rfl rfl)) rfl rfl hl.1 rfl (lv_room (Nat.le_of_ble_eq_true rfl)) qd_M_joinAll_41 ⟨(Nat.zero_le _), (Nat.zero_le _)⟩) hS hA hP hD [0, 1, 2, 3, 4, 5, 6, 7] [] [0, 1, 2, 3, 4, 5, 6, 7] rfl rfl (by decide) (by decide) (by decide) (fun _ => rfl) (fun u_8 H locs hu_8 hP hD hS => ?_)
          obtain ⟨f2, rfl⟩ : ∃ z, z = u_8 := ⟨_, rfl⟩
          clear hu_8
          have hP : va_P (dC, dI) vwCl (wM b cA cB y1 ma ve w1 j1 o1 f2 go) H := hP
          have hD : va_D A (wM b cA cB y1 ma ve w1 j1 o1 f2 go) := hD
          refine lv_aload_n hx hb qd_M_joinAll_44 rfl (lv_at hl 1 rfl) ?_
          refine lv_iload_n hx hb qd_M_joinAll_45 rfl (lv_at hl 0 rfl) ?_
          refine mk_mcallv (wr := []) (wf := (fun u => (wM b cA cB u.1 ma ve u.2.1 u.2.2.1 u.2.2.2 f2 go))) (va_runV (As := [.int (nI r9)]) (rest := []) ⟨hx, hb, hml, hown, hts⟩ (c_M_take l dC dI cA H.size cB b y1 ma ve w1 j1 o1 f2 go nt hnt1 ht3 no hno (by omega) r9 (by omega)) (cwV 1 hts gc_M_113 rfl rfl rfl (by decide +kernel) ⟨Nat.le_of_ble_eq_true rfl, Nat.le_of_ble_eq_true rfl⟩) (mk_muP hP hD [0, 1, 2, 3, 4, 5, 6, 7] (by decide) rfl hK (va_recv hK hP (ci := 1) (q0 := 0) rfl rfl)) rfl rfl hl.1 rfl (lv_room (Nat.le_of_ble_eq_true rfl)) qd_M_joinAll_46 ⟨(Nat.zero_le _), (Nat.zero_le _)⟩) hS hA hP hD [0, 1, 2, 3, 4, 5, 6, 7] [] [0, 1, 2, 3, 4, 5, 6, 7] rfl rfl (by decide) (by decide) (by decide) (fun _ => rfl) (fun u_10 H locs hu_10 hP hD hS => ?_)
          obtain ⟨y3, w3, j3, o3⟩ := u_10
          obtain ⟨hm3, ⟨no3, hno3, hn3⟩, gg, eg⟩ : my_same y1 y3 ∧ (∃ no', no' ≤ no + 1 ∧ y3 21 = nI no') ∧ ∃ g, w3 = upd (upd w1 (6 * r9 + 4) 0) (6 * r9 + 5) g := hu_10
          have hmr3 : mrow rw w3 nr := by rw [eg]; exact mrow_take hmr
          have hP : va_P (dC, dI) vwCl (wM b cA cB y3 ma ve w3 j3 o3 f2 go) H := hP
          have hD : va_D A (wM b cA cB y3 ma ve w3 j3 o3 f2 go) := hD
          refine lv_iinc (v := nI (i + 1)) (lv' := [(1, .int (nI (i + 1))), (2, .int (nI r9)), (0, .ref (b 0))]) hx hb qd_M_joinAll_49 hl (k := 2) rfl (mk_inc i) (by decide) rfl (fun ls hl => ?_)
          refine lv_goto (tgt := 2) hx hb qd_M_joinAll_52 (by decide) ?_
          exact ih_1 ((i + 1), y3, w3, j3, o3, f2) H locs ls ⟨⟨by omega, my_tr hms hm3, ⟨no3, by omega, hn3⟩, hmr3, by rw [eg]; exact m4_take hinj h4 hr9 hk8 c_4 (fun z => c_6 ((mc_c hmr hr9).trans z))⟩, hP, hD, hS, lv_sub hl [2, 0] rfl⟩
  · obtain ⟨i, y1, w1, j1, o1, f1⟩ := y9
    obtain ⟨hinv, hP, hD, hS, hl⟩ := hI
    have hinv : i + 0 = nr ∧ my_same y y1 ∧ (∃ no, no ≤ i ∧ y1 21 = nI no) ∧ mrow rw w1 nr ∧ ∀ j9, j9 < nr → w1 (6 * j9 + 4) = m4_at rw ma nt nr i j9 := hinv
    have hP : va_P (dC, dI) vwCl (wM b cA cB y1 ma ve w1 j1 o1 f1 go) H := hP
    have hD : va_D A (wM b cA cB y1 ma ve w1 j1 o1 f1 go) := hD
    have hl : lv_has ls 3 [(0, .ref (b 0)), (1, .int (nI i))] := hl
    obtain ⟨ha, hms, ⟨no, hno1, hno⟩, hmr, h4⟩ := hinv
    have hnr1 : y1 13 = nI nr := (hms 13 (by decide) (by decide) (by decide)).trans hnr
    refine lv_iload_n hx hb qd_M_joinAll_2 rfl (lv_at hl 1 rfl) ?_
    refine lv_aload_n hx hb qd_M_joinAll_3 rfl (lv_at hl 0 rfl) ?_
    refine va_get (D := (dC, dI)) (ci := 1) (v := .int (y1 13)) (C := qR_M) (T := qT_M) (N := 24) hx hb hts qin_M hown hK hP 0 rfl rfl 13 (by decide) (hts _ mw_415) (fun _ h9 => h9) rfl qd_M_joinAll_4 ?_
    refine mk_rw (y := nI nr) (hnr1) ?_
    refine lv_icmp_ge (tgt := 55) hx hb qd_M_joinAll_7 (by decide) (fun c_11 => ?_) (fun c_11 => ?_)
    · exact mk_mvret (y1, w1, j1, o1, f1) hx hb hr hlocks hP hK hD hS qd_M_joinAll_55 (⟨hms, ⟨no, by omega, hno⟩, hmr, m4_end hinj (by have ei : i = nr := (by omega); subst ei; exact h4)⟩)
    · exact absurd (nI_le (by omega) (by omega)) c_11
set_option maxHeartbeats 4000000 in
set_option maxRecDepth 100000 in
/-- correct() -/
theorem c_M_correct (l : Launch) (dC : Nat → ClassId) (dI : Nat → Nat → Nat) (cA : ClassId) (sz : Nat) (cB : ClassId) (b : Nat → Nat) (y ma ve rw jn ou fo go : Nat → Int32) (nv : Nat) (hnv : y 10 = nI nv) (hv : nv ≤ 160) (nt : Nat) (hnt : y 1 = nI nt) (ht3 : nt ≤ 3) (nr : Nat) (hnr : y 13 = nI nr) (hr96 : nr ≤ 96) (hno0 : y 21 = nI 0) (hfull : mr_full rw nr) : Met l qy_M_correct qw_M_correct ({ frames := 3, cells := 0, slots := 0, locals := 84 }) (mk_mu [.ref (b 0)] sz (dC, dI) vwCl [(cA, .int), (cB, .boolean)] (wM b cA cB y ma ve rw jn ou fo go)) (mk_muV (S := (Nat → Int32) × (Nat → Int32) × (Nat → Int32) × (Nat → Int32) × (Nat → Int32)) (fun u => my_same y u.1 ∧ (∃ no, no ≤ 192 ∧ u.1 21 = nI no) ∧ mrow rw u.2.1 nr ∧ m4_keep rw u.2.1 nr) (fun u => (wM b cA cB u.1 ma ve u.2.1 u.2.2.1 u.2.2.2.1 u.2.2.2.2 go)) (dC, dI) vwCl [(cA, .int), (cB, .boolean)] (va_A (wM b cA cB y ma ve rw jn ou fo go) sz)) 0 0 (va_A (wM b cA cB y ma ve rw jn ou fo go) sz) := by
  refine Met.ofW (cc := qb_M_correct) (maxL := 5) (ret := none) (by decide) rfl ?_
  intro p e s m args below meth c s₁ B hml hpre
  obtain ⟨rfl, hsz, hP, hK, hD0⟩ := hpre
  have hx := B.exec
  have hb := B.bytes
  have hr := B.returns
  have hts0 := atoms_spec (ws := qw_M_correct) B.pre
  have hts := fun w (h : w ∈ lw_gd) => hts0 w (List.mem_cons_of_mem _ h)
  have hown : s.vm.findClass qR_M = some m.cls := findClass_of_methodNamed B.named
  have hlocks := B.notSynchronized
  subst hsz
  have hD := hD0.self (sz := s.heap.size)
  generalize hAe : va_A (wM b cA cB y ma ve rw jn ou fo go) s.heap.size = A at hD ⊢
  have hA : ∀ q : Nat, s.heap.size ≤ q → A q := fun q h => by rw [← hAe]; exact Or.inr h
  have hS : va_S A s.heap s.heap [] := va_S.rf
  have hl := lv_entry ([.ref (b 0)]) (n := 5) (Nat.le_of_ble_eq_true rfl)
  rw [lg_entry_eq]
  generalize (lg_sl ([.ref (b 0)]) ++ List.replicate (5 - (lg_sl ([.ref (b 0)])).length) Slot.unset).toArray = ls at hl ⊢
  have hl : lv_has ls 5 [(0, .ref (b 0))] := hl
  have hP : va_P (dC, dI) vwCl (wM b cA cB y ma ve rw jn ou fo go) s.heap := hP
  refine mk_start (A := A) hP (fun H locs hP hS => ?_)
  refine lv_iconst (v := 0) hx hb qd_M_correct_0 (by decide) ?_
  refine mk_rw (y := nI 0) (rfl) ?_
  refine lv_istore_n (lv' := [(1, .int (nI 0)), (0, .ref (b 0))]) hx hb qd_M_correct_1 rfl hl (by decide) rfl (fun ls hl => ?_)
  refine mk_loop (σ := Nat × (Nat → Int32) × (Nat → Int32) × (Nat → Int32) × (Nat → Int32) × (Nat → Int32)) (fun n y9 H locs ls => (y9.1 + n = nr ∧ my_same y y9.2.1 ∧ (∃ no, no ≤ 2 * y9.1 ∧ y9.2.1 21 = nI no) ∧ mrow rw y9.2.2.1 nr ∧ m4_keep rw y9.2.2.1 nr) ∧ va_P (dC, dI) vwCl (wM b cA cB y9.2.1 ma ve y9.2.2.1 y9.2.2.2.1 y9.2.2.2.2.1 y9.2.2.2.2.2 go) H ∧ va_D A (wM b cA cB y9.2.1 ma ve y9.2.2.1 y9.2.2.2.1 y9.2.2.2.2.1 y9.2.2.2.2.2 go) ∧ va_S A s.heap H locs ∧ lv_has ls 5 [(0, .ref (b 0)), (1, .int (nI y9.1))]) (fun ls => F0 m 2 ls []) (fun n y9 H locs ls hI ih_1 => ?_) (fun y9 H locs ls hI => ?_) nr (0, y, rw, jn, ou, fo) H locs ls ⟨⟨Nat.zero_add _, my_rf y, ⟨0, Nat.zero_le _, hno0⟩, mrow_rf rw nr, fun _ _ => rfl⟩, hP, hD, hS, lv_sub hl [1, 0] rfl⟩
  · obtain ⟨i, y1, w1, j1, o1, f1⟩ := y9
    obtain ⟨hinv, hP, hD, hS, hl⟩ := hI
    have hinv : i + (n + 1) = nr ∧ my_same y y1 ∧ (∃ no, no ≤ 2 * i ∧ y1 21 = nI no) ∧ mrow rw w1 nr ∧ m4_keep rw w1 nr := hinv
    have hP : va_P (dC, dI) vwCl (wM b cA cB y1 ma ve w1 j1 o1 f1 go) H := hP
    have hD : va_D A (wM b cA cB y1 ma ve w1 j1 o1 f1 go) := hD
    have hl : lv_has ls 5 [(0, .ref (b 0)), (1, .int (nI i))] := hl
    obtain ⟨ha, hms, ⟨no, hno1, hno⟩, hmr, h4⟩ := hinv
    have hnr1 : y1 13 = nI nr := (hms 13 (by decide) (by decide) (by decide)).trans hnr
    have hnt1 : y1 1 = nI nt := (hms 1 (by decide) (by decide) (by decide)).trans hnt
    have hnv1 : y1 10 = nI nv := (hms 10 (by decide) (by decide) (by decide)).trans hnv
    have hilt : i < nr := by omega
    refine lv_iload_n hx hb qd_M_correct_2 rfl (lv_at hl 1 rfl) ?_
    refine lv_aload_n hx hb qd_M_correct_3 rfl (lv_at hl 0 rfl) ?_
    refine va_get (D := (dC, dI)) (ci := 1) (v := .int (y1 13)) (C := qR_M) (T := qT_M) (N := 24) hx hb hts qin_M hown hK hP 0 rfl rfl 13 (by decide) (hts _ mw_415) (fun _ h9 => h9) rfl qd_M_correct_4 ?_
    refine mk_rw (y := nI nr) (hnr1) ?_
    refine lv_icmp_ge (tgt := 125) hx hb qd_M_correct_7 (by decide) (fun c_2 => ?_) (fun c_2 => ?_)
    · exact absurd c_2 (nI_ge (by omega) (by omega))
    · refine lv_aload_n hx hb qd_M_correct_10 rfl (lv_at hl 0 rfl) ?_
      refine lv_iload_n hx hb qd_M_correct_11 rfl (lv_at hl 1 rfl) ?_
      refine mk_calli (va_runV (As := [.int (nI i)]) (rest := []) ⟨hx, hb, hml, hown, hts⟩ (c_M_rowBy l dC dI cA H.size cB b y1 ma ve w1 j1 o1 f1 go nr hnr1 hr96 i (by omega)) (cwV 1 hts gc_M_101 rfl rfl rfl (by decide +kernel) ⟨Nat.le_of_ble_eq_true rfl, Nat.le_of_ble_eq_true rfl⟩) (mk_roV hP [0, 1, 2, 3, 4, 5, 6, 7] rfl hK (va_recv hK hP (ci := 1) (q0 := 0) rfl rfl)) rfl rfl hl.1 rfl (lv_room (Nat.le_of_ble_eq_true rfl)) qd_M_correct_12 ⟨(Nat.zero_le _), (Nat.zero_le _)⟩) hS hA hP (fun r_3 H locs hr_3 hP hS => ?_)
      obtain ⟨r9, hr9, e9, hk9⟩ := mr_hit (mr_full_c hmr hfull) hilt hr_3
      subst e9
      have hk8 : mr_rank rw r9 nr = i := (mr_rank_c hmr hr9 nr (Nat.le_refl _)).symm.trans hk9
      refine lv_istore_n (lv' := [(2, .int (nI r9)), (0, .ref (b 0)), (1, .int (nI i))]) hx hb qd_M_correct_15 rfl hl (by decide) rfl (fun ls hl => ?_)
      refine lv_aload_n hx hb qd_M_correct_16 rfl (lv_at hl 1 rfl) ?_
      refine va_get (D := (dC, dI)) (ci := 1) (v := .ref (b 3)) (C := qR_M) (T := qT_M) (N := 24) hx hb hts qin_M hown hK hP 0 rfl rfl 11 (by decide) (hts _ mw_413) (fun _ h9 => h9) rfl qd_M_correct_17 ?_
      refine lv_bipush (v := 6) hx hb qd_M_correct_20 (by decide) ?_
      refine lv_iload_n hx hb qd_M_correct_22 rfl (lv_at hl 0 rfl) ?_
      refine lv_imul hx hb qd_M_correct_23 ?_
      refine lv_iconst (v := 4) hx hb qd_M_correct_24 (by decide) ?_
      refine lv_iadd hx hb qd_M_correct_25 ?_
      refine mk_rw (y := nI ((6 * r9) + 4)) (by show ((nI 6) * (nI r9)) + (nI 4) = _; simp only [pk_mul, nI_add]) ?_
      refine va_iald (i := (nI ((6 * r9) + 4))) hx hb hK hP 3 0 rfl rfl (vp_in_nI (by omega) (by omega)) qd_M_correct_26 ?_
      refine mk_rw (y := w1 ((6 * r9) + 4)) (congrArg _ (nI_clamp (by omega))) ?_
      refine lv_if_ne (tgt := 119) hx hb qd_M_correct_27 (by decide) (fun c_4 => ?_) (fun c_4 => ?_)
      · refine lv_iinc (v := nI (i + 1)) (lv' := [(1, .int (nI (i + 1))), (2, .int (nI r9)), (0, .ref (b 0))]) hx hb qd_M_correct_119 hl (k := 2) rfl (mk_inc i) (by decide) rfl (fun ls hl => ?_)
        refine lv_goto (tgt := 2) hx hb qd_M_correct_122 (by decide) ?_
        exact ih_1 ((i + 1), y1, w1, j1, o1, f1) H locs ls ⟨⟨by omega, hms, ⟨no, by omega, hno⟩, hmr, h4⟩, hP, hD, hS, lv_sub hl [2, 0] rfl⟩
      · refine lv_aload_n hx hb qd_M_correct_30 rfl (lv_at hl 1 rfl) ?_
        refine lv_iload_n hx hb qd_M_correct_31 rfl (lv_at hl 0 rfl) ?_
        refine mk_mcallv (wr := []) (wf := (fun u => (wM b cA cB y1 ma ve w1 j1 o1 u go))) (va_runV (As := [.int (nI r9)]) (rest := []) ⟨hx, hb, hml, hown, hts⟩ (c_M_find l dC dI cA H.size cB b y1 ma ve w1 j1 o1 f1 go nv hnv1 hv r9 (by omega)) (cwV 1 hts gc_M_109 rfl rfl rfl (by decide +kernel) ⟨Nat.le_of_ble_eq_true rfl, Nat.le_of_ble_eq_true rfl⟩) (mk_muP hP hD [0, 1, 2, 3, 4, 5, 6, 7] (by decide) rfl hK (va_recv hK hP (ci := 1) (q0 := 0) rfl rfl)) rfl rfl hl.1 rfl (lv_room (Nat.le_of_ble_eq_true rfl)) qd_M_correct_32 ⟨(Nat.zero_le _), (Nat.zero_le _)⟩) hS hA hP hD [0, 1, 2, 3, 4, 5, 6, 7] [] [0, 1, 2, 3, 4, 5, 6, 7] rfl rfl (by decide) (by decide) (by decide) (fun _ => rfl) (fun u_6 H locs hu_6 hP hD hS => ?_)
        obtain ⟨f2, rfl⟩ : ∃ z, z = u_6 := ⟨_, rfl⟩
        clear hu_6
        have hP : va_P (dC, dI) vwCl (wM b cA cB y1 ma ve w1 j1 o1 f2 go) H := hP
        have hD : va_D A (wM b cA cB y1 ma ve w1 j1 o1 f2 go) := hD
        refine lv_iconst (v := 0) hx hb qd_M_correct_35 (by decide) ?_
        refine lv_istore_n (lv' := [(3, .int 0), (2, .int (nI r9)), (0, .ref (b 0)), (1, .int (nI i))]) hx hb qd_M_correct_36 rfl hl (by decide) rfl (fun ls hl => ?_)
        refine lv_iconst (v := 0) hx hb qd_M_correct_37 (by decide) ?_
        refine mk_rw (y := nI 0) (rfl) ?_
        refine lv_istore (lv' := [(4, .int (nI 0)), (3, .int 0), (2, .int (nI r9)), (0, .ref (b 0)), (1, .int (nI i))]) hx hb qd_M_correct_38 hl (by decide) rfl (fun ls hl => ?_)
        refine mk_loop (σ := Nat × Int32) (fun n2 y9 H locs ls => (y9.1 + n2 = 6) ∧ va_P (dC, dI) vwCl (wM b cA cB y1 ma ve w1 j1 o1 f2 go) H ∧ va_D A (wM b cA cB y1 ma ve w1 j1 o1 f2 go) ∧ va_S A s.heap H locs ∧ lv_has ls 5 [(0, .ref (b 0)), (1, .int (nI i)), (2, .int (nI r9)), (3, .int y9.2), (4, .int (nI y9.1))]) (fun ls => F0 m 40 ls []) (fun n2 y9 H locs ls hI ih_7 => ?_) (fun y9 H locs ls hI => ?_) 6 (0, 0) H locs ls ⟨rfl, hP, hD, hS, lv_sub hl [3, 4, 2, 1, 0] rfl⟩
        · obtain ⟨k, z⟩ := y9
          obtain ⟨hinv, hP, hD, hS, hl⟩ := hI
          have hinv : k + (n2 + 1) = 6 := hinv
          have hP : va_P (dC, dI) vwCl (wM b cA cB y1 ma ve w1 j1 o1 f2 go) H := hP
          have hD : va_D A (wM b cA cB y1 ma ve w1 j1 o1 f2 go) := hD
          have hl : lv_has ls 5 [(0, .ref (b 0)), (1, .int (nI i)), (2, .int (nI r9)), (3, .int z), (4, .int (nI k))] := hl
          refine lv_iload hx hb qd_M_correct_40 (lv_at hl 4 rfl) ?_
          refine lv_bipush (v := 6) hx hb qd_M_correct_42 (by decide) ?_
          refine lv_icmp_ge (tgt := 85) hx hb qd_M_correct_44 (by decide) (fun c_8 => ?_) (fun c_8 => ?_)
          · exact absurd c_8 (nI_ge (a := k) (b := 6) (by omega) (by decide))
          · refine lv_iload_n hx hb qd_M_correct_47 rfl (lv_at hl 3 rfl) ?_
            refine lv_if_ne (tgt := 73) hx hb qd_M_correct_48 (by decide) (fun c_9 => ?_) (fun c_9 => ?_)
            · refine lv_iconst (v := 1) hx hb qd_M_correct_73 (by decide) ?_
              refine lv_goto (tgt := 78) hx hb qd_M_correct_74 (by decide) ?_
              refine lv_istore_n (lv' := [(3, .int 1), (0, .ref (b 0)), (1, .int (nI i)), (2, .int (nI r9)), (4, .int (nI k))]) hx hb qd_M_correct_78 rfl hl (by decide) rfl (fun ls hl => ?_)
              refine lv_iinc (v := nI (k + 1)) (lv' := [(4, .int (nI (k + 1))), (3, .int 1), (0, .ref (b 0)), (1, .int (nI i)), (2, .int (nI r9))]) hx hb qd_M_correct_79 hl (k := 4) rfl (mk_inc k) (by decide) rfl (fun ls hl => ?_)
              refine lv_goto (tgt := 40) hx hb qd_M_correct_82 (by decide) ?_
              exact ih_7 ((k + 1), 1) H locs ls ⟨by omega, hP, hD, hS, lv_sub hl [2, 3, 4, 1, 0] rfl⟩
            · refine lv_aload_n hx hb qd_M_correct_51 rfl (lv_at hl 0 rfl) ?_
              refine va_get (D := (dC, dI)) (ci := 1) (v := .ref (b 6)) (C := qR_M) (T := qT_M) (N := 24) hx hb hts qin_M hown hK hP 0 rfl rfl 22 (by decide) (hts _ mw_424) (fun _ h9 => h9) rfl qd_M_correct_52 ?_
              refine lv_iload hx hb qd_M_correct_55 (lv_at hl 4 rfl) ?_
              refine va_iald (i := (nI k)) hx hb hK hP 6 0 rfl rfl (vp_in_nI (by omega) (by omega)) qd_M_correct_57 ?_
              refine mk_rw (y := f2 k) (congrArg _ (nI_clamp (by omega))) ?_
              refine lv_aload_n hx hb qd_M_correct_58 rfl (lv_at hl 0 rfl) ?_
              refine va_get (D := (dC, dI)) (ci := 1) (v := .ref (b 4)) (C := qR_M) (T := qT_M) (N := 24) hx hb hts qin_M hown hK hP 0 rfl rfl 12 (by decide) (hts _ mw_414) (fun _ h9 => h9) rfl qd_M_correct_59 ?_
              refine lv_bipush (v := 6) hx hb qd_M_correct_62 (by decide) ?_
              refine lv_iload_n hx hb qd_M_correct_64 rfl (lv_at hl 2 rfl) ?_
              refine lv_imul hx hb qd_M_correct_65 ?_
              refine lv_iload hx hb qd_M_correct_66 (lv_at hl 4 rfl) ?_
              refine lv_iadd hx hb qd_M_correct_68 ?_
              refine mk_rw (y := nI ((6 * r9) + k)) (by show ((nI 6) * (nI r9)) + (nI k) = _; simp only [pk_mul, nI_add]) ?_
              refine va_iald (i := (nI ((6 * r9) + k))) hx hb hK hP 4 0 rfl rfl (vp_in_nI (by omega) (by omega)) qd_M_correct_69 ?_
              refine mk_rw (y := j1 ((6 * r9) + k)) (congrArg _ (nI_clamp (by omega))) ?_
              refine lv_icmp_eq (tgt := 77) hx hb qd_M_correct_70 (by decide) (fun c_10 => ?_) (fun c_10 => ?_)
              · refine lv_iconst (v := 0) hx hb qd_M_correct_77 (by decide) ?_
                refine lv_istore_n (lv' := [(3, .int 0), (0, .ref (b 0)), (1, .int (nI i)), (2, .int (nI r9)), (4, .int (nI k))]) hx hb qd_M_correct_78 rfl hl (by decide) rfl (fun ls hl => ?_)
                refine lv_iinc (v := nI (k + 1)) (lv' := [(4, .int (nI (k + 1))), (3, .int 0), (0, .ref (b 0)), (1, .int (nI i)), (2, .int (nI r9))]) hx hb qd_M_correct_79 hl (k := 4) rfl (mk_inc k) (by decide) rfl (fun ls hl => ?_)
                refine lv_goto (tgt := 40) hx hb qd_M_correct_82 (by decide) ?_
                exact ih_7 ((k + 1), 0) H locs ls ⟨by omega, hP, hD, hS, lv_sub hl [2, 3, 4, 1, 0] rfl⟩
              · refine lv_iconst (v := 1) hx hb qd_M_correct_73 (by decide) ?_
                refine lv_goto (tgt := 78) hx hb qd_M_correct_74 (by decide) ?_
                refine lv_istore_n (lv' := [(3, .int 1), (0, .ref (b 0)), (1, .int (nI i)), (2, .int (nI r9)), (4, .int (nI k))]) hx hb qd_M_correct_78 rfl hl (by decide) rfl (fun ls hl => ?_)
                refine lv_iinc (v := nI (k + 1)) (lv' := [(4, .int (nI (k + 1))), (3, .int 1), (0, .ref (b 0)), (1, .int (nI i)), (2, .int (nI r9))]) hx hb qd_M_correct_79 hl (k := 4) rfl (mk_inc k) (by decide) rfl (fun ls hl => ?_)
                refine lv_goto (tgt := 40) hx hb qd_M_correct_82 (by decide) ?_
                exact ih_7 ((k + 1), 1) H locs ls ⟨by omega, hP, hD, hS, lv_sub hl [2, 3, 4, 1, 0] rfl⟩
        · obtain ⟨k, z⟩ := y9
          obtain ⟨hinv, hP, hD, hS, hl⟩ := hI
          have hinv : k + 0 = 6 := hinv
          have hP : va_P (dC, dI) vwCl (wM b cA cB y1 ma ve w1 j1 o1 f2 go) H := hP
          have hD : va_D A (wM b cA cB y1 ma ve w1 j1 o1 f2 go) := hD
          have hl : lv_has ls 5 [(0, .ref (b 0)), (1, .int (nI i)), (2, .int (nI r9)), (3, .int z), (4, .int (nI k))] := hl
          refine lv_iload hx hb qd_M_correct_40 (lv_at hl 4 rfl) ?_
          refine lv_bipush (v := 6) hx hb qd_M_correct_42 (by decide) ?_
          refine lv_icmp_ge (tgt := 85) hx hb qd_M_correct_44 (by decide) (fun c_11 => ?_) (fun c_11 => ?_)
          · refine lv_iload_n hx hb qd_M_correct_85 rfl (lv_at hl 3 rfl) ?_
            refine lv_if_eq (tgt := 110) hx hb qd_M_correct_86 (by decide) (fun c_12 => ?_) (fun c_12 => ?_)
            · refine lv_iload_n hx hb qd_M_correct_110 rfl (lv_at hl 3 rfl) ?_
              refine lv_if_eq (tgt := 119) hx hb qd_M_correct_111 (by decide) (fun c_13 => ?_) (fun c_13 => ?_)
              · refine lv_iinc (v := nI (i + 1)) (lv' := [(1, .int (nI (i + 1))), (0, .ref (b 0)), (2, .int (nI r9)), (3, .int z), (4, .int (nI k))]) hx hb qd_M_correct_119 hl (k := 1) rfl (mk_inc i) (by decide) rfl (fun ls hl => ?_)
                refine lv_goto (tgt := 2) hx hb qd_M_correct_122 (by decide) ?_
                exact ih_1 ((i + 1), y1, w1, j1, o1, f2) H locs ls ⟨⟨by omega, hms, ⟨no, by omega, hno⟩, hmr, h4⟩, hP, hD, hS, lv_sub hl [1, 0] rfl⟩
              · refine lv_aload_n hx hb qd_M_correct_114 rfl (lv_at hl 0 rfl) ?_
                refine lv_iload_n hx hb qd_M_correct_115 rfl (lv_at hl 2 rfl) ?_
                refine mk_mcallv (wr := []) (wf := (fun u => (wM b cA cB u.1 ma ve u.2.1 u.2.2.1 u.2.2.2 f2 go))) (va_runV (As := [.int (nI r9)]) (rest := []) ⟨hx, hb, hml, hown, hts⟩ (c_M_take l dC dI cA H.size cB b y1 ma ve w1 j1 o1 f2 go nt hnt1 ht3 no hno (by omega) r9 (by omega)) (cwV 1 hts gc_M_113 rfl rfl rfl (by decide +kernel) ⟨Nat.le_of_ble_eq_true rfl, Nat.le_of_ble_eq_true rfl⟩) (mk_muP hP hD [0, 1, 2, 3, 4, 5, 6, 7] (by decide) rfl hK (va_recv hK hP (ci := 1) (q0 := 0) rfl rfl)) rfl rfl hl.1 rfl (lv_room (Nat.le_of_ble_eq_true rfl)) qd_M_correct_116 ⟨(Nat.zero_le _), (Nat.zero_le _)⟩) hS hA hP hD [0, 1, 2, 3, 4, 5, 6, 7] [] [0, 1, 2, 3, 4, 5, 6, 7] rfl rfl (by decide) (by decide) (by decide) (fun _ => rfl) (fun u_15 H locs hu_15 hP hD hS => ?_)
                obtain ⟨y3, w3, j3, o3⟩ := u_15
                obtain ⟨hm3, ⟨no3, hno3, hn3⟩, gg, eg⟩ : my_same y1 y3 ∧ (∃ no', no' ≤ no + 1 ∧ y3 21 = nI no') ∧ ∃ g, w3 = upd (upd w1 (6 * r9 + 4) 0) (6 * r9 + 5) g := hu_15
                have hmr3 : mrow rw w3 nr := by rw [eg]; exact mrow_take hmr
                have hP : va_P (dC, dI) vwCl (wM b cA cB y3 ma ve w3 j3 o3 f2 go) H := hP
                have hD : va_D A (wM b cA cB y3 ma ve w3 j3 o3 f2 go) := hD
                refine lv_iinc (v := nI (i + 1)) (lv' := [(1, .int (nI (i + 1))), (0, .ref (b 0)), (2, .int (nI r9)), (3, .int z), (4, .int (nI k))]) hx hb qd_M_correct_119 hl (k := 1) rfl (mk_inc i) (by decide) rfl (fun ls hl => ?_)
                refine lv_goto (tgt := 2) hx hb qd_M_correct_122 (by decide) ?_
                exact ih_1 ((i + 1), y3, w3, j3, o3, f2) H locs ls ⟨⟨by omega, my_tr hms hm3, ⟨no3, by omega, hn3⟩, hmr3, by rw [eg]; exact m4_cor h4 c_4⟩, hP, hD, hS, lv_sub hl [1, 0] rfl⟩
            · refine lv_aload_n hx hb qd_M_correct_89 rfl (lv_at hl 0 rfl) ?_
              refine va_get (D := (dC, dI)) (ci := 1) (v := .ref (b 3)) (C := qR_M) (T := qT_M) (N := 24) hx hb hts qin_M hown hK hP 0 rfl rfl 11 (by decide) (hts _ mw_413) (fun _ h9 => h9) rfl qd_M_correct_90 ?_
              refine lv_bipush (v := 6) hx hb qd_M_correct_93 (by decide) ?_
              refine lv_iload_n hx hb qd_M_correct_95 rfl (lv_at hl 2 rfl) ?_
              refine lv_imul hx hb qd_M_correct_96 ?_
              refine lv_iconst (v := 5) hx hb qd_M_correct_97 (by decide) ?_
              refine lv_iadd hx hb qd_M_correct_98 ?_
              refine mk_rw (y := nI ((6 * r9) + 5)) (by show ((nI 6) * (nI r9)) + (nI 5) = _; simp only [pk_mul, nI_add]) ?_
              refine va_iald (i := (nI ((6 * r9) + 5))) hx hb hK hP 3 0 rfl rfl (vp_in_nI (by omega) (by omega)) qd_M_correct_99 ?_
              refine mk_rw (y := w1 ((6 * r9) + 5)) (congrArg _ (nI_clamp (by omega))) ?_
              refine lv_iconst (v := 1) hx hb qd_M_correct_100 (by decide) ?_
              refine lv_icmp_ne (tgt := 110) hx hb qd_M_correct_101 (by decide) (fun c_16 => ?_) (fun c_16 => ?_)
              · refine lv_iload_n hx hb qd_M_correct_110 rfl (lv_at hl 3 rfl) ?_
                refine lv_if_eq (tgt := 119) hx hb qd_M_correct_111 (by decide) (fun c_17 => ?_) (fun c_17 => ?_)
                · refine lv_iinc (v := nI (i + 1)) (lv' := [(1, .int (nI (i + 1))), (0, .ref (b 0)), (2, .int (nI r9)), (3, .int z), (4, .int (nI k))]) hx hb qd_M_correct_119 hl (k := 1) rfl (mk_inc i) (by decide) rfl (fun ls hl => ?_)
                  refine lv_goto (tgt := 2) hx hb qd_M_correct_122 (by decide) ?_
                  exact ih_1 ((i + 1), y1, w1, j1, o1, f2) H locs ls ⟨⟨by omega, hms, ⟨no, by omega, hno⟩, hmr, h4⟩, hP, hD, hS, lv_sub hl [1, 0] rfl⟩
                · refine lv_aload_n hx hb qd_M_correct_114 rfl (lv_at hl 0 rfl) ?_
                  refine lv_iload_n hx hb qd_M_correct_115 rfl (lv_at hl 2 rfl) ?_
                  refine mk_mcallv (wr := []) (wf := (fun u => (wM b cA cB u.1 ma ve u.2.1 u.2.2.1 u.2.2.2 f2 go))) (va_runV (As := [.int (nI r9)]) (rest := []) ⟨hx, hb, hml, hown, hts⟩ (c_M_take l dC dI cA H.size cB b y1 ma ve w1 j1 o1 f2 go nt hnt1 ht3 no hno (by omega) r9 (by omega)) (cwV 1 hts gc_M_113 rfl rfl rfl (by decide +kernel) ⟨Nat.le_of_ble_eq_true rfl, Nat.le_of_ble_eq_true rfl⟩) (mk_muP hP hD [0, 1, 2, 3, 4, 5, 6, 7] (by decide) rfl hK (va_recv hK hP (ci := 1) (q0 := 0) rfl rfl)) rfl rfl hl.1 rfl (lv_room (Nat.le_of_ble_eq_true rfl)) qd_M_correct_116 ⟨(Nat.zero_le _), (Nat.zero_le _)⟩) hS hA hP hD [0, 1, 2, 3, 4, 5, 6, 7] [] [0, 1, 2, 3, 4, 5, 6, 7] rfl rfl (by decide) (by decide) (by decide) (fun _ => rfl) (fun u_19 H locs hu_19 hP hD hS => ?_)
                  obtain ⟨y3, w3, j3, o3⟩ := u_19
                  obtain ⟨hm3, ⟨no3, hno3, hn3⟩, gg, eg⟩ : my_same y1 y3 ∧ (∃ no', no' ≤ no + 1 ∧ y3 21 = nI no') ∧ ∃ g, w3 = upd (upd w1 (6 * r9 + 4) 0) (6 * r9 + 5) g := hu_19
                  have hmr3 : mrow rw w3 nr := by rw [eg]; exact mrow_take hmr
                  have hP : va_P (dC, dI) vwCl (wM b cA cB y3 ma ve w3 j3 o3 f2 go) H := hP
                  have hD : va_D A (wM b cA cB y3 ma ve w3 j3 o3 f2 go) := hD
                  refine lv_iinc (v := nI (i + 1)) (lv' := [(1, .int (nI (i + 1))), (0, .ref (b 0)), (2, .int (nI r9)), (3, .int z), (4, .int (nI k))]) hx hb qd_M_correct_119 hl (k := 1) rfl (mk_inc i) (by decide) rfl (fun ls hl => ?_)
                  refine lv_goto (tgt := 2) hx hb qd_M_correct_122 (by decide) ?_
                  exact ih_1 ((i + 1), y3, w3, j3, o3, f2) H locs ls ⟨⟨by omega, my_tr hms hm3, ⟨no3, by omega, hn3⟩, hmr3, by rw [eg]; exact m4_cor h4 c_4⟩, hP, hD, hS, lv_sub hl [1, 0] rfl⟩
              · refine lv_aload_n hx hb qd_M_correct_104 rfl (lv_at hl 0 rfl) ?_
                refine lv_iload_n hx hb qd_M_correct_105 rfl (lv_at hl 2 rfl) ?_
                refine lv_iconst (v := 0) hx hb qd_M_correct_106 (by decide) ?_
                refine mk_mcallv (wr := []) (wf := (fun u => (wM b cA cB u.1 ma ve w1 j1 u.2 f2 go))) (va_runV (As := [.int (nI r9), .int 0]) (rest := []) ⟨hx, hb, hml, hown, hts⟩ (c_M_tell l dC dI cA H.size cB b y1 ma ve w1 j1 o1 f2 go no hno (by omega) r9 (by omega) 0) (cwV 2 hts gc_M_94 rfl rfl rfl (by decide +kernel) ⟨Nat.le_of_ble_eq_true rfl, Nat.le_of_ble_eq_true rfl⟩) (mk_muP hP hD [0, 1, 2, 3, 4, 5, 6, 7] (by decide) rfl hK (va_recv hK hP (ci := 1) (q0 := 0) rfl rfl)) rfl rfl hl.1 rfl (lv_room (Nat.le_of_ble_eq_true rfl)) qd_M_correct_107 ⟨(Nat.zero_le _), (Nat.zero_le _)⟩) hS hA hP hD [0, 1, 2, 3, 4, 5, 6, 7] [] [0, 1, 2, 3, 4, 5, 6, 7] rfl rfl (by decide) (by decide) (by decide) (fun _ => rfl) (fun u_21 H locs hu_21 hP hD hS => ?_)
                obtain ⟨y2, o2⟩ := u_21
                obtain ⟨hm2, hn2⟩ : my_same y1 y2 ∧ y2 21 = nI (no + 1) := hu_21
                have hP : va_P (dC, dI) vwCl (wM b cA cB y2 ma ve w1 j1 o2 f2 go) H := hP
                have hD : va_D A (wM b cA cB y2 ma ve w1 j1 o2 f2 go) := hD
                refine lv_iload_n hx hb qd_M_correct_110 rfl (lv_at hl 3 rfl) ?_
                refine lv_if_eq (tgt := 119) hx hb qd_M_correct_111 (by decide) (fun c_22 => ?_) (fun c_22 => ?_)
                · refine lv_iinc (v := nI (i + 1)) (lv' := [(1, .int (nI (i + 1))), (0, .ref (b 0)), (2, .int (nI r9)), (3, .int z), (4, .int (nI k))]) hx hb qd_M_correct_119 hl (k := 1) rfl (mk_inc i) (by decide) rfl (fun ls hl => ?_)
                  refine lv_goto (tgt := 2) hx hb qd_M_correct_122 (by decide) ?_
                  exact ih_1 ((i + 1), y2, w1, j1, o2, f2) H locs ls ⟨⟨by omega, my_tr hms hm2, ⟨no + 1, by omega, hn2⟩, hmr, h4⟩, hP, hD, hS, lv_sub hl [1, 0] rfl⟩
                · refine lv_aload_n hx hb qd_M_correct_114 rfl (lv_at hl 0 rfl) ?_
                  refine lv_iload_n hx hb qd_M_correct_115 rfl (lv_at hl 2 rfl) ?_
                  have hnt2 : y2 1 = nI nt := (hm2 1 (by decide) (by decide) (by decide)).trans hnt1
                  refine mk_mcallv (wr := []) (wf := (fun u => (wM b cA cB u.1 ma ve u.2.1 u.2.2.1 u.2.2.2 f2 go))) (va_runV (As := [.int (nI r9)]) (rest := []) ⟨hx, hb, hml, hown, hts⟩ (c_M_take l dC dI cA H.size cB b y2 ma ve w1 j1 o2 f2 go nt hnt2 ht3 (no + 1) hn2 (by omega) r9 (by omega)) (cwV 1 hts gc_M_113 rfl rfl rfl (by decide +kernel) ⟨Nat.le_of_ble_eq_true rfl, Nat.le_of_ble_eq_true rfl⟩) (mk_muP hP hD [0, 1, 2, 3, 4, 5, 6, 7] (by decide) rfl hK (va_recv hK hP (ci := 1) (q0 := 0) rfl rfl)) rfl rfl hl.1 rfl (lv_room (Nat.le_of_ble_eq_true rfl)) qd_M_correct_116 ⟨(Nat.zero_le _), (Nat.zero_le _)⟩) hS hA hP hD [0, 1, 2, 3, 4, 5, 6, 7] [] [0, 1, 2, 3, 4, 5, 6, 7] rfl rfl (by decide) (by decide) (by decide) (fun _ => rfl) (fun u_24 H locs hu_24 hP hD hS => ?_)
                  obtain ⟨y3, w3, j3, o3⟩ := u_24
                  obtain ⟨hm3, ⟨no3, hno3, hn3⟩, gg, eg⟩ : my_same y2 y3 ∧ (∃ no', no' ≤ (no + 1) + 1 ∧ y3 21 = nI no') ∧ ∃ g, w3 = upd (upd w1 (6 * r9 + 4) 0) (6 * r9 + 5) g := hu_24
                  have hmr3 : mrow rw w3 nr := by rw [eg]; exact mrow_take hmr
                  have hP : va_P (dC, dI) vwCl (wM b cA cB y3 ma ve w3 j3 o3 f2 go) H := hP
                  have hD : va_D A (wM b cA cB y3 ma ve w3 j3 o3 f2 go) := hD
                  refine lv_iinc (v := nI (i + 1)) (lv' := [(1, .int (nI (i + 1))), (0, .ref (b 0)), (2, .int (nI r9)), (3, .int z), (4, .int (nI k))]) hx hb qd_M_correct_119 hl (k := 1) rfl (mk_inc i) (by decide) rfl (fun ls hl => ?_)
                  refine lv_goto (tgt := 2) hx hb qd_M_correct_122 (by decide) ?_
                  exact ih_1 ((i + 1), y3, w3, j3, o3, f2) H locs ls ⟨⟨by omega, my_tr (my_tr hms hm2) hm3, ⟨no3, by omega, hn3⟩, hmr3, by rw [eg]; exact m4_cor h4 c_4⟩, hP, hD, hS, lv_sub hl [1, 0] rfl⟩
          · exact absurd (show nI 6 ≤ nI k from nI_le (by omega) (by omega)) c_11
  · obtain ⟨i, y1, w1, j1, o1, f1⟩ := y9
    obtain ⟨hinv, hP, hD, hS, hl⟩ := hI
    have hinv : i + 0 = nr ∧ my_same y y1 ∧ (∃ no, no ≤ 2 * i ∧ y1 21 = nI no) ∧ mrow rw w1 nr ∧ m4_keep rw w1 nr := hinv
    have hP : va_P (dC, dI) vwCl (wM b cA cB y1 ma ve w1 j1 o1 f1 go) H := hP
    have hD : va_D A (wM b cA cB y1 ma ve w1 j1 o1 f1 go) := hD
    have hl : lv_has ls 5 [(0, .ref (b 0)), (1, .int (nI i))] := hl
    obtain ⟨ha, hms, ⟨no, hno1, hno⟩, hmr, h4⟩ := hinv
    have hnr1 : y1 13 = nI nr := (hms 13 (by decide) (by decide) (by decide)).trans hnr
    refine lv_iload_n hx hb qd_M_correct_2 rfl (lv_at hl 1 rfl) ?_
    refine lv_aload_n hx hb qd_M_correct_3 rfl (lv_at hl 0 rfl) ?_
    refine va_get (D := (dC, dI)) (ci := 1) (v := .int (y1 13)) (C := qR_M) (T := qT_M) (N := 24) hx hb hts qin_M hown hK hP 0 rfl rfl 13 (by decide) (hts _ mw_415) (fun _ h9 => h9) rfl qd_M_correct_4 ?_
    refine mk_rw (y := nI nr) (hnr1) ?_
    refine lv_icmp_ge (tgt := 125) hx hb qd_M_correct_7 (by decide) (fun c_25 => ?_) (fun c_25 => ?_)
    · exact mk_mvret (y1, w1, j1, o1, f1) hx hb hr hlocks hP hK hD hS qd_M_correct_125 (⟨hms, ⟨no, by omega, hno⟩, hmr, h4⟩)
    · exact absurd (nI_le (by omega) (by omega)) c_25
