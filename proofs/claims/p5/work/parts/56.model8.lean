set_option maxHeartbeats 4000000 in
set_option maxRecDepth 100000 in
/-- mark(table, time) -/
theorem c_M_mark (l : Launch) (dC : Nat → ClassId) (dI : Nat → Nat → Nat) (cA : ClassId) (sz : Nat) (cB : ClassId) (b : Nat → Nat) (y ma ve rw jn ou fo go : Nat → Int32) (hok : mi_ok y ve rw) (t tm : Int32) : Met l qy_M_mark qw_M_mark ({ frames := 4, cells := 0, slots := 0, locals := 116 }) (mk_mu [.ref (b 0), .int t, .int tm] sz (dC, dI) vwCl [(cA, .int), (cB, .boolean)] (wM b cA cB y ma ve rw jn ou fo go)) (mk_muQ (S := (Nat → Int32) × (Nat → Int32) × (Nat → Int32) × (Nat → Int32) × (Nat → Int32) × (Nat → Int32) × (Nat → Int32) × (Nat → Int32)) (fun r u => mo_mark y ma t tm r u.1 u.2.1 ∧ mi_ok u.1 u.2.2.1 u.2.2.2.1 ∧ mq_mark y ma rw t tm u.1 u.2.1 u.2.2.2.1) (fun u => (wM b cA cB u.1 u.2.1 u.2.2.1 u.2.2.2.1 u.2.2.2.2.1 u.2.2.2.2.2.1 u.2.2.2.2.2.2.1 u.2.2.2.2.2.2.2)) (dC, dI) vwCl [(cA, .int), (cB, .boolean)] (va_A (wM b cA cB y ma ve rw jn ou fo go) sz)) 0 0 (va_A (wM b cA cB y ma ve rw jn ou fo go) sz) := by
  refine Met.ofW (cc := qb_M_mark) (maxL := 4) (ret := (some .int)) (by decide) rfl ?_
  intro p e s m args below meth c s₁ B hml hpre
  obtain ⟨rfl, hsz, hP, hK, hD0⟩ := hpre
  have hx := B.exec
  have hb := B.bytes
  have hr := B.returns
  have hts0 := atoms_spec (ws := qw_M_mark) B.pre
  have hts := fun w (h : w ∈ lw_gd) => hts0 w (List.mem_cons_of_mem _ h)
  have hown : s.vm.findClass qR_M = some m.cls := findClass_of_methodNamed B.named
  have hlocks := B.notSynchronized
  subst hsz
  have hD := hD0.self (sz := s.heap.size)
  generalize hAe : va_A (wM b cA cB y ma ve rw jn ou fo go) s.heap.size = A at hD ⊢
  have hA : ∀ q : Nat, s.heap.size ≤ q → A q := fun q h => by rw [← hAe]; exact Or.inr h
  have hS : va_S A s.heap s.heap [] := va_S.rf
  have hl := lv_entry ([.ref (b 0), .int t, .int tm]) (n := 4) (Nat.le_of_ble_eq_true rfl)
  rw [lg_entry_eq]
  generalize (lg_sl ([.ref (b 0), .int t, .int tm]) ++ List.replicate (4 - (lg_sl ([.ref (b 0), .int t, .int tm])).length) Slot.unset).toArray = ls at hl ⊢
  have hl : lv_has ls 4 [(0, .ref (b 0)), (1, .int t), (2, .int tm)] := hl
  have hP : va_P (dC, dI) vwCl (wM b cA cB y ma ve rw jn ou fo go) s.heap := hP
  refine mk_start (A := A) hP (fun H locs hP hS => ?_)
  have hok9 := hok
  obtain ⟨nt, nv, nr, no, c, hnt, ht3, hnv, hv, hnr, hr96, hno, hno2, hcm, hc3, hinc, hlc, hap, hbg⟩ := hok
  refine lv_aload_n hx hb qd_M_mark_0 rfl (lv_at hl 0 rfl) ?_
  refine lv_iconst (v := 0) hx hb qd_M_mark_1 (by decide) ?_
  refine va_put (D := (dC, dI)) (ci := 1) (v := .int 0) (ty := .int) (C := qR_M) (T := qT_M) (N := 24) hx hb hts qin_M qty_M qtyok_M qnm_M hown hK hP hD hS 0 rfl rfl 0 (by decide) (hts _ mw_402) (fun _ h9 => h9) rfl (by decide +kernel) rfl rfl (Nat.le_of_ble_eq_true rfl) qd_M_mark_2 (fun H locs hP hD hS => ?_)
  have hP : va_P (dC, dI) vwCl (wM b cA cB (upd y 0 0) ma ve rw jn ou fo go) H := hP
  have hD : va_D A (wM b cA cB (upd y 0 0) ma ve rw jn ou fo go) := hD
  refine lv_iload_n hx hb qd_M_mark_5 rfl (lv_at hl 1 rfl) ?_
  refine lv_i2l (v := Int32.toInt64 t) hx hb qd_M_mark_6 rfl ?_
  refine lv_ldc2 (v := -1) hx hb hown (hts _ mw_495) qd_M_mark_7 ?_
  refine lv_aload_n hx hb qd_M_mark_10 rfl (lv_at hl 0 rfl) ?_
  refine va_get (D := (dC, dI)) (ci := 1) (v := .int (y 1)) (C := qR_M) (T := qT_M) (N := 24) hx hb hts qin_M hown hK hP 0 rfl rfl 1 (by decide) (hts _ mw_403) (fun _ h9 => h9) rfl qd_M_mark_11 ?_
  refine lv_iconst (v := 1) hx hb qd_M_mark_14 (by decide) ?_
  refine lv_isub hx hb qd_M_mark_15 ?_
  refine lv_i2l (v := Int32.toInt64 ((y 1) - 1)) hx hb qd_M_mark_16 rfl ?_
  refine mk_calli (va_runS (As := [.long (Int32.toInt64 t), .long (-1), .long (Int32.toInt64 ((y 1) - 1))]) (rest := []) ⟨hx, hb, hml, hown, hts⟩ (c_M_in l dC dI cA H.size cB (Int32.toInt64 t) (-1) (Int32.toInt64 ((y 1) - 1))) (va_cwS 3 hts gc_M_51 rfl rfl rfl (by decide +kernel) ⟨Nat.le_of_ble_eq_true rfl, Nat.le_of_ble_eq_true rfl⟩) (mk_roS hP [] rfl hK) rfl rfl hl.1 rfl (lv_room (Nat.le_of_ble_eq_true rfl)) qd_M_mark_17 ⟨(Nat.zero_le _), (Nat.zero_le _)⟩) hS hA hP (fun r_1 H locs hr_1 hP hS => ?_)
  obtain rfl : r_1 = mi_b (Int32.toInt64 t) (-1) (Int32.toInt64 ((y 1) - 1)) := hr_1
  refine lv_if_eq (tgt := 35) hx hb qd_M_mark_20 (by decide) (fun c_2 => ?_) (fun c_2 => ?_)
  · refine lv_iconst (v := (-1)) hx hb qd_M_mark_35 (by decide) ?_
    exact mk_miret (upd y 0 0, ma, ve, rw, jn, ou, fo, go) hx hb hr hlocks hP hK hD hS qd_M_mark_36 ⟨Or.inl ⟨Or.inl c_2, rfl, rfl, rfl⟩, mi_keep hok9 rfl rfl rfl rfl rfl rfl, Or.inl ⟨Or.inl (Or.inl c_2), rfl, rfl, rfl⟩⟩
  · refine lv_iload_n hx hb qd_M_mark_23 rfl (lv_at hl 2 rfl) ?_
    refine lv_i2l (v := Int32.toInt64 tm) hx hb qd_M_mark_24 rfl ?_
    refine lv_lconst (v := 0) hx hb qd_M_mark_25 (by decide) ?_
    refine lv_ldc2 (v := 100000) hx hb hown (hts _ mw_494) qd_M_mark_26 ?_
    refine mk_calli (va_runS (As := [.long (Int32.toInt64 tm), .long 0, .long 100000]) (rest := []) ⟨hx, hb, hml, hown, hts⟩ (c_M_in l dC dI cA H.size cB (Int32.toInt64 tm) 0 100000) (va_cwS 3 hts gc_M_51 rfl rfl rfl (by decide +kernel) ⟨Nat.le_of_ble_eq_true rfl, Nat.le_of_ble_eq_true rfl⟩) (mk_roS hP [] rfl hK) rfl rfl hl.1 rfl (lv_room (Nat.le_of_ble_eq_true rfl)) qd_M_mark_29 ⟨(Nat.zero_le _), (Nat.zero_le _)⟩) hS hA hP (fun r_3 H locs hr_3 hP hS => ?_)
    obtain rfl : r_3 = mi_b (Int32.toInt64 tm) 0 100000 := hr_3
    refine lv_if_ne (tgt := 37) hx hb qd_M_mark_32 (by decide) (fun c_4 => ?_) (fun c_4 => ?_)
    · refine lv_iload_n hx hb qd_M_mark_37 rfl (lv_at hl 1 rfl) ?_
      refine lv_if_ge (tgt := 48) hx hb qd_M_mark_38 (by decide) (fun c_5 => ?_) (fun c_5 => ?_)
      · obtain ⟨t', ht', et⟩ := mt_nat c_2 hnt ht3 c_5
        refine lv_aload_n hx hb qd_M_mark_48 rfl (lv_at hl 0 rfl) ?_
        refine va_get (D := (dC, dI)) (ci := 1) (v := .ref (b 1)) (C := qR_M) (T := qT_M) (N := 24) hx hb hts qin_M hown hK hP 0 rfl rfl 7 (by decide) (hts _ mw_409) (fun _ h9 => h9) rfl qd_M_mark_49 ?_
        refine lv_iload_n hx hb qd_M_mark_52 rfl (lv_at hl 1 rfl) ?_
        refine mk_rw (y := nI t') (et) ?_
        refine va_iald (i := (nI t')) hx hb hK hP 1 0 rfl rfl (vp_in_nI (by omega) (by omega)) qd_M_mark_53 ?_
        refine mk_rw (y := ma t') (congrArg _ (nI_clamp (by omega))) ?_
        refine lv_istore_n (lv' := [(3, .int (ma t')), (0, .ref (b 0)), (1, .int t), (2, .int tm)]) hx hb qd_M_mark_54 rfl hl (by decide) rfl (fun ls hl => ?_)
        refine lv_iload_n hx hb qd_M_mark_55 rfl (lv_at hl 3 rfl) ?_
        refine lv_iload_n hx hb qd_M_mark_56 rfl (lv_at hl 0 rfl) ?_
        refine lv_icmp_gt (tgt := 63) hx hb qd_M_mark_57 (by decide) (fun c_6 => ?_) (fun c_6 => ?_)
        · refine lv_aload_n hx hb qd_M_mark_63 rfl (lv_at hl 1 rfl) ?_
          refine lv_iconst (v := 1) hx hb qd_M_mark_64 (by decide) ?_
          refine va_put (D := (dC, dI)) (ci := 1) (v := .int 1) (ty := .boolean) (C := qR_M) (T := qT_M) (N := 24) hx hb hts qin_M qty_M qtyok_M qnm_M hown hK hP hD hS 0 rfl rfl 6 (by decide) (hts _ mw_408) (fun _ h9 => h9) rfl (by decide +kernel) rfl rfl (Nat.le_of_ble_eq_true rfl) qd_M_mark_65 (fun H locs hP hD hS => ?_)
          have hP : va_P (dC, dI) vwCl (wM b cA cB (upd (upd y 0 0) 6 1) ma ve rw jn ou fo go) H := hP
          have hD : va_D A (wM b cA cB (upd (upd y 0 0) 6 1) ma ve rw jn ou fo go) := hD
          refine lv_aload_n hx hb qd_M_mark_68 rfl (lv_at hl 1 rfl) ?_
          refine lv_iconst (v := 0) hx hb qd_M_mark_69 (by decide) ?_
          refine va_put (D := (dC, dI)) (ci := 1) (v := .int 0) (ty := .int) (C := qR_M) (T := qT_M) (N := 24) hx hb hts qin_M qty_M qtyok_M qnm_M hown hK hP hD hS 0 rfl rfl 21 (by decide) (hts _ mw_423) (fun _ h9 => h9) rfl (by decide +kernel) rfl rfl (Nat.le_of_ble_eq_true rfl) qd_M_mark_70 (fun H locs hP hD hS => ?_)
          have hP : va_P (dC, dI) vwCl (wM b cA cB (upd (upd (upd y 0 0) 6 1) 21 0) ma ve rw jn ou fo go) H := hP
          have hD : va_D A (wM b cA cB (upd (upd (upd y 0 0) 6 1) 21 0) ma ve rw jn ou fo go) := hD
          refine lv_iload_n hx hb qd_M_mark_73 rfl (lv_at hl 2 rfl) ?_
          refine lv_if_ge (tgt := 85) hx hb qd_M_mark_74 (by decide) (fun c_7 => ?_) (fun c_7 => ?_)
          · refine lv_aload_n hx hb qd_M_mark_85 rfl (lv_at hl 1 rfl) ?_
            refine va_get (D := (dC, dI)) (ci := 1) (v := .ref (b 1)) (C := qR_M) (T := qT_M) (N := 24) hx hb hts qin_M hown hK hP 0 rfl rfl 7 (by decide) (hts _ mw_409) (fun _ h9 => h9) rfl qd_M_mark_86 ?_
            refine lv_iload_n hx hb qd_M_mark_89 rfl (lv_at hl 2 rfl) ?_
            refine mk_rw (y := nI t') (et) ?_
            refine lv_iload_n hx hb qd_M_mark_90 rfl (lv_at hl 3 rfl) ?_
            refine va_iast (i := (nI t')) (x := tm) hx hb hK hP hD hS 1 0 rfl rfl (vp_in_nI (by omega) (by omega)) qd_M_mark_91 (fun H locs hP hD hS => ?_)
            rw [show Int32.toNatClampNeg (nI t') = t' from (nI_clamp (by omega))] at hP hD
            have hP : va_P (dC, dI) vwCl (wM b cA cB (upd (upd (upd y 0 0) 6 1) 21 0) (upd ma t' tm) ve rw jn ou fo go) H := hP
            have hD : va_D A (wM b cA cB (upd (upd (upd y 0 0) 6 1) 21 0) (upd ma t' tm) ve rw jn ou fo go) := hD
            refine lv_aload_n hx hb qd_M_mark_92 rfl (lv_at hl 1 rfl) ?_
            refine mk_mcallv (wr := []) (wf := (fun u => (wM b cA cB u.1 (upd ma t' tm) ve u.2.1 u.2.2.1 u.2.2.2.1 u.2.2.2.2 go))) (va_runV (As := []) (rest := []) ⟨hx, hb, hml, hown, hts⟩ (c_M_joinAll l dC dI cA H.size cB b (upd (upd (upd y 0 0) 6 1) 21 0) (upd ma t' tm) ve rw jn ou fo go nv hnv hv nt hnt ht3 nr hnr hr96 rfl (mr_full_of hinc) (m4_of hinc)) (cwV 0 hts gc_M_142 rfl rfl rfl (by decide +kernel) ⟨Nat.le_of_ble_eq_true rfl, Nat.le_of_ble_eq_true rfl⟩) (mk_muP hP hD [0, 1, 2, 3, 4, 5, 6, 7] (by decide) rfl hK (va_recv hK hP (ci := 1) (q0 := 0) rfl rfl)) rfl rfl hl.1 rfl (lv_room (Nat.le_of_ble_eq_true rfl)) qd_M_mark_93 ⟨(Nat.zero_le _), (Nat.zero_le _)⟩) hS hA hP hD [0, 1, 2, 3, 4, 5, 6, 7] [] [0, 1, 2, 3, 4, 5, 6, 7] rfl rfl (by decide) (by decide) (by decide) (fun _ => rfl) (fun u_9 H locs hu_9 hP hD hS => ?_)
            obtain ⟨y3, w3, j3, o3, f3⟩ := u_9
            obtain ⟨hms, hno3, hmr, hj4⟩ : my_same (upd (upd (upd y 0 0) 6 1) 21 0) y3 ∧ (∃ no, no ≤ 192 ∧ y3 21 = nI no) ∧ mrow rw w3 nr ∧ m4_join rw (upd ma t' tm) w3 nt nr := hu_9
            have hcore : my_core y y3 := my_coreS hms ⟨rfl, rfl, rfl, rfl, rfl⟩
            have hnr3 : y3 13 = nI nr := (hms 13 (by decide) (by decide) (by decide)).trans hnr
            have hnv3 : y3 10 = nI nv := (hms 10 (by decide) (by decide) (by decide)).trans hnv
            have hP : va_P (dC, dI) vwCl (wM b cA cB y3 (upd ma t' tm) ve w3 j3 o3 f3 go) H := hP
            have hD : va_D A (wM b cA cB y3 (upd ma t' tm) ve w3 j3 o3 f3 go) := hD
            refine lv_aload_n hx hb qd_M_mark_96 rfl (lv_at hl 1 rfl) ?_
            refine mk_mcallv (wr := []) (wf := (fun u => (wM b cA cB u.1 (upd ma t' tm) ve u.2.1 u.2.2 o3 f3 go))) (va_runV (As := []) (rest := []) ⟨hx, hb, hml, hown, hts⟩ (c_M_dropRows l dC dI cA H.size cB b y3 (upd ma t' tm) ve w3 j3 o3 f3 go nr hnr3 hr96) (cwV 0 hts gc_M_145 rfl rfl rfl (by decide +kernel) ⟨Nat.le_of_ble_eq_true rfl, Nat.le_of_ble_eq_true rfl⟩) (mk_muP hP hD [0, 1, 2, 3, 4, 5, 6, 7] (by decide) rfl hK (va_recv hK hP (ci := 1) (q0 := 0) rfl rfl)) rfl rfl hl.1 rfl (lv_room (Nat.le_of_ble_eq_true rfl)) qd_M_mark_97 ⟨(Nat.zero_le _), (Nat.zero_le _)⟩) hS hA hP hD [0, 1, 2, 3, 4, 5, 6, 7] [] [0, 1, 2, 3, 4, 5, 6, 7] rfl rfl (by decide) (by decide) (by decide) (fun _ => rfl) (fun u_11 H locs hu_11 hP hD hS => ?_)
            obtain ⟨y4, w4, j4⟩ := u_11
            obtain ⟨n1, hn1, rfl, hf1⟩ : ∃ n', n' ≤ nr ∧ y4 = upd (upd y3 17 (y3 17 + nI nr - nI n')) 13 (nI n') ∧ mrl w4 n' = (mrl w3 nr).filter (mkeep (y3 8 - y3 5)) := hu_11
            have hP : va_P (dC, dI) vwCl (wM b cA cB (upd (upd y3 17 (y3 17 + nI nr - nI n1)) 13 (nI n1)) (upd ma t' tm) ve w4 j4 o3 f3 go) H := hP
            have hD : va_D A (wM b cA cB (upd (upd y3 17 (y3 17 + nI nr - nI n1)) 13 (nI n1)) (upd ma t' tm) ve w4 j4 o3 f3 go) := hD
            refine lv_aload_n hx hb qd_M_mark_100 rfl (lv_at hl 1 rfl) ?_
            refine mk_mcallv (wr := []) (wf := (fun u => (wM b cA cB u.1 (upd ma t' tm) u.2.1 w4 j4 o3 f3 u.2.2))) (va_runV (As := []) (rest := []) ⟨hx, hb, hml, hown, hts⟩ (c_M_dropVersions l dC dI cA H.size cB b (upd (upd y3 17 (y3 17 + nI nr - nI n1)) 13 (nI n1)) (upd ma t' tm) ve w4 j4 o3 f3 go nv hnv3 hv n1 rfl (by omega)) (cwV 0 hts gc_M_148 rfl rfl rfl (by decide +kernel) ⟨Nat.le_of_ble_eq_true rfl, Nat.le_of_ble_eq_true rfl⟩) (mk_muP hP hD [0, 1, 2, 3, 4, 5, 6, 7] (by decide) rfl hK (va_recv hK hP (ci := 1) (q0 := 0) rfl rfl)) rfl rfl hl.1 rfl (lv_room (Nat.le_of_ble_eq_true rfl)) qd_M_mark_101 ⟨(Nat.zero_le _), (Nat.zero_le _)⟩) hS hA hP hD [0, 1, 2, 3, 4, 5, 6, 7] [] [0, 1, 2, 3, 4, 5, 6, 7] rfl rfl (by decide) (by decide) (by decide) (fun _ => rfl) (fun u_13 H locs hu_13 hP hD hS => ?_)
            obtain ⟨y5, v5, g5⟩ := u_13
            obtain ⟨n2, hn2, rfl, hs2⟩ : ∃ n', n' ≤ nv ∧ y5 = upd (upd (upd (upd y3 17 (y3 17 + nI nr - nI n1)) 13 (nI n1)) 18 ((upd (upd y3 17 (y3 17 + nI nr - nI n1)) 13 (nI n1)) 18 + nI nv - nI n')) 10 (nI n') ∧ (mvl v5 n').Sublist (mvl ve nv) := hu_13
            have hP : va_P (dC, dI) vwCl (wM b cA cB (upd (upd (upd (upd y3 17 (y3 17 + nI nr - nI n1)) 13 (nI n1)) 18 ((upd (upd y3 17 (y3 17 + nI nr - nI n1)) 13 (nI n1)) 18 + nI nv - nI n2)) 10 (nI n2)) (upd ma t' tm) v5 w4 j4 o3 f3 g5) H := hP
            have hD : va_D A (wM b cA cB (upd (upd (upd (upd y3 17 (y3 17 + nI nr - nI n1)) 13 (nI n1)) 18 ((upd (upd y3 17 (y3 17 + nI nr - nI n1)) 13 (nI n1)) 18 + nI nv - nI n2)) 10 (nI n2)) (upd ma t' tm) v5 w4 j4 o3 f3 g5) := hD
            refine lv_iload_n hx hb qd_M_mark_104 rfl (lv_at hl 0 rfl) ?_
            exact mk_miret ((upd (upd (upd (upd y3 17 (y3 17 + nI nr - nI n1)) 13 (nI n1)) 18 ((upd (upd y3 17 (y3 17 + nI nr - nI n1)) 13 (nI n1)) 18 + nI nv - nI n2)) 10 (nI n2)), (upd ma t' tm), v5, w4, j4, o3, f3, g5) hx hb hr hlocks hP hK hD hS qd_M_mark_105 ⟨Or.inr ⟨mm_nbad c_2 c_4, Or.inr ⟨t', by omega, et, Or.inr ⟨c_6, rfl, ⟨hcore.1, hcore.2.1, hcore.2.2.1, hcore.2.2.2.1, hcore.2.2.2.2⟩, hms 8 (by decide) (by decide) (by decide), hms 6 (by decide) (by decide) (by decide), rfl⟩⟩⟩, mi_mark hms hnt ht3 hcm hc3 rfl hinc hlc hap hv hr96 hno3 hmr hn1 hf1 hn2 hs2, Or.inr ⟨mm_nbad c_2 c_4, Or.inr ⟨t', by omega, et, c_6⟩, nt, nr, n1, hnt, ht3, hnr, hr96, hn1, rfl, hms 14 (by decide) (by decide) (by decide), mq_mark_of hmr hj4 hf1⟩⟩
          · exact absurd c_5 c_7
        · refine lv_bipush (v := (-2)) hx hb qd_M_mark_60 (by decide) ?_
          exact mk_miret (upd y 0 0, ma, ve, rw, jn, ou, fo, go) hx hb hr hlocks hP hK hD hS qd_M_mark_62 ⟨Or.inr ⟨mm_nbad c_2 c_4, Or.inr ⟨t', by omega, et, Or.inl ⟨c_6, rfl, rfl, rfl⟩⟩⟩, mi_keep hok9 rfl rfl rfl rfl rfl rfl, Or.inl ⟨Or.inr (Or.inr ⟨t', by omega, et, c_6⟩), rfl, rfl, rfl⟩⟩
      · refine lv_aload_n hx hb qd_M_mark_41 rfl (lv_at hl 0 rfl) ?_
        refine va_get (D := (dC, dI)) (ci := 1) (v := .int (y 8)) (C := qR_M) (T := qT_M) (N := 24) hx hb hts qin_M hown hK hP 0 rfl rfl 8 (by decide) (hts _ mw_410) (fun _ h9 => h9) rfl qd_M_mark_42 ?_
        refine lv_goto (tgt := 54) hx hb qd_M_mark_45 (by decide) ?_
        refine lv_istore_n (lv' := [(3, .int (y 8)), (0, .ref (b 0)), (1, .int t), (2, .int tm)]) hx hb qd_M_mark_54 rfl hl (by decide) rfl (fun ls hl => ?_)
        refine lv_iload_n hx hb qd_M_mark_55 rfl (lv_at hl 3 rfl) ?_
        refine lv_iload_n hx hb qd_M_mark_56 rfl (lv_at hl 0 rfl) ?_
        refine lv_icmp_gt (tgt := 63) hx hb qd_M_mark_57 (by decide) (fun c_14 => ?_) (fun c_14 => ?_)
        · refine lv_aload_n hx hb qd_M_mark_63 rfl (lv_at hl 1 rfl) ?_
          refine lv_iconst (v := 1) hx hb qd_M_mark_64 (by decide) ?_
          refine va_put (D := (dC, dI)) (ci := 1) (v := .int 1) (ty := .boolean) (C := qR_M) (T := qT_M) (N := 24) hx hb hts qin_M qty_M qtyok_M qnm_M hown hK hP hD hS 0 rfl rfl 6 (by decide) (hts _ mw_408) (fun _ h9 => h9) rfl (by decide +kernel) rfl rfl (Nat.le_of_ble_eq_true rfl) qd_M_mark_65 (fun H locs hP hD hS => ?_)
          have hP : va_P (dC, dI) vwCl (wM b cA cB (upd (upd y 0 0) 6 1) ma ve rw jn ou fo go) H := hP
          have hD : va_D A (wM b cA cB (upd (upd y 0 0) 6 1) ma ve rw jn ou fo go) := hD
          refine lv_aload_n hx hb qd_M_mark_68 rfl (lv_at hl 1 rfl) ?_
          refine lv_iconst (v := 0) hx hb qd_M_mark_69 (by decide) ?_
          refine va_put (D := (dC, dI)) (ci := 1) (v := .int 0) (ty := .int) (C := qR_M) (T := qT_M) (N := 24) hx hb hts qin_M qty_M qtyok_M qnm_M hown hK hP hD hS 0 rfl rfl 21 (by decide) (hts _ mw_423) (fun _ h9 => h9) rfl (by decide +kernel) rfl rfl (Nat.le_of_ble_eq_true rfl) qd_M_mark_70 (fun H locs hP hD hS => ?_)
          have hP : va_P (dC, dI) vwCl (wM b cA cB (upd (upd (upd y 0 0) 6 1) 21 0) ma ve rw jn ou fo go) H := hP
          have hD : va_D A (wM b cA cB (upd (upd (upd y 0 0) 6 1) 21 0) ma ve rw jn ou fo go) := hD
          refine lv_iload_n hx hb qd_M_mark_73 rfl (lv_at hl 2 rfl) ?_
          refine lv_if_ge (tgt := 85) hx hb qd_M_mark_74 (by decide) (fun c_15 => ?_) (fun c_15 => ?_)
          · exact absurd c_15 c_5
          · refine lv_aload_n hx hb qd_M_mark_77 rfl (lv_at hl 1 rfl) ?_
            refine lv_iload_n hx hb qd_M_mark_78 rfl (lv_at hl 3 rfl) ?_
            refine va_put (D := (dC, dI)) (ci := 1) (v := .int tm) (ty := .int) (C := qR_M) (T := qT_M) (N := 24) hx hb hts qin_M qty_M qtyok_M qnm_M hown hK hP hD hS 0 rfl rfl 8 (by decide) (hts _ mw_410) (fun _ h9 => h9) rfl (by decide +kernel) rfl rfl (Nat.le_of_ble_eq_true rfl) qd_M_mark_79 (fun H locs hP hD hS => ?_)
            have hP : va_P (dC, dI) vwCl (wM b cA cB (upd (upd (upd (upd y 0 0) 6 1) 21 0) 8 tm) ma ve rw jn ou fo go) H := hP
            have hD : va_D A (wM b cA cB (upd (upd (upd (upd y 0 0) 6 1) 21 0) 8 tm) ma ve rw jn ou fo go) := hD
            refine lv_goto (tgt := 92) hx hb qd_M_mark_82 (by decide) ?_
            refine lv_aload_n hx hb qd_M_mark_92 rfl (lv_at hl 1 rfl) ?_
            refine mk_mcallv (wr := []) (wf := (fun u => (wM b cA cB u.1 ma ve u.2.1 u.2.2.1 u.2.2.2.1 u.2.2.2.2 go))) (va_runV (As := []) (rest := []) ⟨hx, hb, hml, hown, hts⟩ (c_M_joinAll l dC dI cA H.size cB b (upd (upd (upd (upd y 0 0) 6 1) 21 0) 8 tm) ma ve rw jn ou fo go nv hnv hv nt hnt ht3 nr hnr hr96 rfl (mr_full_of hinc) (m4_of hinc)) (cwV 0 hts gc_M_142 rfl rfl rfl (by decide +kernel) ⟨Nat.le_of_ble_eq_true rfl, Nat.le_of_ble_eq_true rfl⟩) (mk_muP hP hD [0, 1, 2, 3, 4, 5, 6, 7] (by decide) rfl hK (va_recv hK hP (ci := 1) (q0 := 0) rfl rfl)) rfl rfl hl.1 rfl (lv_room (Nat.le_of_ble_eq_true rfl)) qd_M_mark_93 ⟨(Nat.zero_le _), (Nat.zero_le _)⟩) hS hA hP hD [0, 1, 2, 3, 4, 5, 6, 7] [] [0, 1, 2, 3, 4, 5, 6, 7] rfl rfl (by decide) (by decide) (by decide) (fun _ => rfl) (fun u_17 H locs hu_17 hP hD hS => ?_)
            obtain ⟨y3, w3, j3, o3, f3⟩ := u_17
            obtain ⟨hms, hno3, hmr, hj4⟩ : my_same (upd (upd (upd (upd y 0 0) 6 1) 21 0) 8 tm) y3 ∧ (∃ no, no ≤ 192 ∧ y3 21 = nI no) ∧ mrow rw w3 nr ∧ m4_join rw ma w3 nt nr := hu_17
            have hcore : my_core y y3 := my_coreS hms ⟨rfl, rfl, rfl, rfl, rfl⟩
            have hnr3 : y3 13 = nI nr := (hms 13 (by decide) (by decide) (by decide)).trans hnr
            have hnv3 : y3 10 = nI nv := (hms 10 (by decide) (by decide) (by decide)).trans hnv
            have hP : va_P (dC, dI) vwCl (wM b cA cB y3 ma ve w3 j3 o3 f3 go) H := hP
            have hD : va_D A (wM b cA cB y3 ma ve w3 j3 o3 f3 go) := hD
            refine lv_aload_n hx hb qd_M_mark_96 rfl (lv_at hl 1 rfl) ?_
            refine mk_mcallv (wr := []) (wf := (fun u => (wM b cA cB u.1 ma ve u.2.1 u.2.2 o3 f3 go))) (va_runV (As := []) (rest := []) ⟨hx, hb, hml, hown, hts⟩ (c_M_dropRows l dC dI cA H.size cB b y3 ma ve w3 j3 o3 f3 go nr hnr3 hr96) (cwV 0 hts gc_M_145 rfl rfl rfl (by decide +kernel) ⟨Nat.le_of_ble_eq_true rfl, Nat.le_of_ble_eq_true rfl⟩) (mk_muP hP hD [0, 1, 2, 3, 4, 5, 6, 7] (by decide) rfl hK (va_recv hK hP (ci := 1) (q0 := 0) rfl rfl)) rfl rfl hl.1 rfl (lv_room (Nat.le_of_ble_eq_true rfl)) qd_M_mark_97 ⟨(Nat.zero_le _), (Nat.zero_le _)⟩) hS hA hP hD [0, 1, 2, 3, 4, 5, 6, 7] [] [0, 1, 2, 3, 4, 5, 6, 7] rfl rfl (by decide) (by decide) (by decide) (fun _ => rfl) (fun u_19 H locs hu_19 hP hD hS => ?_)
            obtain ⟨y4, w4, j4⟩ := u_19
            obtain ⟨n1, hn1, rfl, hf1⟩ : ∃ n', n' ≤ nr ∧ y4 = upd (upd y3 17 (y3 17 + nI nr - nI n')) 13 (nI n') ∧ mrl w4 n' = (mrl w3 nr).filter (mkeep (y3 8 - y3 5)) := hu_19
            have hP : va_P (dC, dI) vwCl (wM b cA cB (upd (upd y3 17 (y3 17 + nI nr - nI n1)) 13 (nI n1)) ma ve w4 j4 o3 f3 go) H := hP
            have hD : va_D A (wM b cA cB (upd (upd y3 17 (y3 17 + nI nr - nI n1)) 13 (nI n1)) ma ve w4 j4 o3 f3 go) := hD
            refine lv_aload_n hx hb qd_M_mark_100 rfl (lv_at hl 1 rfl) ?_
            refine mk_mcallv (wr := []) (wf := (fun u => (wM b cA cB u.1 ma u.2.1 w4 j4 o3 f3 u.2.2))) (va_runV (As := []) (rest := []) ⟨hx, hb, hml, hown, hts⟩ (c_M_dropVersions l dC dI cA H.size cB b (upd (upd y3 17 (y3 17 + nI nr - nI n1)) 13 (nI n1)) ma ve w4 j4 o3 f3 go nv hnv3 hv n1 rfl (by omega)) (cwV 0 hts gc_M_148 rfl rfl rfl (by decide +kernel) ⟨Nat.le_of_ble_eq_true rfl, Nat.le_of_ble_eq_true rfl⟩) (mk_muP hP hD [0, 1, 2, 3, 4, 5, 6, 7] (by decide) rfl hK (va_recv hK hP (ci := 1) (q0 := 0) rfl rfl)) rfl rfl hl.1 rfl (lv_room (Nat.le_of_ble_eq_true rfl)) qd_M_mark_101 ⟨(Nat.zero_le _), (Nat.zero_le _)⟩) hS hA hP hD [0, 1, 2, 3, 4, 5, 6, 7] [] [0, 1, 2, 3, 4, 5, 6, 7] rfl rfl (by decide) (by decide) (by decide) (fun _ => rfl) (fun u_21 H locs hu_21 hP hD hS => ?_)
            obtain ⟨y5, v5, g5⟩ := u_21
            obtain ⟨n2, hn2, rfl, hs2⟩ : ∃ n', n' ≤ nv ∧ y5 = upd (upd (upd (upd y3 17 (y3 17 + nI nr - nI n1)) 13 (nI n1)) 18 ((upd (upd y3 17 (y3 17 + nI nr - nI n1)) 13 (nI n1)) 18 + nI nv - nI n')) 10 (nI n') ∧ (mvl v5 n').Sublist (mvl ve nv) := hu_21
            have hP : va_P (dC, dI) vwCl (wM b cA cB (upd (upd (upd (upd y3 17 (y3 17 + nI nr - nI n1)) 13 (nI n1)) 18 ((upd (upd y3 17 (y3 17 + nI nr - nI n1)) 13 (nI n1)) 18 + nI nv - nI n2)) 10 (nI n2)) ma v5 w4 j4 o3 f3 g5) H := hP
            have hD : va_D A (wM b cA cB (upd (upd (upd (upd y3 17 (y3 17 + nI nr - nI n1)) 13 (nI n1)) 18 ((upd (upd y3 17 (y3 17 + nI nr - nI n1)) 13 (nI n1)) 18 + nI nv - nI n2)) 10 (nI n2)) ma v5 w4 j4 o3 f3 g5) := hD
            refine lv_iload_n hx hb qd_M_mark_104 rfl (lv_at hl 0 rfl) ?_
            exact mk_miret ((upd (upd (upd (upd y3 17 (y3 17 + nI nr - nI n1)) 13 (nI n1)) 18 ((upd (upd y3 17 (y3 17 + nI nr - nI n1)) 13 (nI n1)) 18 + nI nv - nI n2)) 10 (nI n2)), ma, v5, w4, j4, o3, f3, g5) hx hb hr hlocks hP hK hD hS qd_M_mark_105 ⟨Or.inr ⟨mm_nbad c_2 c_4, Or.inl ⟨c_5, Or.inr ⟨c_14, rfl, ⟨hcore.1, hcore.2.1, hcore.2.2.1, hcore.2.2.2.1, hcore.2.2.2.2⟩, hms 8 (by decide) (by decide) (by decide), hms 6 (by decide) (by decide) (by decide), rfl⟩⟩⟩, mi_mark hms hnt ht3 hcm hc3 rfl hinc hlc hap hv hr96 hno3 hmr hn1 hf1 hn2 hs2, Or.inr ⟨mm_nbad c_2 c_4, Or.inl ⟨c_5, c_14⟩, nt, nr, n1, hnt, ht3, hnr, hr96, hn1, rfl, hms 14 (by decide) (by decide) (by decide), mq_mark_of hmr hj4 hf1⟩⟩
        · refine lv_bipush (v := (-2)) hx hb qd_M_mark_60 (by decide) ?_
          exact mk_miret (upd y 0 0, ma, ve, rw, jn, ou, fo, go) hx hb hr hlocks hP hK hD hS qd_M_mark_62 ⟨Or.inr ⟨mm_nbad c_2 c_4, Or.inl ⟨c_5, Or.inl ⟨c_14, rfl, rfl, rfl⟩⟩⟩, mi_keep hok9 rfl rfl rfl rfl rfl rfl, Or.inl ⟨Or.inr (Or.inl ⟨c_5, c_14⟩), rfl, rfl, rfl⟩⟩
    · refine lv_iconst (v := (-1)) hx hb qd_M_mark_35 (by decide) ?_
      exact mk_miret (upd y 0 0, ma, ve, rw, jn, ou, fo, go) hx hb hr hlocks hP hK hD hS qd_M_mark_36 ⟨Or.inl ⟨Or.inr c_4, rfl, rfl, rfl⟩, mi_keep hok9 rfl rfl rfl rfl rfl rfl, Or.inl ⟨Or.inl (Or.inr c_4), rfl, rfl, rfl⟩⟩
