set_option maxHeartbeats 4000000 in
set_option maxRecDepth 100000 in
/-- row(key, time, value) -/
theorem c_M_row (l : Launch) (dC : Nat → ClassId) (dI : Nat → Nat → Nat) (cA : ClassId) (sz : Nat) (cB : ClassId) (b : Nat → Nat) (y ma ve rw jn ou fo go : Nat → Int32) (hok : mi_ok y ve rw) (ky tm vl : Int32) : Met l qy_M_row qw_M_row ({ frames := 4, cells := 0, slots := 0, locals := 110 }) (mk_mu [.ref (b 0), .int ky, .int tm, .int vl] sz (dC, dI) vwCl [(cA, .int), (cB, .boolean)] (wM b cA cB y ma ve rw jn ou fo go)) (mk_muQ (S := (Nat → Int32) × (Nat → Int32) × (Nat → Int32) × (Nat → Int32) × (Nat → Int32)) (fun r u => mo_row y ky tm vl r u.1 ∧ mi_ok u.1 ve u.2.1 ∧ mq_row y ma rw tm r u.1 u.2.1) (fun u => (wM b cA cB u.1 ma ve u.2.1 u.2.2.1 u.2.2.2.1 u.2.2.2.2 go)) (dC, dI) vwCl [(cA, .int), (cB, .boolean)] (va_A (wM b cA cB y ma ve rw jn ou fo go) sz)) 0 0 (va_A (wM b cA cB y ma ve rw jn ou fo go) sz) := by
  refine Met.ofW (cc := qb_M_row) (maxL := 5) (ret := (some .int)) (by decide) rfl ?_
  intro p e s m args below meth c s₁ B hml hpre
  obtain ⟨rfl, hsz, hP, hK, hD0⟩ := hpre
  have hx := B.exec
  have hb := B.bytes
  have hr := B.returns
  have hts0 := atoms_spec (ws := qw_M_row) B.pre
  have hts := fun w (h : w ∈ lw_gd) => hts0 w (List.mem_cons_of_mem _ h)
  have hown : s.vm.findClass qR_M = some m.cls := findClass_of_methodNamed B.named
  have hlocks := B.notSynchronized
  subst hsz
  have hD := hD0.self (sz := s.heap.size)
  generalize hAe : va_A (wM b cA cB y ma ve rw jn ou fo go) s.heap.size = A at hD ⊢
  have hA : ∀ q : Nat, s.heap.size ≤ q → A q := fun q h => by rw [← hAe]; exact Or.inr h
  have hS : va_S A s.heap s.heap [] := va_S.rf
  have hl := lv_entry ([.ref (b 0), .int ky, .int tm, .int vl]) (n := 5) (Nat.le_of_ble_eq_true rfl)
  rw [lg_entry_eq]
  generalize (lg_sl ([.ref (b 0), .int ky, .int tm, .int vl]) ++ List.replicate (5 - (lg_sl ([.ref (b 0), .int ky, .int tm, .int vl])).length) Slot.unset).toArray = ls at hl ⊢
  have hl : lv_has ls 5 [(0, .ref (b 0)), (1, .int ky), (2, .int tm), (3, .int vl)] := hl
  have hP : va_P (dC, dI) vwCl (wM b cA cB y ma ve rw jn ou fo go) s.heap := hP
  refine mk_start (A := A) hP (fun H locs hP hS => ?_)
  have hok9 := hok
  obtain ⟨nt, nv, nr, no, c, hnt, ht3, hnv, hv, hnr, hr96, hno, hno2, hcm, hc3, hinc, hlc, hap, hbg⟩ := hok
  refine lv_aload_n hx hb qd_M_row_0 rfl (lv_at hl 0 rfl) ?_
  refine lv_iconst (v := 0) hx hb qd_M_row_1 (by decide) ?_
  refine va_put (D := (dC, dI)) (ci := 1) (v := .int 0) (ty := .int) (C := qR_M) (T := qT_M) (N := 24) hx hb hts qin_M qty_M qtyok_M qnm_M hown hK hP hD hS 0 rfl rfl 0 (by decide) (hts _ mw_402) (fun _ h9 => h9) rfl (by decide +kernel) rfl rfl (Nat.le_of_ble_eq_true rfl) qd_M_row_2 (fun H locs hP hD hS => ?_)
  have hP : va_P (dC, dI) vwCl (wM b cA cB (upd y 0 0) ma ve rw jn ou fo go) H := hP
  have hD : va_D A (wM b cA cB (upd y 0 0) ma ve rw jn ou fo go) := hD
  refine lv_iload_n hx hb qd_M_row_5 rfl (lv_at hl 1 rfl) ?_
  refine lv_i2l (v := Int32.toInt64 ky) hx hb qd_M_row_6 rfl ?_
  refine lv_lconst (v := 0) hx hb qd_M_row_7 (by decide) ?_
  refine lv_ldc2 (v := 15) hx hb hown (hts _ mw_493) qd_M_row_8 ?_
  refine mk_calli (va_runS (As := [.long (Int32.toInt64 ky), .long 0, .long 15]) (rest := []) ⟨hx, hb, hml, hown, hts⟩ (c_M_in l dC dI cA H.size cB (Int32.toInt64 ky) 0 15) (va_cwS 3 hts gc_M_51 rfl rfl rfl (by decide +kernel) ⟨Nat.le_of_ble_eq_true rfl, Nat.le_of_ble_eq_true rfl⟩) (mk_roS hP [] rfl hK) rfl rfl hl.1 rfl (lv_room (Nat.le_of_ble_eq_true rfl)) qd_M_row_11 ⟨(Nat.zero_le _), (Nat.zero_le _)⟩) hS hA hP (fun r_1 H locs hr_1 hP hS => ?_)
  obtain rfl : r_1 = mi_b (Int32.toInt64 ky) 0 15 := hr_1
  refine lv_if_eq (tgt := 48) hx hb qd_M_row_14 (by decide) (fun c_2 => ?_) (fun c_2 => ?_)
  · refine lv_iconst (v := (-1)) hx hb qd_M_row_48 (by decide) ?_
    exact mk_miret (upd y 0 0, rw, jn, ou, fo) hx hb hr hlocks hP hK hD hS qd_M_row_49 ⟨Or.inl ⟨Or.inl c_2, rfl, rfl⟩, mi_keep hok9 rfl rfl rfl rfl rfl rfl, Or.inl ⟨Or.inl rfl, rfl, rfl, rfl⟩⟩
  · refine lv_iload_n hx hb qd_M_row_17 rfl (lv_at hl 2 rfl) ?_
    refine lv_i2l (v := Int32.toInt64 tm) hx hb qd_M_row_18 rfl ?_
    refine lv_lconst (v := 1) hx hb qd_M_row_19 (by decide) ?_
    refine lv_ldc2 (v := 100000) hx hb hown (hts _ mw_494) qd_M_row_20 ?_
    refine mk_calli (va_runS (As := [.long (Int32.toInt64 tm), .long 1, .long 100000]) (rest := []) ⟨hx, hb, hml, hown, hts⟩ (c_M_in l dC dI cA H.size cB (Int32.toInt64 tm) 1 100000) (va_cwS 3 hts gc_M_51 rfl rfl rfl (by decide +kernel) ⟨Nat.le_of_ble_eq_true rfl, Nat.le_of_ble_eq_true rfl⟩) (mk_roS hP [] rfl hK) rfl rfl hl.1 rfl (lv_room (Nat.le_of_ble_eq_true rfl)) qd_M_row_23 ⟨(Nat.zero_le _), (Nat.zero_le _)⟩) hS hA hP (fun r_3 H locs hr_3 hP hS => ?_)
    obtain rfl : r_3 = mi_b (Int32.toInt64 tm) 1 100000 := hr_3
    refine lv_if_eq (tgt := 48) hx hb qd_M_row_26 (by decide) (fun c_4 => ?_) (fun c_4 => ?_)
    · refine lv_iconst (v := (-1)) hx hb qd_M_row_48 (by decide) ?_
      exact mk_miret (upd y 0 0, rw, jn, ou, fo) hx hb hr hlocks hP hK hD hS qd_M_row_49 ⟨Or.inl ⟨Or.inr (Or.inl c_4), rfl, rfl⟩, mi_keep hok9 rfl rfl rfl rfl rfl rfl, Or.inl ⟨Or.inl rfl, rfl, rfl, rfl⟩⟩
    · refine lv_iload_n hx hb qd_M_row_29 rfl (lv_at hl 3 rfl) ?_
      refine lv_i2l (v := Int32.toInt64 vl) hx hb qd_M_row_30 rfl ?_
      refine lv_lconst (v := 0) hx hb qd_M_row_31 (by decide) ?_
      refine lv_ldc2 (v := 1000) hx hb hown (hts _ mw_488) qd_M_row_32 ?_
      refine mk_calli (va_runS (As := [.long (Int32.toInt64 vl), .long 0, .long 1000]) (rest := []) ⟨hx, hb, hml, hown, hts⟩ (c_M_in l dC dI cA H.size cB (Int32.toInt64 vl) 0 1000) (va_cwS 3 hts gc_M_51 rfl rfl rfl (by decide +kernel) ⟨Nat.le_of_ble_eq_true rfl, Nat.le_of_ble_eq_true rfl⟩) (mk_roS hP [] rfl hK) rfl rfl hl.1 rfl (lv_room (Nat.le_of_ble_eq_true rfl)) qd_M_row_35 ⟨(Nat.zero_le _), (Nat.zero_le _)⟩) hS hA hP (fun r_5 H locs hr_5 hP hS => ?_)
      obtain rfl : r_5 = mi_b (Int32.toInt64 vl) 0 1000 := hr_5
      refine lv_if_eq (tgt := 48) hx hb qd_M_row_38 (by decide) (fun c_6 => ?_) (fun c_6 => ?_)
      · refine lv_iconst (v := (-1)) hx hb qd_M_row_48 (by decide) ?_
        exact mk_miret (upd y 0 0, rw, jn, ou, fo) hx hb hr hlocks hP hK hD hS qd_M_row_49 ⟨Or.inl ⟨Or.inr (Or.inr (Or.inl c_6)), rfl, rfl⟩, mi_keep hok9 rfl rfl rfl rfl rfl rfl, Or.inl ⟨Or.inl rfl, rfl, rfl, rfl⟩⟩
      · refine lv_aload_n hx hb qd_M_row_41 rfl (lv_at hl 0 rfl) ?_
        refine va_get (D := (dC, dI)) (ci := 1) (v := .int (y 1)) (C := qR_M) (T := qT_M) (N := 24) hx hb hts qin_M hown hK hP 0 rfl rfl 1 (by decide) (hts _ mw_403) (fun _ h9 => h9) rfl qd_M_row_42 ?_
        refine lv_if_ne (tgt := 50) hx hb qd_M_row_45 (by decide) (fun c_7 => ?_) (fun c_7 => ?_)
        · refine lv_iload_n hx hb qd_M_row_50 rfl (lv_at hl 2 rfl) ?_
          refine lv_aload_n hx hb qd_M_row_51 rfl (lv_at hl 0 rfl) ?_
          refine va_get (D := (dC, dI)) (ci := 1) (v := .int (y 8)) (C := qR_M) (T := qT_M) (N := 24) hx hb hts qin_M hown hK hP 0 rfl rfl 8 (by decide) (hts _ mw_410) (fun _ h9 => h9) rfl qd_M_row_52 ?_
          refine lv_icmp_gt (tgt := 71) hx hb qd_M_row_55 (by decide) (fun c_8 => ?_) (fun c_8 => ?_)
          · refine lv_aload_n hx hb qd_M_row_71 rfl (lv_at hl 0 rfl) ?_
            refine va_get (D := (dC, dI)) (ci := 1) (v := .int (y 13)) (C := qR_M) (T := qT_M) (N := 24) hx hb hts qin_M hown hK hP 0 rfl rfl 13 (by decide) (hts _ mw_415) (fun _ h9 => h9) rfl qd_M_row_72 ?_
            refine lv_bipush (v := 96) hx hb qd_M_row_75 (by decide) ?_
            refine lv_icmp_eq (tgt := 90) hx hb qd_M_row_77 (by decide) (fun c_9 => ?_) (fun c_9 => ?_)
            · refine lv_bipush (v := (-3)) hx hb qd_M_row_90 (by decide) ?_
              exact mk_miret (upd y 0 0, rw, jn, ou, fo) hx hb hr hlocks hP hK hD hS qd_M_row_92 ⟨Or.inr ⟨mr_nbad c_2 c_4 c_6 c_7, Or.inr ⟨c_8, Or.inl ⟨Or.inl c_9, rfl, rfl⟩⟩⟩, mi_keep hok9 rfl rfl rfl rfl rfl rfl, Or.inl ⟨Or.inr (Or.inr rfl), rfl, rfl, rfl⟩⟩
            · refine lv_aload_n hx hb qd_M_row_80 rfl (lv_at hl 0 rfl) ?_
              refine va_get (D := (dC, dI)) (ci := 1) (v := .int (y 14)) (C := qR_M) (T := qT_M) (N := 24) hx hb hts qin_M hown hK hP 0 rfl rfl 14 (by decide) (hts _ mw_416) (fun _ h9 => h9) rfl qd_M_row_81 ?_
              refine lv_sipush (v := 30000) hx hb qd_M_row_84 (by decide) ?_
              refine lv_icmp_ne (tgt := 93) hx hb qd_M_row_87 (by decide) (fun c_10 => ?_) (fun c_10 => ?_)
              · have hr9 : nr < 96 := by rcases Nat.lt_or_ge nr 96 with q | q; exact q; exact absurd (show y 13 = 96 by rw [hnr, show nr = 96 by omega]; rfl) c_9
                have hc9 : c < 30000 := by rcases Nat.lt_or_ge c 30000 with q | q; exact q; exact absurd (show y 14 = 30000 by rw [hcm, show c = 30000 by omega]; rfl) c_10
                refine lv_aload_n hx hb qd_M_row_93 rfl (lv_at hl 0 rfl) ?_
                refine lv_iconst (v := 1) hx hb qd_M_row_94 (by decide) ?_
                refine va_put (D := (dC, dI)) (ci := 1) (v := .int 1) (ty := .boolean) (C := qR_M) (T := qT_M) (N := 24) hx hb hts qin_M qty_M qtyok_M qnm_M hown hK hP hD hS 0 rfl rfl 6 (by decide) (hts _ mw_408) (fun _ h9 => h9) rfl (by decide +kernel) rfl rfl (Nat.le_of_ble_eq_true rfl) qd_M_row_95 (fun H locs hP hD hS => ?_)
                have hP : va_P (dC, dI) vwCl (wM b cA cB (upd (upd y 0 0) 6 1) ma ve rw jn ou fo go) H := hP
                have hD : va_D A (wM b cA cB (upd (upd y 0 0) 6 1) ma ve rw jn ou fo go) := hD
                refine lv_aload_n hx hb qd_M_row_98 rfl (lv_at hl 0 rfl) ?_
                refine lv_iconst (v := 0) hx hb qd_M_row_99 (by decide) ?_
                refine va_put (D := (dC, dI)) (ci := 1) (v := .int 0) (ty := .int) (C := qR_M) (T := qT_M) (N := 24) hx hb hts qin_M qty_M qtyok_M qnm_M hown hK hP hD hS 0 rfl rfl 21 (by decide) (hts _ mw_423) (fun _ h9 => h9) rfl (by decide +kernel) rfl rfl (Nat.le_of_ble_eq_true rfl) qd_M_row_100 (fun H locs hP hD hS => ?_)
                have hP : va_P (dC, dI) vwCl (wM b cA cB (upd (upd (upd y 0 0) 6 1) 21 0) ma ve rw jn ou fo go) H := hP
                have hD : va_D A (wM b cA cB (upd (upd (upd y 0 0) 6 1) 21 0) ma ve rw jn ou fo go) := hD
                refine lv_aload_n hx hb qd_M_row_103 rfl (lv_at hl 0 rfl) ?_
                refine va_get (D := (dC, dI)) (ci := 1) (v := .int (y 13)) (C := qR_M) (T := qT_M) (N := 24) hx hb hts qin_M hown hK hP 0 rfl rfl 13 (by decide) (hts _ mw_415) (fun _ h9 => h9) rfl qd_M_row_104 ?_
                refine mk_rw (y := nI nr) (hnr) ?_
                refine lv_istore (lv' := [(4, .int (nI nr)), (0, .ref (b 0)), (1, .int ky), (2, .int tm), (3, .int vl)]) hx hb qd_M_row_107 hl (by decide) rfl (fun ls hl => ?_)
                refine lv_aload_n hx hb qd_M_row_109 rfl (lv_at hl 1 rfl) ?_
                refine va_get (D := (dC, dI)) (ci := 1) (v := .ref (b 3)) (C := qR_M) (T := qT_M) (N := 24) hx hb hts qin_M hown hK hP 0 rfl rfl 11 (by decide) (hts _ mw_413) (fun _ h9 => h9) rfl qd_M_row_110 ?_
                refine lv_bipush (v := 6) hx hb qd_M_row_113 (by decide) ?_
                refine lv_iload hx hb qd_M_row_115 (lv_at hl 0 rfl) ?_
                refine lv_imul hx hb qd_M_row_117 ?_
                refine lv_aload_n hx hb qd_M_row_118 rfl (lv_at hl 1 rfl) ?_
                refine va_get (D := (dC, dI)) (ci := 1) (v := .int (y 14)) (C := qR_M) (T := qT_M) (N := 24) hx hb hts qin_M hown hK hP 0 rfl rfl 14 (by decide) (hts _ mw_416) (fun _ h9 => h9) rfl qd_M_row_119 ?_
                refine mk_rw (y := nI c) (hcm) ?_
                refine mk_rw2 (y := nI (6 * nr)) (by show (nI 6) * (nI nr) = _; simp only [pk_mul, nI_add]) ?_
                refine va_iast (i := (nI (6 * nr))) (x := (nI c)) hx hb hK hP hD hS 3 0 rfl rfl (vp_in_nI (by omega) (by omega)) qd_M_row_122 (fun H locs hP hD hS => ?_)
                rw [show Int32.toNatClampNeg (nI (6 * nr)) = (6 * nr) from (nI_clamp (by omega))] at hP hD
                have hP : va_P (dC, dI) vwCl (wM b cA cB (upd (upd (upd y 0 0) 6 1) 21 0) ma ve (upd rw (6 * nr) (nI c)) jn ou fo go) H := hP
                have hD : va_D A (wM b cA cB (upd (upd (upd y 0 0) 6 1) 21 0) ma ve (upd rw (6 * nr) (nI c)) jn ou fo go) := hD
                refine lv_aload_n hx hb qd_M_row_123 rfl (lv_at hl 1 rfl) ?_
                refine va_get (D := (dC, dI)) (ci := 1) (v := .ref (b 3)) (C := qR_M) (T := qT_M) (N := 24) hx hb hts qin_M hown hK hP 0 rfl rfl 11 (by decide) (hts _ mw_413) (fun _ h9 => h9) rfl qd_M_row_124 ?_
                refine lv_bipush (v := 6) hx hb qd_M_row_127 (by decide) ?_
                refine lv_iload hx hb qd_M_row_129 (lv_at hl 0 rfl) ?_
                refine lv_imul hx hb qd_M_row_131 ?_
                refine lv_iconst (v := 1) hx hb qd_M_row_132 (by decide) ?_
                refine lv_iadd hx hb qd_M_row_133 ?_
                refine lv_iload_n hx hb qd_M_row_134 rfl (lv_at hl 2 rfl) ?_
                refine mk_rw2 (y := nI ((6 * nr) + 1)) (by show ((nI 6) * (nI nr)) + (nI 1) = _; simp only [pk_mul, nI_add]) ?_
                refine va_iast (i := (nI ((6 * nr) + 1))) (x := ky) hx hb hK hP hD hS 3 0 rfl rfl (vp_in_nI (by omega) (by omega)) qd_M_row_135 (fun H locs hP hD hS => ?_)
                rw [show Int32.toNatClampNeg (nI ((6 * nr) + 1)) = ((6 * nr) + 1) from (nI_clamp (by omega))] at hP hD
                have hP : va_P (dC, dI) vwCl (wM b cA cB (upd (upd (upd y 0 0) 6 1) 21 0) ma ve (upd (upd rw (6 * nr) (nI c)) ((6 * nr) + 1) ky) jn ou fo go) H := hP
                have hD : va_D A (wM b cA cB (upd (upd (upd y 0 0) 6 1) 21 0) ma ve (upd (upd rw (6 * nr) (nI c)) ((6 * nr) + 1) ky) jn ou fo go) := hD
                refine lv_aload_n hx hb qd_M_row_136 rfl (lv_at hl 1 rfl) ?_
                refine va_get (D := (dC, dI)) (ci := 1) (v := .ref (b 3)) (C := qR_M) (T := qT_M) (N := 24) hx hb hts qin_M hown hK hP 0 rfl rfl 11 (by decide) (hts _ mw_413) (fun _ h9 => h9) rfl qd_M_row_137 ?_
                refine lv_bipush (v := 6) hx hb qd_M_row_140 (by decide) ?_
                refine lv_iload hx hb qd_M_row_142 (lv_at hl 0 rfl) ?_
                refine lv_imul hx hb qd_M_row_144 ?_
                refine lv_iconst (v := 2) hx hb qd_M_row_145 (by decide) ?_
                refine lv_iadd hx hb qd_M_row_146 ?_
                refine lv_iload_n hx hb qd_M_row_147 rfl (lv_at hl 3 rfl) ?_
                refine mk_rw2 (y := nI ((6 * nr) + 2)) (by show ((nI 6) * (nI nr)) + (nI 2) = _; simp only [pk_mul, nI_add]) ?_
                refine va_iast (i := (nI ((6 * nr) + 2))) (x := tm) hx hb hK hP hD hS 3 0 rfl rfl (vp_in_nI (by omega) (by omega)) qd_M_row_148 (fun H locs hP hD hS => ?_)
                rw [show Int32.toNatClampNeg (nI ((6 * nr) + 2)) = ((6 * nr) + 2) from (nI_clamp (by omega))] at hP hD
                have hP : va_P (dC, dI) vwCl (wM b cA cB (upd (upd (upd y 0 0) 6 1) 21 0) ma ve (upd (upd (upd rw (6 * nr) (nI c)) ((6 * nr) + 1) ky) ((6 * nr) + 2) tm) jn ou fo go) H := hP
                have hD : va_D A (wM b cA cB (upd (upd (upd y 0 0) 6 1) 21 0) ma ve (upd (upd (upd rw (6 * nr) (nI c)) ((6 * nr) + 1) ky) ((6 * nr) + 2) tm) jn ou fo go) := hD
                refine lv_aload_n hx hb qd_M_row_149 rfl (lv_at hl 1 rfl) ?_
                refine va_get (D := (dC, dI)) (ci := 1) (v := .ref (b 3)) (C := qR_M) (T := qT_M) (N := 24) hx hb hts qin_M hown hK hP 0 rfl rfl 11 (by decide) (hts _ mw_413) (fun _ h9 => h9) rfl qd_M_row_150 ?_
                refine lv_bipush (v := 6) hx hb qd_M_row_153 (by decide) ?_
                refine lv_iload hx hb qd_M_row_155 (lv_at hl 0 rfl) ?_
                refine lv_imul hx hb qd_M_row_157 ?_
                refine lv_iconst (v := 3) hx hb qd_M_row_158 (by decide) ?_
                refine lv_iadd hx hb qd_M_row_159 ?_
                refine lv_iload_n hx hb qd_M_row_160 rfl (lv_at hl 4 rfl) ?_
                refine mk_rw2 (y := nI ((6 * nr) + 3)) (by show ((nI 6) * (nI nr)) + (nI 3) = _; simp only [pk_mul, nI_add]) ?_
                refine va_iast (i := (nI ((6 * nr) + 3))) (x := vl) hx hb hK hP hD hS 3 0 rfl rfl (vp_in_nI (by omega) (by omega)) qd_M_row_161 (fun H locs hP hD hS => ?_)
                rw [show Int32.toNatClampNeg (nI ((6 * nr) + 3)) = ((6 * nr) + 3) from (nI_clamp (by omega))] at hP hD
                have hP : va_P (dC, dI) vwCl (wM b cA cB (upd (upd (upd y 0 0) 6 1) 21 0) ma ve (upd (upd (upd (upd rw (6 * nr) (nI c)) ((6 * nr) + 1) ky) ((6 * nr) + 2) tm) ((6 * nr) + 3) vl) jn ou fo go) H := hP
                have hD : va_D A (wM b cA cB (upd (upd (upd y 0 0) 6 1) 21 0) ma ve (upd (upd (upd (upd rw (6 * nr) (nI c)) ((6 * nr) + 1) ky) ((6 * nr) + 2) tm) ((6 * nr) + 3) vl) jn ou fo go) := hD
                refine lv_aload_n hx hb qd_M_row_162 rfl (lv_at hl 1 rfl) ?_
                refine va_get (D := (dC, dI)) (ci := 1) (v := .ref (b 3)) (C := qR_M) (T := qT_M) (N := 24) hx hb hts qin_M hown hK hP 0 rfl rfl 11 (by decide) (hts _ mw_413) (fun _ h9 => h9) rfl qd_M_row_163 ?_
                refine lv_bipush (v := 6) hx hb qd_M_row_166 (by decide) ?_
                refine lv_iload hx hb qd_M_row_168 (lv_at hl 0 rfl) ?_
                refine lv_imul hx hb qd_M_row_170 ?_
                refine lv_iconst (v := 4) hx hb qd_M_row_171 (by decide) ?_
                refine lv_iadd hx hb qd_M_row_172 ?_
                refine lv_iconst (v := 1) hx hb qd_M_row_173 (by decide) ?_
                refine mk_rw2 (y := nI ((6 * nr) + 4)) (by show ((nI 6) * (nI nr)) + (nI 4) = _; simp only [pk_mul, nI_add]) ?_
                refine va_iast (i := (nI ((6 * nr) + 4))) (x := 1) hx hb hK hP hD hS 3 0 rfl rfl (vp_in_nI (by omega) (by omega)) qd_M_row_174 (fun H locs hP hD hS => ?_)
                rw [show Int32.toNatClampNeg (nI ((6 * nr) + 4)) = ((6 * nr) + 4) from (nI_clamp (by omega))] at hP hD
                have hP : va_P (dC, dI) vwCl (wM b cA cB (upd (upd (upd y 0 0) 6 1) 21 0) ma ve (upd (upd (upd (upd (upd rw (6 * nr) (nI c)) ((6 * nr) + 1) ky) ((6 * nr) + 2) tm) ((6 * nr) + 3) vl) ((6 * nr) + 4) 1) jn ou fo go) H := hP
                have hD : va_D A (wM b cA cB (upd (upd (upd y 0 0) 6 1) 21 0) ma ve (upd (upd (upd (upd (upd rw (6 * nr) (nI c)) ((6 * nr) + 1) ky) ((6 * nr) + 2) tm) ((6 * nr) + 3) vl) ((6 * nr) + 4) 1) jn ou fo go) := hD
                refine lv_aload_n hx hb qd_M_row_175 rfl (lv_at hl 1 rfl) ?_
                refine va_get (D := (dC, dI)) (ci := 1) (v := .ref (b 3)) (C := qR_M) (T := qT_M) (N := 24) hx hb hts qin_M hown hK hP 0 rfl rfl 11 (by decide) (hts _ mw_413) (fun _ h9 => h9) rfl qd_M_row_176 ?_
                refine lv_bipush (v := 6) hx hb qd_M_row_179 (by decide) ?_
                refine lv_iload hx hb qd_M_row_181 (lv_at hl 0 rfl) ?_
                refine lv_imul hx hb qd_M_row_183 ?_
                refine lv_iconst (v := 5) hx hb qd_M_row_184 (by decide) ?_
                refine lv_iadd hx hb qd_M_row_185 ?_
                refine lv_iconst (v := 0) hx hb qd_M_row_186 (by decide) ?_
                refine mk_rw2 (y := nI ((6 * nr) + 5)) (by show ((nI 6) * (nI nr)) + (nI 5) = _; simp only [pk_mul, nI_add]) ?_
                refine va_iast (i := (nI ((6 * nr) + 5))) (x := 0) hx hb hK hP hD hS 3 0 rfl rfl (vp_in_nI (by omega) (by omega)) qd_M_row_187 (fun H locs hP hD hS => ?_)
                rw [show Int32.toNatClampNeg (nI ((6 * nr) + 5)) = ((6 * nr) + 5) from (nI_clamp (by omega))] at hP hD
                have hP : va_P (dC, dI) vwCl (wM b cA cB (upd (upd (upd y 0 0) 6 1) 21 0) ma ve (upd (upd (upd (upd (upd (upd rw (6 * nr) (nI c)) ((6 * nr) + 1) ky) ((6 * nr) + 2) tm) ((6 * nr) + 3) vl) ((6 * nr) + 4) 1) ((6 * nr) + 5) 0) jn ou fo go) H := hP
                have hD : va_D A (wM b cA cB (upd (upd (upd y 0 0) 6 1) 21 0) ma ve (upd (upd (upd (upd (upd (upd rw (6 * nr) (nI c)) ((6 * nr) + 1) ky) ((6 * nr) + 2) tm) ((6 * nr) + 3) vl) ((6 * nr) + 4) 1) ((6 * nr) + 5) 0) jn ou fo go) := hD
                refine lv_aload_n hx hb qd_M_row_188 rfl (lv_at hl 1 rfl) ?_
                refine lv_dup hx hb qd_M_row_189 rfl ?_
                refine va_get (D := (dC, dI)) (ci := 1) (v := .int (y 13)) (C := qR_M) (T := qT_M) (N := 24) hx hb hts qin_M hown hK hP 0 rfl rfl 13 (by decide) (hts _ mw_415) (fun _ h9 => h9) rfl qd_M_row_190 ?_
                refine lv_iconst (v := 1) hx hb qd_M_row_193 (by decide) ?_
                refine lv_iadd hx hb qd_M_row_194 ?_
                refine mk_rw (y := nI (nr + 1)) (by first | exact nI_1 nr | (rw [hnr]; exact nI_1 nr)) ?_
                refine va_put (D := (dC, dI)) (ci := 1) (v := .int (nI (nr + 1))) (ty := .int) (C := qR_M) (T := qT_M) (N := 24) hx hb hts qin_M qty_M qtyok_M qnm_M hown hK hP hD hS 0 rfl rfl 13 (by decide) (hts _ mw_415) (fun _ h9 => h9) rfl (by decide +kernel) rfl rfl (Nat.le_of_ble_eq_true rfl) qd_M_row_195 (fun H locs hP hD hS => ?_)
                have hP : va_P (dC, dI) vwCl (wM b cA cB (upd (upd (upd (upd y 0 0) 6 1) 21 0) 13 (nI (nr + 1))) ma ve (upd (upd (upd (upd (upd (upd rw (6 * nr) (nI c)) ((6 * nr) + 1) ky) ((6 * nr) + 2) tm) ((6 * nr) + 3) vl) ((6 * nr) + 4) 1) ((6 * nr) + 5) 0) jn ou fo go) H := hP
                have hD : va_D A (wM b cA cB (upd (upd (upd (upd y 0 0) 6 1) 21 0) 13 (nI (nr + 1))) ma ve (upd (upd (upd (upd (upd (upd rw (6 * nr) (nI c)) ((6 * nr) + 1) ky) ((6 * nr) + 2) tm) ((6 * nr) + 3) vl) ((6 * nr) + 4) 1) ((6 * nr) + 5) 0) jn ou fo go) := hD
                refine lv_aload_n hx hb qd_M_row_198 rfl (lv_at hl 1 rfl) ?_
                refine lv_dup hx hb qd_M_row_199 rfl ?_
                refine va_get (D := (dC, dI)) (ci := 1) (v := .int (y 14)) (C := qR_M) (T := qT_M) (N := 24) hx hb hts qin_M hown hK hP 0 rfl rfl 14 (by decide) (hts _ mw_416) (fun _ h9 => h9) rfl qd_M_row_200 ?_
                refine lv_iconst (v := 1) hx hb qd_M_row_203 (by decide) ?_
                refine lv_iadd hx hb qd_M_row_204 ?_
                refine mk_rw (y := nI (c + 1)) (by first | exact nI_1 c | (rw [hcm]; exact nI_1 c)) ?_
                refine va_put (D := (dC, dI)) (ci := 1) (v := .int (nI (c + 1))) (ty := .int) (C := qR_M) (T := qT_M) (N := 24) hx hb hts qin_M qty_M qtyok_M qnm_M hown hK hP hD hS 0 rfl rfl 14 (by decide) (hts _ mw_416) (fun _ h9 => h9) rfl (by decide +kernel) rfl rfl (Nat.le_of_ble_eq_true rfl) qd_M_row_205 (fun H locs hP hD hS => ?_)
                have hP : va_P (dC, dI) vwCl (wM b cA cB (upd (upd (upd (upd (upd y 0 0) 6 1) 21 0) 13 (nI (nr + 1))) 14 (nI (c + 1))) ma ve (upd (upd (upd (upd (upd (upd rw (6 * nr) (nI c)) ((6 * nr) + 1) ky) ((6 * nr) + 2) tm) ((6 * nr) + 3) vl) ((6 * nr) + 4) 1) ((6 * nr) + 5) 0) jn ou fo go) H := hP
                have hD : va_D A (wM b cA cB (upd (upd (upd (upd (upd y 0 0) 6 1) 21 0) 13 (nI (nr + 1))) 14 (nI (c + 1))) ma ve (upd (upd (upd (upd (upd (upd rw (6 * nr) (nI c)) ((6 * nr) + 1) ky) ((6 * nr) + 2) tm) ((6 * nr) + 3) vl) ((6 * nr) + 4) 1) ((6 * nr) + 5) 0) jn ou fo go) := hD
                refine lv_aload_n hx hb qd_M_row_208 rfl (lv_at hl 1 rfl) ?_
                refine mk_mcallv (wr := []) (wf := (fun u => (wM b cA cB u.1 ma ve u.2.1 u.2.2.1 u.2.2.2.1 u.2.2.2.2 go))) (va_runV (As := []) (rest := []) ⟨hx, hb, hml, hown, hts⟩ (c_M_joinAll l dC dI cA H.size cB b (upd (upd (upd (upd (upd y 0 0) 6 1) 21 0) 13 (nI (nr + 1))) 14 (nI (c + 1))) ma ve (upd (upd (upd (upd (upd (upd rw (6 * nr) (nI c)) ((6 * nr) + 1) ky) ((6 * nr) + 2) tm) ((6 * nr) + 3) vl) ((6 * nr) + 4) 1) ((6 * nr) + 5) 0) jn ou fo go nv hnv hv nt hnt ht3 (nr + 1) rfl (by omega) rfl (mr_full_of (mr_new_inc hinc hlc)) (m4_of (mr_new_inc hinc hlc))) (cwV 0 hts gc_M_142 rfl rfl rfl (by decide +kernel) ⟨Nat.le_of_ble_eq_true rfl, Nat.le_of_ble_eq_true rfl⟩) (mk_muP hP hD [0, 1, 2, 3, 4, 5, 6, 7] (by decide) rfl hK (va_recv hK hP (ci := 1) (q0 := 0) rfl rfl)) rfl rfl hl.1 rfl (lv_room (Nat.le_of_ble_eq_true rfl)) qd_M_row_209 ⟨(Nat.zero_le _), (Nat.zero_le _)⟩) hS hA hP hD [0, 1, 2, 3, 4, 5, 6, 7] [] [0, 1, 2, 3, 4, 5, 6, 7] rfl rfl (by decide) (by decide) (by decide) (fun _ => rfl) (fun u_12 H locs hu_12 hP hD hS => ?_)
                obtain ⟨y3, w3, j3, o3, f3⟩ := u_12
                obtain ⟨hms, hno3, hmr, hj4⟩ : my_same (upd (upd (upd (upd (upd y 0 0) 6 1) 21 0) 13 (nI (nr + 1))) 14 (nI (c + 1))) y3 ∧ (∃ no, no ≤ 192 ∧ y3 21 = nI no) ∧ mrow (upd (upd (upd (upd (upd (upd rw (6 * nr) (nI c)) ((6 * nr) + 1) ky) ((6 * nr) + 2) tm) ((6 * nr) + 3) vl) ((6 * nr) + 4) 1) ((6 * nr) + 5) 0) w3 (nr + 1) ∧ m4_join (upd (upd (upd (upd (upd (upd rw (6 * nr) (nI c)) ((6 * nr) + 1) ky) ((6 * nr) + 2) tm) ((6 * nr) + 3) vl) ((6 * nr) + 4) 1) ((6 * nr) + 5) 0) ma w3 nt (nr + 1) := hu_12
                have hP : va_P (dC, dI) vwCl (wM b cA cB y3 ma ve w3 j3 o3 f3 go) H := hP
                have hD : va_D A (wM b cA cB y3 ma ve w3 j3 o3 f3 go) := hD
                refine lv_aload_n hx hb qd_M_row_212 rfl (lv_at hl 1 rfl) ?_
                refine va_get (D := (dC, dI)) (ci := 1) (v := .int (y3 14)) (C := qR_M) (T := qT_M) (N := 24) hx hb hts qin_M hown hK hP 0 rfl rfl 14 (by decide) (hts _ mw_416) (fun _ h9 => h9) rfl qd_M_row_213 ?_
                refine mk_rw (y := nI (c + 1)) (hms 14 (by decide) (by decide) (by decide)) ?_
                refine lv_iconst (v := 1) hx hb qd_M_row_216 (by decide) ?_
                refine lv_isub hx hb qd_M_row_217 ?_
                refine mk_rw (y := nI c) (nI_pred c) ?_
                exact mk_miret (y3, w3, j3, o3, f3) hx hb hr hlocks hP hK hD hS qd_M_row_218 ⟨Or.inr ⟨mr_nbad c_2 c_4 c_6 c_7, Or.inr ⟨c_8, Or.inr ⟨fun q => q.elim c_9 c_10, hcm.symm, my_coreS hms ⟨rfl, rfl, rfl, rfl, rfl⟩, hms 8 (by decide) (by decide) (by decide), hms 6 (by decide) (by decide) (by decide)⟩⟩⟩, mi_row hnt ht3 hnv hv hr9 hc9 hinc hlc hap hms hno3 hmr, Or.inr ⟨nt, nr, c, hnt, ht3, hnr, hr9, hcm, hc9, rfl, hms 13 (by decide) (by decide) (by decide), hms 14 (by decide) (by decide) (by decide), mq_row_of hmr hj4⟩⟩
              · refine lv_bipush (v := (-3)) hx hb qd_M_row_90 (by decide) ?_
                exact mk_miret (upd y 0 0, rw, jn, ou, fo) hx hb hr hlocks hP hK hD hS qd_M_row_92 ⟨Or.inr ⟨mr_nbad c_2 c_4 c_6 c_7, Or.inr ⟨c_8, Or.inl ⟨Or.inr c_10, rfl, rfl⟩⟩⟩, mi_keep hok9 rfl rfl rfl rfl rfl rfl, Or.inl ⟨Or.inr (Or.inr rfl), rfl, rfl, rfl⟩⟩
          · refine lv_aload_n hx hb qd_M_row_58 rfl (lv_at hl 0 rfl) ?_
            refine lv_dup hx hb qd_M_row_59 rfl ?_
            refine va_get (D := (dC, dI)) (ci := 1) (v := .int (y 19)) (C := qR_M) (T := qT_M) (N := 24) hx hb hts qin_M hown hK hP 0 rfl rfl 19 (by decide) (hts _ mw_421) (fun _ h9 => h9) rfl qd_M_row_60 ?_
            refine lv_iconst (v := 1) hx hb qd_M_row_63 (by decide) ?_
            refine lv_iadd hx hb qd_M_row_64 ?_
            refine va_put (D := (dC, dI)) (ci := 1) (v := .int ((y 19) + 1)) (ty := .int) (C := qR_M) (T := qT_M) (N := 24) hx hb hts qin_M qty_M qtyok_M qnm_M hown hK hP hD hS 0 rfl rfl 19 (by decide) (hts _ mw_421) (fun _ h9 => h9) rfl (by decide +kernel) rfl rfl (Nat.le_of_ble_eq_true rfl) qd_M_row_65 (fun H locs hP hD hS => ?_)
            have hP : va_P (dC, dI) vwCl (wM b cA cB (upd (upd y 0 0) 19 ((y 19) + 1)) ma ve rw jn ou fo go) H := hP
            have hD : va_D A (wM b cA cB (upd (upd y 0 0) 19 ((y 19) + 1)) ma ve rw jn ou fo go) := hD
            refine lv_bipush (v := (-4)) hx hb qd_M_row_68 (by decide) ?_
            exact mk_miret (upd (upd y 0 0) 19 (y 19 + 1), rw, jn, ou, fo) hx hb hr hlocks hP hK hD hS qd_M_row_70 ⟨Or.inr ⟨mr_nbad c_2 c_4 c_6 c_7, Or.inl ⟨c_8, rfl, rfl⟩⟩, mi_keep hok9 rfl rfl rfl rfl rfl rfl, Or.inl ⟨Or.inr (Or.inl rfl), rfl, rfl, rfl⟩⟩
        · refine lv_iconst (v := (-1)) hx hb qd_M_row_48 (by decide) ?_
          exact mk_miret (upd y 0 0, rw, jn, ou, fo) hx hb hr hlocks hP hK hD hS qd_M_row_49 ⟨Or.inl ⟨Or.inr (Or.inr (Or.inr (c_7))), rfl, rfl⟩, mi_keep hok9 rfl rfl rfl rfl rfl rfl, Or.inl ⟨Or.inl rfl, rfl, rfl, rfl⟩⟩
