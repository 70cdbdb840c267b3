set_option maxHeartbeats 4000000 in
set_option maxRecDepth 100000 in
/-- change(table, key, from, value) -/
theorem c_M_change (l : Launch) (dC : Nat → ClassId) (dI : Nat → Nat → Nat) (cA : ClassId) (sz : Nat) (cB : ClassId) (b : Nat → Nat) (y ma ve rw jn ou fo go : Nat → Int32) (hok : mi_ok y ve rw) (t ky fr vl : Int32) : Met l qy_M_change qw_M_change ({ frames := 4, cells := 0, slots := 0, locals := 116 }) (mk_mu [.ref (b 0), .int t, .int ky, .int fr, .int vl] sz (dC, dI) vwCl [(cA, .int), (cB, .boolean)] (wM b cA cB y ma ve rw jn ou fo go)) (mk_muQ (S := (Nat → Int32) × (Nat → Int32) × (Nat → Int32) × (Nat → Int32) × (Nat → Int32) × (Nat → Int32)) (fun r u => mo_change y ma t ky fr vl r u.1 ∧ mi_ok u.1 u.2.1 u.2.2.1 ∧ mq_change y rw u.1 u.2.2.1) (fun u => (wM b cA cB u.1 ma u.2.1 u.2.2.1 u.2.2.2.1 u.2.2.2.2.1 u.2.2.2.2.2 go)) (dC, dI) vwCl [(cA, .int), (cB, .boolean)] (va_A (wM b cA cB y ma ve rw jn ou fo go) sz)) 0 0 (va_A (wM b cA cB y ma ve rw jn ou fo go) sz) := by
  refine Met.ofW (cc := qb_M_change) (maxL := 6) (ret := (some .int)) (by decide) rfl ?_
  intro p e s m args below meth c s₁ B hml hpre
  obtain ⟨rfl, hsz, hP, hK, hD0⟩ := hpre
  have hx := B.exec
  have hb := B.bytes
  have hr := B.returns
  have hts0 := atoms_spec (ws := qw_M_change) B.pre
  have hts := fun w (h : w ∈ lw_gd) => hts0 w (List.mem_cons_of_mem _ h)
  have hown : s.vm.findClass qR_M = some m.cls := findClass_of_methodNamed B.named
  have hlocks := B.notSynchronized
  subst hsz
  have hD := hD0.self (sz := s.heap.size)
  generalize hAe : va_A (wM b cA cB y ma ve rw jn ou fo go) s.heap.size = A at hD ⊢
  have hA : ∀ q : Nat, s.heap.size ≤ q → A q := fun q h => by rw [← hAe]; exact Or.inr h
  have hS : va_S A s.heap s.heap [] := va_S.rf
  have hl := lv_entry ([.ref (b 0), .int t, .int ky, .int fr, .int vl]) (n := 6) (Nat.le_of_ble_eq_true rfl)
  rw [lg_entry_eq]
  generalize (lg_sl ([.ref (b 0), .int t, .int ky, .int fr, .int vl]) ++ List.replicate (6 - (lg_sl ([.ref (b 0), .int t, .int ky, .int fr, .int vl])).length) Slot.unset).toArray = ls at hl ⊢
  have hl : lv_has ls 6 [(0, .ref (b 0)), (1, .int t), (2, .int ky), (3, .int fr), (4, .int vl)] := hl
  have hP : va_P (dC, dI) vwCl (wM b cA cB y ma ve rw jn ou fo go) s.heap := hP
  refine mk_start (A := A) hP (fun H locs hP hS => ?_)
  have hok9 := hok
  obtain ⟨nt, nv, nr, no, c, hnt, ht3, hnv, hv, hnr, hr96, hno, hno2, hcm, hc3, hinc, hlc, hap, hbg⟩ := hok
  refine lv_aload_n hx hb qd_M_change_0 rfl (lv_at hl 0 rfl) ?_
  refine lv_iconst (v := 0) hx hb qd_M_change_1 (by decide) ?_
  refine va_put (D := (dC, dI)) (ci := 1) (v := .int 0) (ty := .int) (C := qR_M) (T := qT_M) (N := 24) hx hb hts qin_M qty_M qtyok_M qnm_M hown hK hP hD hS 0 rfl rfl 0 (by decide) (hts _ mw_402) (fun _ h9 => h9) rfl (by decide +kernel) rfl rfl (Nat.le_of_ble_eq_true rfl) qd_M_change_2 (fun H locs hP hD hS => ?_)
  have hP : va_P (dC, dI) vwCl (wM b cA cB (upd y 0 0) ma ve rw jn ou fo go) H := hP
  have hD : va_D A (wM b cA cB (upd y 0 0) ma ve rw jn ou fo go) := hD
  refine lv_iload_n hx hb qd_M_change_5 rfl (lv_at hl 1 rfl) ?_
  refine lv_i2l (v := Int32.toInt64 t) hx hb qd_M_change_6 rfl ?_
  refine lv_lconst (v := 0) hx hb qd_M_change_7 (by decide) ?_
  refine lv_aload_n hx hb qd_M_change_8 rfl (lv_at hl 0 rfl) ?_
  refine va_get (D := (dC, dI)) (ci := 1) (v := .int (y 1)) (C := qR_M) (T := qT_M) (N := 24) hx hb hts qin_M hown hK hP 0 rfl rfl 1 (by decide) (hts _ mw_403) (fun _ h9 => h9) rfl qd_M_change_9 ?_
  refine lv_iconst (v := 1) hx hb qd_M_change_12 (by decide) ?_
  refine lv_isub hx hb qd_M_change_13 ?_
  refine lv_i2l (v := Int32.toInt64 ((y 1) - 1)) hx hb qd_M_change_14 rfl ?_
  refine mk_calli (va_runS (As := [.long (Int32.toInt64 t), .long 0, .long (Int32.toInt64 ((y 1) - 1))]) (rest := []) ⟨hx, hb, hml, hown, hts⟩ (c_M_in l dC dI cA H.size cB (Int32.toInt64 t) 0 (Int32.toInt64 ((y 1) - 1))) (va_cwS 3 hts gc_M_51 rfl rfl rfl (by decide +kernel) ⟨Nat.le_of_ble_eq_true rfl, Nat.le_of_ble_eq_true rfl⟩) (mk_roS hP [] rfl hK) rfl rfl hl.1 rfl (lv_room (Nat.le_of_ble_eq_true rfl)) qd_M_change_15 ⟨(Nat.zero_le _), (Nat.zero_le _)⟩) hS hA hP (fun r_1 H locs hr_1 hP hS => ?_)
  obtain rfl : r_1 = mi_b (Int32.toInt64 t) 0 (Int32.toInt64 ((y 1) - 1)) := hr_1
  refine lv_if_eq (tgt := 60) hx hb qd_M_change_18 (by decide) (fun c_2 => ?_) (fun c_2 => ?_)
  · refine lv_iconst (v := (-1)) hx hb qd_M_change_60 (by decide) ?_
    exact mk_miret (upd y 0 0, ve, rw, jn, ou, fo) hx hb hr hlocks hP hK hD hS qd_M_change_61 ⟨Or.inl ⟨Or.inl c_2, rfl, rfl⟩, mi_keep hok9 rfl rfl rfl rfl rfl rfl, ⟨nr, hnr, hr96, rfl, rfl, rfl⟩⟩
  · refine lv_iload_n hx hb qd_M_change_21 rfl (lv_at hl 2 rfl) ?_
    refine lv_i2l (v := Int32.toInt64 ky) hx hb qd_M_change_22 rfl ?_
    refine lv_lconst (v := 0) hx hb qd_M_change_23 (by decide) ?_
    refine lv_ldc2 (v := 15) hx hb hown (hts _ mw_493) qd_M_change_24 ?_
    refine mk_calli (va_runS (As := [.long (Int32.toInt64 ky), .long 0, .long 15]) (rest := []) ⟨hx, hb, hml, hown, hts⟩ (c_M_in l dC dI cA H.size cB (Int32.toInt64 ky) 0 15) (va_cwS 3 hts gc_M_51 rfl rfl rfl (by decide +kernel) ⟨Nat.le_of_ble_eq_true rfl, Nat.le_of_ble_eq_true rfl⟩) (mk_roS hP [] rfl hK) rfl rfl hl.1 rfl (lv_room (Nat.le_of_ble_eq_true rfl)) qd_M_change_27 ⟨(Nat.zero_le _), (Nat.zero_le _)⟩) hS hA hP (fun r_3 H locs hr_3 hP hS => ?_)
    obtain rfl : r_3 = mi_b (Int32.toInt64 ky) 0 15 := hr_3
    refine lv_if_eq (tgt := 60) hx hb qd_M_change_30 (by decide) (fun c_4 => ?_) (fun c_4 => ?_)
    · refine lv_iconst (v := (-1)) hx hb qd_M_change_60 (by decide) ?_
      exact mk_miret (upd y 0 0, ve, rw, jn, ou, fo) hx hb hr hlocks hP hK hD hS qd_M_change_61 ⟨Or.inl ⟨Or.inr (Or.inl c_4), rfl, rfl⟩, mi_keep hok9 rfl rfl rfl rfl rfl rfl, ⟨nr, hnr, hr96, rfl, rfl, rfl⟩⟩
    · refine lv_iload_n hx hb qd_M_change_33 rfl (lv_at hl 3 rfl) ?_
      refine lv_i2l (v := Int32.toInt64 fr) hx hb qd_M_change_34 rfl ?_
      refine lv_lconst (v := 1) hx hb qd_M_change_35 (by decide) ?_
      refine lv_ldc2 (v := 100000) hx hb hown (hts _ mw_494) qd_M_change_36 ?_
      refine mk_calli (va_runS (As := [.long (Int32.toInt64 fr), .long 1, .long 100000]) (rest := []) ⟨hx, hb, hml, hown, hts⟩ (c_M_in l dC dI cA H.size cB (Int32.toInt64 fr) 1 100000) (va_cwS 3 hts gc_M_51 rfl rfl rfl (by decide +kernel) ⟨Nat.le_of_ble_eq_true rfl, Nat.le_of_ble_eq_true rfl⟩) (mk_roS hP [] rfl hK) rfl rfl hl.1 rfl (lv_room (Nat.le_of_ble_eq_true rfl)) qd_M_change_39 ⟨(Nat.zero_le _), (Nat.zero_le _)⟩) hS hA hP (fun r_5 H locs hr_5 hP hS => ?_)
      obtain rfl : r_5 = mi_b (Int32.toInt64 fr) 1 100000 := hr_5
      refine lv_if_eq (tgt := 60) hx hb qd_M_change_42 (by decide) (fun c_6 => ?_) (fun c_6 => ?_)
      · refine lv_iconst (v := (-1)) hx hb qd_M_change_60 (by decide) ?_
        exact mk_miret (upd y 0 0, ve, rw, jn, ou, fo) hx hb hr hlocks hP hK hD hS qd_M_change_61 ⟨Or.inl ⟨Or.inr (Or.inr (Or.inl c_6)), rfl, rfl⟩, mi_keep hok9 rfl rfl rfl rfl rfl rfl, ⟨nr, hnr, hr96, rfl, rfl, rfl⟩⟩
      · refine lv_iload hx hb qd_M_change_45 (lv_at hl 4 rfl) ?_
        refine lv_i2l (v := Int32.toInt64 vl) hx hb qd_M_change_47 rfl ?_
        refine lv_ldc2 (v := -1) hx hb hown (hts _ mw_495) qd_M_change_48 ?_
        refine lv_ldc2 (v := 1000) hx hb hown (hts _ mw_488) qd_M_change_51 ?_
        refine mk_calli (va_runS (As := [.long (Int32.toInt64 vl), .long (-1), .long 1000]) (rest := []) ⟨hx, hb, hml, hown, hts⟩ (c_M_in l dC dI cA H.size cB (Int32.toInt64 vl) (-1) 1000) (va_cwS 3 hts gc_M_51 rfl rfl rfl (by decide +kernel) ⟨Nat.le_of_ble_eq_true rfl, Nat.le_of_ble_eq_true rfl⟩) (mk_roS hP [] rfl hK) rfl rfl hl.1 rfl (lv_room (Nat.le_of_ble_eq_true rfl)) qd_M_change_54 ⟨(Nat.zero_le _), (Nat.zero_le _)⟩) hS hA hP (fun r_7 H locs hr_7 hP hS => ?_)
        obtain rfl : r_7 = mi_b (Int32.toInt64 vl) (-1) 1000 := hr_7
        refine lv_if_ne (tgt := 62) hx hb qd_M_change_57 (by decide) (fun c_8 => ?_) (fun c_8 => ?_)
        · obtain ⟨t', ht', et⟩ := mt_nat c_2 hnt ht3 (mt_lo c_2)
          refine mk_after (σ := Unit) (fun y9 H locs ls => (¬ mh_late y ma t' fr) ∧ va_P (dC, dI) vwCl (wM b cA cB (upd y 0 0) ma ve rw jn ou fo go) H ∧ va_D A (wM b cA cB (upd y 0 0) ma ve rw jn ou fo go) ∧ va_S A s.heap H locs ∧ lv_has ls 6 [(0, .ref (b 0)), (1, .int t), (2, .int ky), (3, .int fr), (4, .int vl)]) (fun ls => F0 m 100 ls []) (fun y9 H locs ls hI => ?_) (fun J_9 => ?_)
          · obtain ⟨z9, rfl⟩ : ∃ z, z = y9 := ⟨_, rfl⟩
            obtain ⟨hinv, hP, hD, hS, hl⟩ := hI
            have hinv : ¬ mh_late y ma t' fr := hinv
            have hP : va_P (dC, dI) vwCl (wM b cA cB (upd y 0 0) ma ve rw jn ou fo go) H := hP
            have hD : va_D A (wM b cA cB (upd y 0 0) ma ve rw jn ou fo go) := hD
            have hl : lv_has ls 6 [(0, .ref (b 0)), (1, .int t), (2, .int ky), (3, .int fr), (4, .int vl)] := hl
            refine lv_aload_n hx hb qd_M_change_100 rfl (lv_at hl 0 rfl) ?_
            refine lv_iload_n hx hb qd_M_change_101 rfl (lv_at hl 1 rfl) ?_
            refine lv_iload_n hx hb qd_M_change_102 rfl (lv_at hl 2 rfl) ?_
            refine lv_iload_n hx hb qd_M_change_103 rfl (lv_at hl 3 rfl) ?_
            refine mk_calli (va_runV (As := [.int t, .int ky, .int fr]) (rest := []) ⟨hx, hb, hml, hown, hts⟩ (c_M_versionAt l dC dI cA H.size cB b (upd y 0 0) ma ve rw jn ou fo go nv hnv hv t ky fr) (cwV 3 hts gc_M_129 rfl rfl rfl (by decide +kernel) ⟨Nat.le_of_ble_eq_true rfl, Nat.le_of_ble_eq_true rfl⟩) (mk_roV hP [0, 1, 2, 3, 4, 5, 6, 7] rfl hK (va_recv hK hP (ci := 1) (q0 := 0) rfl rfl)) rfl rfl hl.1 rfl (lv_room (Nat.le_of_ble_eq_true rfl)) qd_M_change_104 ⟨(Nat.zero_le _), (Nat.zero_le _)⟩) hS hA hP (fun r_10 H locs hr_10 hP hS => ?_)
            have hr_10 : (r_10 = -2 ∧ ∀ i, i < nv → ¬ mv_at ve i t ky fr) ∨ ∃ i, i < nv ∧ r_10 = nI i ∧ mv_at ve i t ky fr := hr_10
            refine lv_istore (lv' := [(5, .int r_10), (0, .ref (b 0)), (1, .int t), (2, .int ky), (3, .int fr), (4, .int vl)]) hx hb qd_M_change_107 hl (by decide) rfl (fun ls hl => ?_)
            refine lv_iload hx hb qd_M_change_109 (lv_at hl 0 rfl) ?_
            refine lv_bipush (v := (-2)) hx hb qd_M_change_111 (by decide) ?_
            refine lv_icmp_ne (tgt := 129) hx hb qd_M_change_113 (by decide) (fun c_11 => ?_) (fun c_11 => ?_)
            · obtain ⟨i9, hi9, ei, hat⟩ := hr_10.resolve_left (fun q => c_11 q.1)
              refine lv_aload_n hx hb qd_M_change_129 rfl (lv_at hl 1 rfl) ?_
              refine lv_iconst (v := 1) hx hb qd_M_change_130 (by decide) ?_
              refine va_put (D := (dC, dI)) (ci := 1) (v := .int 1) (ty := .boolean) (C := qR_M) (T := qT_M) (N := 24) hx hb hts qin_M qty_M qtyok_M qnm_M hown hK hP hD hS 0 rfl rfl 6 (by decide) (hts _ mw_408) (fun _ h9 => h9) rfl (by decide +kernel) rfl rfl (Nat.le_of_ble_eq_true rfl) qd_M_change_131 (fun H locs hP hD hS => ?_)
              have hP : va_P (dC, dI) vwCl (wM b cA cB (upd (upd y 0 0) 6 1) ma ve rw jn ou fo go) H := hP
              have hD : va_D A (wM b cA cB (upd (upd y 0 0) 6 1) ma ve rw jn ou fo go) := hD
              refine lv_aload_n hx hb qd_M_change_134 rfl (lv_at hl 1 rfl) ?_
              refine lv_iconst (v := 0) hx hb qd_M_change_135 (by decide) ?_
              refine va_put (D := (dC, dI)) (ci := 1) (v := .int 0) (ty := .int) (C := qR_M) (T := qT_M) (N := 24) hx hb hts qin_M qty_M qtyok_M qnm_M hown hK hP hD hS 0 rfl rfl 21 (by decide) (hts _ mw_423) (fun _ h9 => h9) rfl (by decide +kernel) rfl rfl (Nat.le_of_ble_eq_true rfl) qd_M_change_136 (fun H locs hP hD hS => ?_)
              have hP : va_P (dC, dI) vwCl (wM b cA cB (upd (upd (upd y 0 0) 6 1) 21 0) ma ve rw jn ou fo go) H := hP
              have hD : va_D A (wM b cA cB (upd (upd (upd y 0 0) 6 1) 21 0) ma ve rw jn ou fo go) := hD
              refine lv_iload hx hb qd_M_change_139 (lv_at hl 0 rfl) ?_
              refine lv_bipush (v := (-2)) hx hb qd_M_change_141 (by decide) ?_
              refine lv_icmp_ne (tgt := 162) hx hb qd_M_change_143 (by decide) (fun c_12 => ?_) (fun c_12 => ?_)
              · refine lv_aload_n hx hb qd_M_change_162 rfl (lv_at hl 1 rfl) ?_
                refine va_get (D := (dC, dI)) (ci := 1) (v := .ref (b 2)) (C := qR_M) (T := qT_M) (N := 24) hx hb hts qin_M hown hK hP 0 rfl rfl 9 (by decide) (hts _ mw_411) (fun _ h9 => h9) rfl qd_M_change_163 ?_
                refine lv_iconst (v := 4) hx hb qd_M_change_166 (by decide) ?_
                refine lv_iload hx hb qd_M_change_167 (lv_at hl 0 rfl) ?_
                refine mk_rw (y := nI i9) (ei) ?_
                refine lv_imul hx hb qd_M_change_169 ?_
                refine lv_iload_n hx hb qd_M_change_170 rfl (lv_at hl 2 rfl) ?_
                refine mk_rw2 (y := nI (4 * i9)) (by show (nI 4) * (nI i9) = _; simp only [pk_mul, nI_add]) ?_
                refine va_iast (i := (nI (4 * i9))) (x := t) hx hb hK hP hD hS 2 0 rfl rfl (vp_in_nI (by omega) (by omega)) qd_M_change_171 (fun H locs hP hD hS => ?_)
                rw [show Int32.toNatClampNeg (nI (4 * i9)) = (4 * i9) from (nI_clamp (by omega))] at hP hD
                have hP : va_P (dC, dI) vwCl (wM b cA cB (upd (upd (upd y 0 0) 6 1) 21 0) ma (upd ve (4 * i9) t) rw jn ou fo go) H := hP
                have hD : va_D A (wM b cA cB (upd (upd (upd y 0 0) 6 1) 21 0) ma (upd ve (4 * i9) t) rw jn ou fo go) := hD
                refine lv_aload_n hx hb qd_M_change_172 rfl (lv_at hl 1 rfl) ?_
                refine va_get (D := (dC, dI)) (ci := 1) (v := .ref (b 2)) (C := qR_M) (T := qT_M) (N := 24) hx hb hts qin_M hown hK hP 0 rfl rfl 9 (by decide) (hts _ mw_411) (fun _ h9 => h9) rfl qd_M_change_173 ?_
                refine lv_iconst (v := 4) hx hb qd_M_change_176 (by decide) ?_
                refine lv_iload hx hb qd_M_change_177 (lv_at hl 0 rfl) ?_
                refine mk_rw (y := nI i9) (ei) ?_
                refine lv_imul hx hb qd_M_change_179 ?_
                refine lv_iconst (v := 1) hx hb qd_M_change_180 (by decide) ?_
                refine lv_iadd hx hb qd_M_change_181 ?_
                refine lv_iload_n hx hb qd_M_change_182 rfl (lv_at hl 3 rfl) ?_
                refine mk_rw2 (y := nI ((4 * i9) + 1)) (by show ((nI 4) * (nI i9)) + (nI 1) = _; simp only [pk_mul, nI_add]) ?_
                refine va_iast (i := (nI ((4 * i9) + 1))) (x := ky) hx hb hK hP hD hS 2 0 rfl rfl (vp_in_nI (by omega) (by omega)) qd_M_change_183 (fun H locs hP hD hS => ?_)
                rw [show Int32.toNatClampNeg (nI ((4 * i9) + 1)) = ((4 * i9) + 1) from (nI_clamp (by omega))] at hP hD
                have hP : va_P (dC, dI) vwCl (wM b cA cB (upd (upd (upd y 0 0) 6 1) 21 0) ma (upd (upd ve (4 * i9) t) ((4 * i9) + 1) ky) rw jn ou fo go) H := hP
                have hD : va_D A (wM b cA cB (upd (upd (upd y 0 0) 6 1) 21 0) ma (upd (upd ve (4 * i9) t) ((4 * i9) + 1) ky) rw jn ou fo go) := hD
                refine lv_aload_n hx hb qd_M_change_184 rfl (lv_at hl 1 rfl) ?_
                refine va_get (D := (dC, dI)) (ci := 1) (v := .ref (b 2)) (C := qR_M) (T := qT_M) (N := 24) hx hb hts qin_M hown hK hP 0 rfl rfl 9 (by decide) (hts _ mw_411) (fun _ h9 => h9) rfl qd_M_change_185 ?_
                refine lv_iconst (v := 4) hx hb qd_M_change_188 (by decide) ?_
                refine lv_iload hx hb qd_M_change_189 (lv_at hl 0 rfl) ?_
                refine mk_rw (y := nI i9) (ei) ?_
                refine lv_imul hx hb qd_M_change_191 ?_
                refine lv_iconst (v := 2) hx hb qd_M_change_192 (by decide) ?_
                refine lv_iadd hx hb qd_M_change_193 ?_
                refine lv_iload_n hx hb qd_M_change_194 rfl (lv_at hl 4 rfl) ?_
                refine mk_rw2 (y := nI ((4 * i9) + 2)) (by show ((nI 4) * (nI i9)) + (nI 2) = _; simp only [pk_mul, nI_add]) ?_
                refine va_iast (i := (nI ((4 * i9) + 2))) (x := fr) hx hb hK hP hD hS 2 0 rfl rfl (vp_in_nI (by omega) (by omega)) qd_M_change_195 (fun H locs hP hD hS => ?_)
                rw [show Int32.toNatClampNeg (nI ((4 * i9) + 2)) = ((4 * i9) + 2) from (nI_clamp (by omega))] at hP hD
                have hP : va_P (dC, dI) vwCl (wM b cA cB (upd (upd (upd y 0 0) 6 1) 21 0) ma (upd (upd (upd ve (4 * i9) t) ((4 * i9) + 1) ky) ((4 * i9) + 2) fr) rw jn ou fo go) H := hP
                have hD : va_D A (wM b cA cB (upd (upd (upd y 0 0) 6 1) 21 0) ma (upd (upd (upd ve (4 * i9) t) ((4 * i9) + 1) ky) ((4 * i9) + 2) fr) rw jn ou fo go) := hD
                refine lv_aload_n hx hb qd_M_change_196 rfl (lv_at hl 1 rfl) ?_
                refine va_get (D := (dC, dI)) (ci := 1) (v := .ref (b 2)) (C := qR_M) (T := qT_M) (N := 24) hx hb hts qin_M hown hK hP 0 rfl rfl 9 (by decide) (hts _ mw_411) (fun _ h9 => h9) rfl qd_M_change_197 ?_
                refine lv_iconst (v := 4) hx hb qd_M_change_200 (by decide) ?_
                refine lv_iload hx hb qd_M_change_201 (lv_at hl 0 rfl) ?_
                refine mk_rw (y := nI i9) (ei) ?_
                refine lv_imul hx hb qd_M_change_203 ?_
                refine lv_iconst (v := 3) hx hb qd_M_change_204 (by decide) ?_
                refine lv_iadd hx hb qd_M_change_205 ?_
                refine lv_iload hx hb qd_M_change_206 (lv_at hl 5 rfl) ?_
                refine mk_rw2 (y := nI ((4 * i9) + 3)) (by show ((nI 4) * (nI i9)) + (nI 3) = _; simp only [pk_mul, nI_add]) ?_
                refine va_iast (i := (nI ((4 * i9) + 3))) (x := vl) hx hb hK hP hD hS 2 0 rfl rfl (vp_in_nI (by omega) (by omega)) qd_M_change_208 (fun H locs hP hD hS => ?_)
                rw [show Int32.toNatClampNeg (nI ((4 * i9) + 3)) = ((4 * i9) + 3) from (nI_clamp (by omega))] at hP hD
                have hP : va_P (dC, dI) vwCl (wM b cA cB (upd (upd (upd y 0 0) 6 1) 21 0) ma (upd (upd (upd (upd ve (4 * i9) t) ((4 * i9) + 1) ky) ((4 * i9) + 2) fr) ((4 * i9) + 3) vl) rw jn ou fo go) H := hP
                have hD : va_D A (wM b cA cB (upd (upd (upd y 0 0) 6 1) 21 0) ma (upd (upd (upd (upd ve (4 * i9) t) ((4 * i9) + 1) ky) ((4 * i9) + 2) fr) ((4 * i9) + 3) vl) rw jn ou fo go) := hD
                have hP : va_P (dC, dI) vwCl (wM b cA cB (upd (upd (upd y 0 0) 6 1) 21 0) ma (mv_new ve i9 t ky fr vl) rw jn ou fo go) H := hP
                have hD : va_D A (wM b cA cB (upd (upd (upd y 0 0) 6 1) 21 0) ma (mv_new ve i9 t ky fr vl) rw jn ou fo go) := hD
                refine lv_aload_n hx hb qd_M_change_209 rfl (lv_at hl 1 rfl) ?_
                refine mk_mcallv (wr := []) (wf := (fun u => (wM b cA cB u.1 ma (mv_new ve i9 t ky fr vl) u.2.1 u.2.2.1 u.2.2.2.1 u.2.2.2.2 go))) (va_runV (As := []) (rest := []) ⟨hx, hb, hml, hown, hts⟩ (c_M_correct l dC dI cA H.size cB b (upd (upd (upd y 0 0) 6 1) 21 0) ma (mv_new ve i9 t ky fr vl) rw jn ou fo go nv hnv hv nt hnt ht3 nr hnr hr96 rfl (mr_full_of hinc)) (cwV 0 hts gc_M_132 rfl rfl rfl (by decide +kernel) ⟨Nat.le_of_ble_eq_true rfl, Nat.le_of_ble_eq_true rfl⟩) (mk_muP hP hD [0, 1, 2, 3, 4, 5, 6, 7] (by decide) rfl hK (va_recv hK hP (ci := 1) (q0 := 0) rfl rfl)) rfl rfl hl.1 rfl (lv_room (Nat.le_of_ble_eq_true rfl)) qd_M_change_210 ⟨(Nat.zero_le _), (Nat.zero_le _)⟩) hS hA hP hD [0, 1, 2, 3, 4, 5, 6, 7] [] [0, 1, 2, 3, 4, 5, 6, 7] rfl rfl (by decide) (by decide) (by decide) (fun _ => rfl) (fun u_14 H locs hu_14 hP hD hS => ?_)
                obtain ⟨y3, w3, j3, o3, f3⟩ := u_14
                obtain ⟨hms, hno3, hmr, hj4⟩ : my_same (upd (upd (upd y 0 0) 6 1) 21 0) y3 ∧ (∃ no, no ≤ 192 ∧ y3 21 = nI no) ∧ mrow rw w3 nr ∧ m4_keep rw w3 nr := hu_14
                have hcore : my_core y y3 := my_coreS hms ⟨rfl, rfl, rfl, rfl, rfl⟩
                have hnv3 : y3 10 = nI nv := (hms 10 (by decide) (by decide) (by decide)).trans hnv
                have hP : va_P (dC, dI) vwCl (wM b cA cB y3 ma (mv_new ve i9 t ky fr vl) w3 j3 o3 f3 go) H := hP
                have hD : va_D A (wM b cA cB y3 ma (mv_new ve i9 t ky fr vl) w3 j3 o3 f3 go) := hD
                refine lv_aload_n hx hb qd_M_change_213 rfl (lv_at hl 1 rfl) ?_
                refine lv_iload_n hx hb qd_M_change_214 rfl (lv_at hl 2 rfl) ?_
                refine lv_iload_n hx hb qd_M_change_215 rfl (lv_at hl 3 rfl) ?_
                refine mk_calli (va_runV (As := [.int t, .int ky]) (rest := []) ⟨hx, hb, hml, hown, hts⟩ (c_M_manyOf l dC dI cA H.size cB b y3 ma (mv_new ve i9 t ky fr vl) w3 j3 o3 f3 go nv hnv3 hv t ky) (cwV 2 hts gc_M_135 rfl rfl rfl (by decide +kernel) ⟨Nat.le_of_ble_eq_true rfl, Nat.le_of_ble_eq_true rfl⟩) (mk_roV hP [0, 1, 2, 3, 4, 5, 6, 7] rfl hK (va_recv hK hP (ci := 1) (q0 := 0) rfl rfl)) rfl rfl hl.1 rfl (lv_room (Nat.le_of_ble_eq_true rfl)) qd_M_change_216 ⟨(Nat.zero_le _), (Nat.zero_le _)⟩) hS hA hP (fun r_15 H locs hr_15 hP hS => ?_)
                exact mk_miret (y3, (mv_new ve i9 t ky fr vl), w3, j3, o3, f3) hx hb hr hlocks hP hK hD hS qd_M_change_219 ⟨Or.inr ⟨mh_nbad c_2 c_4 c_6 c_8, t', by omega, et, Or.inr ⟨hinv, Or.inr ⟨hcore, hms 8 (by decide) (by decide) (by decide), hms 6 (by decide) (by decide) (by decide)⟩⟩⟩, mi_change hms hnt ht3 hnv hv hnr hr96 hcm hc3 rfl hinc hlc (mv_new_in hap hat) hno3 hmr, ⟨nr, hnr, hr96, hms 13 (by decide) (by decide) (by decide), hms 14 (by decide) (by decide) (by decide), mq_keep hmr hj4⟩⟩
              · exact absurd c_12 c_11
            · refine lv_aload_n hx hb qd_M_change_116 rfl (lv_at hl 1 rfl) ?_
              refine va_get (D := (dC, dI)) (ci := 1) (v := .int (y 10)) (C := qR_M) (T := qT_M) (N := 24) hx hb hts qin_M hown hK hP 0 rfl rfl 10 (by decide) (hts _ mw_412) (fun _ h9 => h9) rfl qd_M_change_117 ?_
              refine lv_sipush (v := 160) hx hb qd_M_change_120 (by decide) ?_
              refine lv_icmp_ne (tgt := 129) hx hb qd_M_change_123 (by decide) (fun c_16 => ?_) (fun c_16 => ?_)
              · have hnone : ∀ i, i < nv → ¬ mv_at ve i t ky fr := by rcases hr_10 with q | ⟨i, hi, q, -⟩; exact q.2; exact absurd (q.symm.trans c_11) (nI_nm2 (by omega))
                have hv1 : nv + 1 ≤ 160 := by rcases Nat.lt_or_ge nv 160 with q | q; exact q; exact absurd (show y 10 = 160 by rw [hnv, show nv = 160 by omega]; rfl) c_16
                refine lv_aload_n hx hb qd_M_change_129 rfl (lv_at hl 1 rfl) ?_
                refine lv_iconst (v := 1) hx hb qd_M_change_130 (by decide) ?_
                refine va_put (D := (dC, dI)) (ci := 1) (v := .int 1) (ty := .boolean) (C := qR_M) (T := qT_M) (N := 24) hx hb hts qin_M qty_M qtyok_M qnm_M hown hK hP hD hS 0 rfl rfl 6 (by decide) (hts _ mw_408) (fun _ h9 => h9) rfl (by decide +kernel) rfl rfl (Nat.le_of_ble_eq_true rfl) qd_M_change_131 (fun H locs hP hD hS => ?_)
                have hP : va_P (dC, dI) vwCl (wM b cA cB (upd (upd y 0 0) 6 1) ma ve rw jn ou fo go) H := hP
                have hD : va_D A (wM b cA cB (upd (upd y 0 0) 6 1) ma ve rw jn ou fo go) := hD
                refine lv_aload_n hx hb qd_M_change_134 rfl (lv_at hl 1 rfl) ?_
                refine lv_iconst (v := 0) hx hb qd_M_change_135 (by decide) ?_
                refine va_put (D := (dC, dI)) (ci := 1) (v := .int 0) (ty := .int) (C := qR_M) (T := qT_M) (N := 24) hx hb hts qin_M qty_M qtyok_M qnm_M hown hK hP hD hS 0 rfl rfl 21 (by decide) (hts _ mw_423) (fun _ h9 => h9) rfl (by decide +kernel) rfl rfl (Nat.le_of_ble_eq_true rfl) qd_M_change_136 (fun H locs hP hD hS => ?_)
                have hP : va_P (dC, dI) vwCl (wM b cA cB (upd (upd (upd y 0 0) 6 1) 21 0) ma ve rw jn ou fo go) H := hP
                have hD : va_D A (wM b cA cB (upd (upd (upd y 0 0) 6 1) 21 0) ma ve rw jn ou fo go) := hD
                refine lv_iload hx hb qd_M_change_139 (lv_at hl 0 rfl) ?_
                refine lv_bipush (v := (-2)) hx hb qd_M_change_141 (by decide) ?_
                refine lv_icmp_ne (tgt := 162) hx hb qd_M_change_143 (by decide) (fun c_17 => ?_) (fun c_17 => ?_)
                · exact absurd c_11 c_17
                · refine lv_aload_n hx hb qd_M_change_146 rfl (lv_at hl 1 rfl) ?_
                  refine va_get (D := (dC, dI)) (ci := 1) (v := .int (y 10)) (C := qR_M) (T := qT_M) (N := 24) hx hb hts qin_M hown hK hP 0 rfl rfl 10 (by decide) (hts _ mw_412) (fun _ h9 => h9) rfl qd_M_change_147 ?_
                  refine mk_rw (y := nI nv) (hnv) ?_
                  refine lv_istore (lv' := [(5, .int (nI nv)), (0, .ref (b 0)), (1, .int t), (2, .int ky), (3, .int fr), (4, .int vl)]) hx hb qd_M_change_150 hl (by decide) rfl (fun ls hl => ?_)
                  refine lv_aload_n hx hb qd_M_change_152 rfl (lv_at hl 1 rfl) ?_
                  refine lv_dup hx hb qd_M_change_153 rfl ?_
                  refine va_get (D := (dC, dI)) (ci := 1) (v := .int (y 10)) (C := qR_M) (T := qT_M) (N := 24) hx hb hts qin_M hown hK hP 0 rfl rfl 10 (by decide) (hts _ mw_412) (fun _ h9 => h9) rfl qd_M_change_154 ?_
                  refine lv_iconst (v := 1) hx hb qd_M_change_157 (by decide) ?_
                  refine lv_iadd hx hb qd_M_change_158 ?_
                  refine mk_rw (y := nI (nv + 1)) (by rw [hnv]; exact nI_1 nv) ?_
                  refine va_put (D := (dC, dI)) (ci := 1) (v := .int (nI (nv + 1))) (ty := .int) (C := qR_M) (T := qT_M) (N := 24) hx hb hts qin_M qty_M qtyok_M qnm_M hown hK hP hD hS 0 rfl rfl 10 (by decide) (hts _ mw_412) (fun _ h9 => h9) rfl (by decide +kernel) rfl rfl (Nat.le_of_ble_eq_true rfl) qd_M_change_159 (fun H locs hP hD hS => ?_)
                  have hP : va_P (dC, dI) vwCl (wM b cA cB (upd (upd (upd (upd y 0 0) 6 1) 21 0) 10 (nI (nv + 1))) ma ve rw jn ou fo go) H := hP
                  have hD : va_D A (wM b cA cB (upd (upd (upd (upd y 0 0) 6 1) 21 0) 10 (nI (nv + 1))) ma ve rw jn ou fo go) := hD
                  refine lv_aload_n hx hb qd_M_change_162 rfl (lv_at hl 1 rfl) ?_
                  refine va_get (D := (dC, dI)) (ci := 1) (v := .ref (b 2)) (C := qR_M) (T := qT_M) (N := 24) hx hb hts qin_M hown hK hP 0 rfl rfl 9 (by decide) (hts _ mw_411) (fun _ h9 => h9) rfl qd_M_change_163 ?_
                  refine lv_iconst (v := 4) hx hb qd_M_change_166 (by decide) ?_
                  refine lv_iload hx hb qd_M_change_167 (lv_at hl 0 rfl) ?_
                  refine lv_imul hx hb qd_M_change_169 ?_
                  refine lv_iload_n hx hb qd_M_change_170 rfl (lv_at hl 2 rfl) ?_
                  refine mk_rw2 (y := nI (4 * nv)) (by show (nI 4) * (nI nv) = _; simp only [pk_mul, nI_add]) ?_
                  refine va_iast (i := (nI (4 * nv))) (x := t) hx hb hK hP hD hS 2 0 rfl rfl (vp_in_nI (by omega) (by omega)) qd_M_change_171 (fun H locs hP hD hS => ?_)
                  rw [show Int32.toNatClampNeg (nI (4 * nv)) = (4 * nv) from (nI_clamp (by omega))] at hP hD
                  have hP : va_P (dC, dI) vwCl (wM b cA cB (upd (upd (upd (upd y 0 0) 6 1) 21 0) 10 (nI (nv + 1))) ma (upd ve (4 * nv) t) rw jn ou fo go) H := hP
                  have hD : va_D A (wM b cA cB (upd (upd (upd (upd y 0 0) 6 1) 21 0) 10 (nI (nv + 1))) ma (upd ve (4 * nv) t) rw jn ou fo go) := hD
                  refine lv_aload_n hx hb qd_M_change_172 rfl (lv_at hl 1 rfl) ?_
                  refine va_get (D := (dC, dI)) (ci := 1) (v := .ref (b 2)) (C := qR_M) (T := qT_M) (N := 24) hx hb hts qin_M hown hK hP 0 rfl rfl 9 (by decide) (hts _ mw_411) (fun _ h9 => h9) rfl qd_M_change_173 ?_
                  refine lv_iconst (v := 4) hx hb qd_M_change_176 (by decide) ?_
                  refine lv_iload hx hb qd_M_change_177 (lv_at hl 0 rfl) ?_
                  refine lv_imul hx hb qd_M_change_179 ?_
                  refine lv_iconst (v := 1) hx hb qd_M_change_180 (by decide) ?_
                  refine lv_iadd hx hb qd_M_change_181 ?_
                  refine lv_iload_n hx hb qd_M_change_182 rfl (lv_at hl 3 rfl) ?_
                  refine mk_rw2 (y := nI ((4 * nv) + 1)) (by show ((nI 4) * (nI nv)) + (nI 1) = _; simp only [pk_mul, nI_add]) ?_
                  refine va_iast (i := (nI ((4 * nv) + 1))) (x := ky) hx hb hK hP hD hS 2 0 rfl rfl (vp_in_nI (by omega) (by omega)) qd_M_change_183 (fun H locs hP hD hS => ?_)
                  rw [show Int32.toNatClampNeg (nI ((4 * nv) + 1)) = ((4 * nv) + 1) from (nI_clamp (by omega))] at hP hD
                  have hP : va_P (dC, dI) vwCl (wM b cA cB (upd (upd (upd (upd y 0 0) 6 1) 21 0) 10 (nI (nv + 1))) ma (upd (upd ve (4 * nv) t) ((4 * nv) + 1) ky) rw jn ou fo go) H := hP
                  have hD : va_D A (wM b cA cB (upd (upd (upd (upd y 0 0) 6 1) 21 0) 10 (nI (nv + 1))) ma (upd (upd ve (4 * nv) t) ((4 * nv) + 1) ky) rw jn ou fo go) := hD
                  refine lv_aload_n hx hb qd_M_change_184 rfl (lv_at hl 1 rfl) ?_
                  refine va_get (D := (dC, dI)) (ci := 1) (v := .ref (b 2)) (C := qR_M) (T := qT_M) (N := 24) hx hb hts qin_M hown hK hP 0 rfl rfl 9 (by decide) (hts _ mw_411) (fun _ h9 => h9) rfl qd_M_change_185 ?_
                  refine lv_iconst (v := 4) hx hb qd_M_change_188 (by decide) ?_
                  refine lv_iload hx hb qd_M_change_189 (lv_at hl 0 rfl) ?_
                  refine lv_imul hx hb qd_M_change_191 ?_
                  refine lv_iconst (v := 2) hx hb qd_M_change_192 (by decide) ?_
                  refine lv_iadd hx hb qd_M_change_193 ?_
                  refine lv_iload_n hx hb qd_M_change_194 rfl (lv_at hl 4 rfl) ?_
                  refine mk_rw2 (y := nI ((4 * nv) + 2)) (by show ((nI 4) * (nI nv)) + (nI 2) = _; simp only [pk_mul, nI_add]) ?_
                  refine va_iast (i := (nI ((4 * nv) + 2))) (x := fr) hx hb hK hP hD hS 2 0 rfl rfl (vp_in_nI (by omega) (by omega)) qd_M_change_195 (fun H locs hP hD hS => ?_)
                  rw [show Int32.toNatClampNeg (nI ((4 * nv) + 2)) = ((4 * nv) + 2) from (nI_clamp (by omega))] at hP hD
                  have hP : va_P (dC, dI) vwCl (wM b cA cB (upd (upd (upd (upd y 0 0) 6 1) 21 0) 10 (nI (nv + 1))) ma (upd (upd (upd ve (4 * nv) t) ((4 * nv) + 1) ky) ((4 * nv) + 2) fr) rw jn ou fo go) H := hP
                  have hD : va_D A (wM b cA cB (upd (upd (upd (upd y 0 0) 6 1) 21 0) 10 (nI (nv + 1))) ma (upd (upd (upd ve (4 * nv) t) ((4 * nv) + 1) ky) ((4 * nv) + 2) fr) rw jn ou fo go) := hD
                  refine lv_aload_n hx hb qd_M_change_196 rfl (lv_at hl 1 rfl) ?_
                  refine va_get (D := (dC, dI)) (ci := 1) (v := .ref (b 2)) (C := qR_M) (T := qT_M) (N := 24) hx hb hts qin_M hown hK hP 0 rfl rfl 9 (by decide) (hts _ mw_411) (fun _ h9 => h9) rfl qd_M_change_197 ?_
                  refine lv_iconst (v := 4) hx hb qd_M_change_200 (by decide) ?_
                  refine lv_iload hx hb qd_M_change_201 (lv_at hl 0 rfl) ?_
                  refine lv_imul hx hb qd_M_change_203 ?_
                  refine lv_iconst (v := 3) hx hb qd_M_change_204 (by decide) ?_
                  refine lv_iadd hx hb qd_M_change_205 ?_
                  refine lv_iload hx hb qd_M_change_206 (lv_at hl 5 rfl) ?_
                  refine mk_rw2 (y := nI ((4 * nv) + 3)) (by show ((nI 4) * (nI nv)) + (nI 3) = _; simp only [pk_mul, nI_add]) ?_
                  refine va_iast (i := (nI ((4 * nv) + 3))) (x := vl) hx hb hK hP hD hS 2 0 rfl rfl (vp_in_nI (by omega) (by omega)) qd_M_change_208 (fun H locs hP hD hS => ?_)
                  rw [show Int32.toNatClampNeg (nI ((4 * nv) + 3)) = ((4 * nv) + 3) from (nI_clamp (by omega))] at hP hD
                  have hP : va_P (dC, dI) vwCl (wM b cA cB (upd (upd (upd (upd y 0 0) 6 1) 21 0) 10 (nI (nv + 1))) ma (upd (upd (upd (upd ve (4 * nv) t) ((4 * nv) + 1) ky) ((4 * nv) + 2) fr) ((4 * nv) + 3) vl) rw jn ou fo go) H := hP
                  have hD : va_D A (wM b cA cB (upd (upd (upd (upd y 0 0) 6 1) 21 0) 10 (nI (nv + 1))) ma (upd (upd (upd (upd ve (4 * nv) t) ((4 * nv) + 1) ky) ((4 * nv) + 2) fr) ((4 * nv) + 3) vl) rw jn ou fo go) := hD
                  have hP : va_P (dC, dI) vwCl (wM b cA cB (upd (upd (upd (upd y 0 0) 6 1) 21 0) 10 (nI (nv + 1))) ma (mv_new ve nv t ky fr vl) rw jn ou fo go) H := hP
                  have hD : va_D A (wM b cA cB (upd (upd (upd (upd y 0 0) 6 1) 21 0) 10 (nI (nv + 1))) ma (mv_new ve nv t ky fr vl) rw jn ou fo go) := hD
                  refine lv_aload_n hx hb qd_M_change_209 rfl (lv_at hl 1 rfl) ?_
                  refine mk_mcallv (wr := []) (wf := (fun u => (wM b cA cB u.1 ma (mv_new ve nv t ky fr vl) u.2.1 u.2.2.1 u.2.2.2.1 u.2.2.2.2 go))) (va_runV (As := []) (rest := []) ⟨hx, hb, hml, hown, hts⟩ (c_M_correct l dC dI cA H.size cB b (upd (upd (upd (upd y 0 0) 6 1) 21 0) 10 (nI (nv + 1))) ma (mv_new ve nv t ky fr vl) rw jn ou fo go (nv + 1) rfl hv1 nt hnt ht3 nr hnr hr96 rfl (mr_full_of hinc)) (cwV 0 hts gc_M_132 rfl rfl rfl (by decide +kernel) ⟨Nat.le_of_ble_eq_true rfl, Nat.le_of_ble_eq_true rfl⟩) (mk_muP hP hD [0, 1, 2, 3, 4, 5, 6, 7] (by decide) rfl hK (va_recv hK hP (ci := 1) (q0 := 0) rfl rfl)) rfl rfl hl.1 rfl (lv_room (Nat.le_of_ble_eq_true rfl)) qd_M_change_210 ⟨(Nat.zero_le _), (Nat.zero_le _)⟩) hS hA hP hD [0, 1, 2, 3, 4, 5, 6, 7] [] [0, 1, 2, 3, 4, 5, 6, 7] rfl rfl (by decide) (by decide) (by decide) (fun _ => rfl) (fun u_19 H locs hu_19 hP hD hS => ?_)
                  obtain ⟨y3, w3, j3, o3, f3⟩ := u_19
                  obtain ⟨hms, hno3, hmr, hj4⟩ : my_same (upd (upd (upd (upd y 0 0) 6 1) 21 0) 10 (nI (nv + 1))) y3 ∧ (∃ no, no ≤ 192 ∧ y3 21 = nI no) ∧ mrow rw w3 nr ∧ m4_keep rw w3 nr := hu_19
                  have hcore : my_core y y3 := my_coreS hms ⟨rfl, rfl, rfl, rfl, rfl⟩
                  have hnv3 : y3 10 = nI (nv + 1) := (hms 10 (by decide) (by decide) (by decide)).trans rfl
                  have hP : va_P (dC, dI) vwCl (wM b cA cB y3 ma (mv_new ve nv t ky fr vl) w3 j3 o3 f3 go) H := hP
                  have hD : va_D A (wM b cA cB y3 ma (mv_new ve nv t ky fr vl) w3 j3 o3 f3 go) := hD
                  refine lv_aload_n hx hb qd_M_change_213 rfl (lv_at hl 1 rfl) ?_
                  refine lv_iload_n hx hb qd_M_change_214 rfl (lv_at hl 2 rfl) ?_
                  refine lv_iload_n hx hb qd_M_change_215 rfl (lv_at hl 3 rfl) ?_
                  refine mk_calli (va_runV (As := [.int t, .int ky]) (rest := []) ⟨hx, hb, hml, hown, hts⟩ (c_M_manyOf l dC dI cA H.size cB b y3 ma (mv_new ve nv t ky fr vl) w3 j3 o3 f3 go (nv + 1) hnv3 hv1 t ky) (cwV 2 hts gc_M_135 rfl rfl rfl (by decide +kernel) ⟨Nat.le_of_ble_eq_true rfl, Nat.le_of_ble_eq_true rfl⟩) (mk_roV hP [0, 1, 2, 3, 4, 5, 6, 7] rfl hK (va_recv hK hP (ci := 1) (q0 := 0) rfl rfl)) rfl rfl hl.1 rfl (lv_room (Nat.le_of_ble_eq_true rfl)) qd_M_change_216 ⟨(Nat.zero_le _), (Nat.zero_le _)⟩) hS hA hP (fun r_20 H locs hr_20 hP hS => ?_)
                  exact mk_miret (y3, (mv_new ve nv t ky fr vl), w3, j3, o3, f3) hx hb hr hlocks hP hK hD hS qd_M_change_219 ⟨Or.inr ⟨mh_nbad c_2 c_4 c_6 c_8, t', by omega, et, Or.inr ⟨hinv, Or.inr ⟨hcore, hms 8 (by decide) (by decide) (by decide), hms 6 (by decide) (by decide) (by decide)⟩⟩⟩, mi_change hms hnt ht3 rfl hv1 hnr hr96 hcm hc3 rfl hinc hlc (mv_new_end hap hnone) hno3 hmr, ⟨nr, hnr, hr96, hms 13 (by decide) (by decide) (by decide), hms 14 (by decide) (by decide) (by decide), mq_keep hmr hj4⟩⟩
              · refine lv_bipush (v := (-3)) hx hb qd_M_change_126 (by decide) ?_
                exact mk_miret (upd y 0 0, ve, rw, jn, ou, fo) hx hb hr hlocks hP hK hD hS qd_M_change_128 ⟨Or.inr ⟨mh_nbad c_2 c_4 c_6 c_8, t', by omega, et, Or.inr ⟨hinv, Or.inl ⟨c_16, rfl, rfl⟩⟩⟩, mi_keep hok9 rfl rfl rfl rfl rfl rfl, ⟨nr, hnr, hr96, rfl, rfl, rfl⟩⟩
          · refine lv_iload_n hx hb qd_M_change_62 rfl (lv_at hl 3 rfl) ?_
            refine lv_aload_n hx hb qd_M_change_63 rfl (lv_at hl 0 rfl) ?_
            refine va_get (D := (dC, dI)) (ci := 1) (v := .ref (b 1)) (C := qR_M) (T := qT_M) (N := 24) hx hb hts qin_M hown hK hP 0 rfl rfl 7 (by decide) (hts _ mw_409) (fun _ h9 => h9) rfl qd_M_change_64 ?_
            refine lv_iload_n hx hb qd_M_change_67 rfl (lv_at hl 1 rfl) ?_
            refine mk_rw (y := nI t') (et) ?_
            refine va_iald (i := (nI t')) hx hb hK hP 1 0 rfl rfl (vp_in_nI (by omega) (by omega)) qd_M_change_68 ?_
            refine mk_rw (y := ma t') (congrArg _ (nI_clamp (by omega))) ?_
            refine lv_icmp_gt (tgt := 100) hx hb qd_M_change_69 (by decide) (fun c_21 => ?_) (fun c_21 => ?_)
            · exact J_9 () H locs ls ⟨fun q => q.1 c_21, hP, hD, hS, lv_sub hl [0, 1, 2, 3, 4] rfl⟩
            · refine lv_aload_n hx hb qd_M_change_72 rfl (lv_at hl 0 rfl) ?_
              refine va_get (D := (dC, dI)) (ci := 1) (v := .int (y 3)) (C := qR_M) (T := qT_M) (N := 24) hx hb hts qin_M hown hK hP 0 rfl rfl 3 (by decide) (hts _ mw_405) (fun _ h9 => h9) rfl qd_M_change_73 ?_
              refine lv_if_eq (tgt := 87) hx hb qd_M_change_76 (by decide) (fun c_22 => ?_) (fun c_22 => ?_)
              · refine lv_aload_n hx hb qd_M_change_87 rfl (lv_at hl 0 rfl) ?_
                refine lv_dup hx hb qd_M_change_88 rfl ?_
                refine va_get (D := (dC, dI)) (ci := 1) (v := .int (y 19)) (C := qR_M) (T := qT_M) (N := 24) hx hb hts qin_M hown hK hP 0 rfl rfl 19 (by decide) (hts _ mw_421) (fun _ h9 => h9) rfl qd_M_change_89 ?_
                refine lv_iconst (v := 1) hx hb qd_M_change_92 (by decide) ?_
                refine lv_iadd hx hb qd_M_change_93 ?_
                refine va_put (D := (dC, dI)) (ci := 1) (v := .int ((y 19) + 1)) (ty := .int) (C := qR_M) (T := qT_M) (N := 24) hx hb hts qin_M qty_M qtyok_M qnm_M hown hK hP hD hS 0 rfl rfl 19 (by decide) (hts _ mw_421) (fun _ h9 => h9) rfl (by decide +kernel) rfl rfl (Nat.le_of_ble_eq_true rfl) qd_M_change_94 (fun H locs hP hD hS => ?_)
                have hP : va_P (dC, dI) vwCl (wM b cA cB (upd (upd y 0 0) 19 ((y 19) + 1)) ma ve rw jn ou fo go) H := hP
                have hD : va_D A (wM b cA cB (upd (upd y 0 0) 19 ((y 19) + 1)) ma ve rw jn ou fo go) := hD
                refine lv_bipush (v := (-4)) hx hb qd_M_change_97 (by decide) ?_
                exact mk_miret (upd (upd y 0 0) 19 (y 19 + 1), ve, rw, jn, ou, fo) hx hb hr hlocks hP hK hD hS qd_M_change_99 ⟨Or.inr ⟨mh_nbad c_2 c_4 c_6 c_8, t', by omega, et, Or.inl ⟨⟨c_21, Or.inl c_22⟩, rfl, rfl⟩⟩, mi_keep hok9 rfl rfl rfl rfl rfl rfl, ⟨nr, hnr, hr96, rfl, rfl, rfl⟩⟩
              · refine lv_iload_n hx hb qd_M_change_79 rfl (lv_at hl 3 rfl) ?_
                refine lv_aload_n hx hb qd_M_change_80 rfl (lv_at hl 0 rfl) ?_
                refine mk_calli (va_runV (As := []) (rest := [.int fr]) ⟨hx, hb, hml, hown, hts⟩ (c_M_horizon l dC dI cA H.size cB b (upd y 0 0) ma ve rw jn ou fo go) (cwV 0 hts gc_M_122 rfl rfl rfl (by decide +kernel) ⟨Nat.le_of_ble_eq_true rfl, Nat.le_of_ble_eq_true rfl⟩) (mk_roV hP [0, 1, 2, 3, 4, 5, 6, 7] rfl hK (va_recv hK hP (ci := 1) (q0 := 0) rfl rfl)) rfl rfl hl.1 rfl (lv_room (Nat.le_of_ble_eq_true rfl)) qd_M_change_81 ⟨(Nat.zero_le _), (Nat.zero_le _)⟩) hS hA hP (fun r_23 H locs hr_23 hP hS => ?_)
                obtain rfl : r_23 = y 8 - y 5 := hr_23
                refine lv_icmp_gt (tgt := 100) hx hb qd_M_change_84 (by decide) (fun c_24 => ?_) (fun c_24 => ?_)
                · exact J_9 () H locs ls ⟨fun q => q.2.elim c_22 (fun z => z c_24), hP, hD, hS, lv_sub hl [0, 1, 2, 3, 4] rfl⟩
                · refine lv_aload_n hx hb qd_M_change_87 rfl (lv_at hl 0 rfl) ?_
                  refine lv_dup hx hb qd_M_change_88 rfl ?_
                  refine va_get (D := (dC, dI)) (ci := 1) (v := .int (y 19)) (C := qR_M) (T := qT_M) (N := 24) hx hb hts qin_M hown hK hP 0 rfl rfl 19 (by decide) (hts _ mw_421) (fun _ h9 => h9) rfl qd_M_change_89 ?_
                  refine lv_iconst (v := 1) hx hb qd_M_change_92 (by decide) ?_
                  refine lv_iadd hx hb qd_M_change_93 ?_
                  refine va_put (D := (dC, dI)) (ci := 1) (v := .int ((y 19) + 1)) (ty := .int) (C := qR_M) (T := qT_M) (N := 24) hx hb hts qin_M qty_M qtyok_M qnm_M hown hK hP hD hS 0 rfl rfl 19 (by decide) (hts _ mw_421) (fun _ h9 => h9) rfl (by decide +kernel) rfl rfl (Nat.le_of_ble_eq_true rfl) qd_M_change_94 (fun H locs hP hD hS => ?_)
                  have hP : va_P (dC, dI) vwCl (wM b cA cB (upd (upd y 0 0) 19 ((y 19) + 1)) ma ve rw jn ou fo go) H := hP
                  have hD : va_D A (wM b cA cB (upd (upd y 0 0) 19 ((y 19) + 1)) ma ve rw jn ou fo go) := hD
                  refine lv_bipush (v := (-4)) hx hb qd_M_change_97 (by decide) ?_
                  exact mk_miret (upd (upd y 0 0) 19 (y 19 + 1), ve, rw, jn, ou, fo) hx hb hr hlocks hP hK hD hS qd_M_change_99 ⟨Or.inr ⟨mh_nbad c_2 c_4 c_6 c_8, t', by omega, et, Or.inl ⟨⟨c_21, Or.inr c_24⟩, rfl, rfl⟩⟩, mi_keep hok9 rfl rfl rfl rfl rfl rfl, ⟨nr, hnr, hr96, rfl, rfl, rfl⟩⟩
        · refine lv_iconst (v := (-1)) hx hb qd_M_change_60 (by decide) ?_
          exact mk_miret (upd y 0 0, ve, rw, jn, ou, fo) hx hb hr hlocks hP hK hD hS qd_M_change_61 ⟨Or.inl ⟨Or.inr (Or.inr (Or.inr (c_8))), rfl, rfl⟩, mi_keep hok9 rfl rfl rfl rfl rfl rfl, ⟨nr, hnr, hr96, rfl, rfl, rfl⟩⟩
