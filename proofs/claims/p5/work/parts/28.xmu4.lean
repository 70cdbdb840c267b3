set_option maxHeartbeats 4000000 in
set_option maxRecDepth 100000 in
/-- correctRows(key) -/
theorem c_X_correctRows (l : Launch) (dC : Nat → ClassId) (dI : Nat → Nat → Nat) (cA : ClassId) (sz : Nat) (a : Nat → Nat) (x ru ma jo : Nat → Int32) (gv tk : Int32) (fV : Nat → Int32) (fR : Nat → Int32) (fO : Nat → Int32) (V R Lo : List (Nat → Int32)) (hV : sh_wf 3 160 fV V) (hR : sh_wf 12 96 fR R) (hO : sh_wf 11 192 fO Lo) (hcuts : ∀ pl fr, ∃ k, vs_cut V pl fr k) (n3 : Nat) (hn3 : x 6 = nI n3) (h3 : n3 ≤ 3) (hkeys : ∀ (i : Nat) (r : Nat → Int32), R[i]? = some r → ∃ kn, kn < 16 ∧ r 1 = nI kn) (ky : Int32) (hroom : Lo.length + 2 * R.length ≤ 192) : Met l qy_X_correctRows qw_X_correctRows ({ frames := 5, cells := 0, slots := 0, locals := 150 }) (mk_mu [.ref (a 0), .int ky] sz (dC, dI) vwCl [(cA, .int)] (wX a cA x ru ma jo gv tk V.length fV R.length fR Lo.length fO)) (mk_muV (S := (Nat → Int32) × (List (Nat → Int32) × (Nat → Int32)) × (List (Nat → Int32) × (Nat → Int32)) × Int32 × Int32) (fun u => u.2.1.1 = R.map (cw_row V ru n3 ky) ∧ sh_ok 12 u.2.1.2 u.2.1.1 ∧ u.2.2.1.1 = Lo ++ R.flatMap (cw_o V ru n3 ky) ∧ sh_ok 11 u.2.2.1.2 u.2.2.1.1 ∧ u.2.2.2.1 = gv + nI (sw_n (cw_dg V ru n3 ky) R R.length) ∧ u.2.2.2.2 = tk + nI (sw_n (cw_dt V ru ky) R R.length)) (fun u => (wX a cA x ru ma u.1 u.2.2.2.1 u.2.2.2.2 V.length fV u.2.1.1.length u.2.1.2 u.2.2.1.1.length u.2.2.1.2)) (dC, dI) vwCl [(cA, .int)] (va_A (wX a cA x ru ma jo gv tk V.length fV R.length fR Lo.length fO) sz)) 0 0 (va_A (wX a cA x ru ma jo gv tk V.length fV R.length fR Lo.length fO) sz) := by
  refine Met.ofW (cc := qb_X_correctRows) (maxL := 3) (ret := none) (by decide) rfl ?_
  intro p e s m args below meth c s₁ B hml hpre
  obtain ⟨rfl, hsz, hP, hK, hD0⟩ := hpre
  have hx := B.exec
  have hb := B.bytes
  have hr := B.returns
  have hts0 := atoms_spec (ws := qw_X_correctRows) B.pre
  have hts := fun w (h : w ∈ lw_gd) => hts0 w (List.mem_cons_of_mem _ h)
  have hown : s.vm.findClass qR_X = some m.cls := findClass_of_methodNamed B.named
  have hlocks := B.notSynchronized
  subst hsz
  have hD := hD0.self (sz := s.heap.size)
  generalize hAe : va_A (wX a cA x ru ma jo gv tk V.length fV R.length fR Lo.length fO) s.heap.size = A at hD ⊢
  have hA : ∀ q : Nat, s.heap.size ≤ q → A q := fun q h => by rw [← hAe]; exact Or.inr h
  have hS : va_S A s.heap s.heap [] := va_S.rf
  have hl := lv_entry ([.ref (a 0), .int ky]) (n := 3) (Nat.le_of_ble_eq_true rfl)
  rw [lg_entry_eq]
  generalize (lg_sl ([.ref (a 0), .int ky]) ++ List.replicate (3 - (lg_sl ([.ref (a 0), .int ky])).length) Slot.unset).toArray = ls at hl ⊢
  have hl : lv_has ls 3 [(0, .ref (a 0)), (1, .int ky)] := hl
  have hP : va_P (dC, dI) vwCl (wX a cA x ru ma jo gv tk V.length fV R.length fR Lo.length fO) s.heap := hP
  refine mk_start (A := A) hP (fun H locs hP hS => ?_)
  obtain ⟨hok, hlen, -, -, -⟩ := id hR
  obtain ⟨hokO0, hlenO, -, -, -⟩ := id hO
  refine lv_iconst (v := 0) hx hb qd_X_correctRows_0 (by decide) ?_
  refine mk_rw (y := nI 0) (rfl) ?_
  refine lv_istore_n (lv' := [(2, .int (nI 0)), (0, .ref (a 0)), (1, .int ky)]) hx hb qd_X_correctRows_1 rfl hl (by decide) rfl (fun ls hl => ?_)
  have hP : va_P (dC, dI) vwCl (wX a cA x ru ma jo (gv + nI (sw_n (cw_dg V ru n3 ky) R 0)) (tk + nI (sw_n (cw_dt V ru ky) R 0)) V.length fV ((sw_r (cw_row V ru n3 ky) R 0).length) fR ((sw_o (cw_o V ru n3 ky) Lo R 0).length) fO) H := by rw [sw_r_0, sw_o_0, sw_n_0, sw_n_0, show gv + nI 0 = gv from Int32.add_zero gv, show tk + nI 0 = tk from Int32.add_zero tk]; exact hP
  have hD : va_D A (wX a cA x ru ma jo (gv + nI (sw_n (cw_dg V ru n3 ky) R 0)) (tk + nI (sw_n (cw_dt V ru ky) R 0)) V.length fV ((sw_r (cw_row V ru n3 ky) R 0).length) fR ((sw_o (cw_o V ru n3 ky) Lo R 0).length) fO) := by rw [sw_r_0, sw_o_0, sw_n_0, sw_n_0, show gv + nI 0 = gv from Int32.add_zero gv, show tk + nI 0 = tk from Int32.add_zero tk]; exact hD
  refine mk_loop (σ := Nat × (Nat → Int32) × (Nat → Int32) × (Nat → Int32)) (fun n y9 H locs ls => (y9.1 + n = R.length ∧ sh_ok 12 y9.2.2.1 (sw_r (cw_row V ru n3 ky) R y9.1) ∧ sh_ok 11 y9.2.2.2 (sw_o (cw_o V ru n3 ky) Lo R y9.1)) ∧ va_P (dC, dI) vwCl (wX a cA x ru ma y9.2.1 (gv + nI (sw_n (cw_dg V ru n3 ky) R y9.1)) (tk + nI (sw_n (cw_dt V ru ky) R y9.1)) V.length fV ((sw_r (cw_row V ru n3 ky) R y9.1).length) y9.2.2.1 ((sw_o (cw_o V ru n3 ky) Lo R y9.1).length) y9.2.2.2) H ∧ va_D A (wX a cA x ru ma y9.2.1 (gv + nI (sw_n (cw_dg V ru n3 ky) R y9.1)) (tk + nI (sw_n (cw_dt V ru ky) R y9.1)) V.length fV ((sw_r (cw_row V ru n3 ky) R y9.1).length) y9.2.2.1 ((sw_o (cw_o V ru n3 ky) Lo R y9.1).length) y9.2.2.2) ∧ va_S A s.heap H locs ∧ lv_has ls 3 [(0, .ref (a 0)), (1, .int ky), (2, .int (nI y9.1))]) (fun ls => F0 m 2 ls []) (fun n y9 H locs ls hI ih_1 => ?_) (fun y9 H locs ls hI => ?_) R.length (0, jo, fR, fO) H locs ls ⟨⟨Nat.zero_add _, by rw [sw_r_0]; exact hR.1, by rw [sw_o_0]; exact hO.1⟩, hP, hD, hS, lv_sub hl [1, 2, 0] rfl⟩
  · obtain ⟨i, j1, f1, f2⟩ := y9
    obtain ⟨hinv, hP, hD, hS, hl⟩ := hI
    have hinv : i + (n + 1) = R.length ∧ sh_ok 12 f1 (sw_r (cw_row V ru n3 ky) R i) ∧ sh_ok 11 f2 (sw_o (cw_o V ru n3 ky) Lo R i) := hinv
    have hP : va_P (dC, dI) vwCl (wX a cA x ru ma j1 (gv + nI (sw_n (cw_dg V ru n3 ky) R i)) (tk + nI (sw_n (cw_dt V ru ky) R i)) V.length fV ((sw_r (cw_row V ru n3 ky) R i).length) f1 ((sw_o (cw_o V ru n3 ky) Lo R i).length) f2) H := hP
    have hD : va_D A (wX a cA x ru ma j1 (gv + nI (sw_n (cw_dg V ru n3 ky) R i)) (tk + nI (sw_n (cw_dt V ru ky) R i)) V.length fV ((sw_r (cw_row V ru n3 ky) R i).length) f1 ((sw_o (cw_o V ru n3 ky) Lo R i).length) f2) := hD
    have hl : lv_has ls 3 [(0, .ref (a 0)), (1, .int ky), (2, .int (nI i))] := hl
    obtain ⟨ha, hok1, hok2⟩ := hinv
    have hlt : i < R.length := by omega
    have hlr : (sw_r (cw_row V ru n3 ky) R i).length = R.length := sw_r_len (Nat.le_of_lt hlt)
    have hwr : sh_wf 12 96 f1 (sw_r (cw_row V ru n3 ky) R i) := ⟨hok1, by omega, by decide, by decide, by decide⟩
    have hat := sw_r_at (F := (cw_row V ru n3 ky)) hlt
    have hol := sw_o_len (Gx := (cw_o V ru n3 ky)) (Lo := Lo) (R := R) (k := 2) (cw_o_len V ru n3 ky) i (Nat.le_of_lt hlt)
    have hwo : sh_wf 11 192 f2 (sw_o (cw_o V ru n3 ky) Lo R i) := ⟨hok2, by omega, by decide, by decide, by decide⟩
    refine lv_iload_n hx hb qd_X_correctRows_2 rfl (lv_at hl 2 rfl) ?_
    refine lv_aload_n hx hb qd_X_correctRows_3 rfl (lv_at hl 0 rfl) ?_
    refine va_get (D := (dC, dI)) (ci := 0) (v := .ref (a 7)) (C := qR_X) (T := qT_X) (N := 13) hx hb hts qin_X hown hK hP 0 rfl rfl 3 (by decide) (hts _ mw_119) (fun _ h9 => h9) rfl qd_X_correctRows_4 ?_
    refine mk_calli (va_runV (As := []) (rest := [.int (nI i)]) ⟨hx, hb, hml, hown, hts⟩ (c_R_size l dC dI cA H.size (a 7) (a 8) (a 9) f1 (sw_r (cw_row V ru n3 ky) R i) hwr) (cwV 0 hts gc_X_94 rfl rfl rfl (by decide +kernel) ⟨Nat.le_of_ble_eq_true rfl, Nat.le_of_ble_eq_true rfl⟩) (mk_roV hP [7, 8, 9] rfl hK (va_recv hK hP (ci := 3) (q0 := 7) rfl rfl)) rfl rfl hl.1 rfl (lv_room (Nat.le_of_ble_eq_true rfl)) qd_X_correctRows_7 ⟨(Nat.zero_le _), (Nat.zero_le _)⟩) hS hA hP (fun r_2 H locs hr_2 hP hS => ?_)
    obtain rfl : r_2 = nI R.length := Eq.trans hr_2 (congrArg nI hlr)
    refine lv_icmp_ge (tgt := 48) hx hb qd_X_correctRows_10 (by decide) (fun c_3 => ?_) (fun c_3 => ?_)
    · exact absurd c_3 (nI_ge hlt (by omega))
    · refine lv_aload_n hx hb qd_X_correctRows_13 rfl (lv_at hl 0 rfl) ?_
      refine va_get (D := (dC, dI)) (ci := 0) (v := .ref (a 7)) (C := qR_X) (T := qT_X) (N := 13) hx hb hts qin_X hown hK hP 0 rfl rfl 3 (by decide) (hts _ mw_119) (fun _ h9 => h9) rfl qd_X_correctRows_14 ?_
      refine lv_iload_n hx hb qd_X_correctRows_17 rfl (lv_at hl 2 rfl) ?_
      refine lv_iconst (v := 1) hx hb qd_X_correctRows_18 (by decide) ?_
      refine mk_calli (va_runV (As := [.int (nI i), .int 1]) (rest := []) ⟨hx, hb, hml, hown, hts⟩ (c_R_get l dC dI cA H.size (a 7) (a 8) (a 9) f1 (sw_r (cw_row V ru n3 ky) R i) hwr (nI i) 1) (cwV 2 hts gc_X_129 rfl rfl rfl (by decide +kernel) ⟨Nat.le_of_ble_eq_true rfl, Nat.le_of_ble_eq_true rfl⟩) (mk_roV hP [7, 8, 9] rfl hK (va_recv hK hP (ci := 3) (q0 := 7) rfl rfl)) rfl rfl hl.1 rfl (lv_room (Nat.le_of_ble_eq_true rfl)) qd_X_correctRows_19 ⟨(Nat.zero_le _), (Nat.zero_le _)⟩) hS hA hP (fun r_4 H locs hr_4 hP hS => ?_)
      obtain rfl : r_4 = (R[i]'hlt) 1 := Eq.trans hr_4 (sh_get_in (by omega) (by decide) hat (by decide))
      refine lv_iload_n hx hb qd_X_correctRows_22 rfl (lv_at hl 1 rfl) ?_
      refine lv_icmp_ne (tgt := 42) hx hb qd_X_correctRows_23 (by decide) (fun c_5 => ?_) (fun c_5 => ?_)
      · refine lv_iinc (v := nI (i + 1)) (lv' := [(2, .int (nI (i + 1))), (0, .ref (a 0)), (1, .int ky)]) hx hb qd_X_correctRows_42 hl (k := 2) rfl (mk_inc i) (by decide) rfl (fun ls hl => ?_)
        refine lv_goto (tgt := 2) hx hb qd_X_correctRows_45 (by decide) ?_
        have hcn : ¬ cw_c ky (R[i]'hlt) = true := cw_n1 c_5
        have eR : sw_r (cw_row V ru n3 ky) R (i + 1) = sw_r (cw_row V ru n3 ky) R i := sw_r_skip hlt (if_neg hcn)
        have eO : sw_o (cw_o V ru n3 ky) Lo R (i + 1) = sw_o (cw_o V ru n3 ky) Lo R i := by rw [sw_o_s hlt, show (cw_o V ru n3 ky) (R[i]'hlt) = [] from if_neg hcn, List.append_nil]
        have eN : sw_n (cw_dg V ru n3 ky) R (i + 1) = sw_n (cw_dg V ru n3 ky) R i := by rw [sw_n_s hlt, show (cw_dg V ru n3 ky) (R[i]'hlt) = 0 from if_neg hcn, Nat.add_zero]
        have eM : sw_n (cw_dt V ru ky) R (i + 1) = sw_n (cw_dt V ru ky) R i := by rw [sw_n_s hlt, show (cw_dt V ru ky) (R[i]'hlt) = 0 from if_neg hcn, Nat.add_zero]
        rw [← eR] at hok1
        rw [← eO] at hok2
        rw [← eR, ← eO, ← eN, ← eM] at hP hD
        exact ih_1 ((i + 1), j1, f1, f2) H locs ls ⟨⟨by omega, hok1, hok2⟩, hP, hD, hS, lv_sub hl [1, 2, 0] rfl⟩
      · refine lv_aload_n hx hb qd_X_correctRows_26 rfl (lv_at hl 0 rfl) ?_
        refine va_get (D := (dC, dI)) (ci := 0) (v := .ref (a 7)) (C := qR_X) (T := qT_X) (N := 13) hx hb hts qin_X hown hK hP 0 rfl rfl 3 (by decide) (hts _ mw_119) (fun _ h9 => h9) rfl qd_X_correctRows_27 ?_
        refine lv_iload_n hx hb qd_X_correctRows_30 rfl (lv_at hl 2 rfl) ?_
        refine mk_calli (va_runV (As := [.int (nI i)]) (rest := []) ⟨hx, hb, hml, hown, hts⟩ (c_R_waits l dC dI cA H.size (a 7) (a 8) (a 9) f1 (sw_r (cw_row V ru n3 ky) R i) hwr (nI i)) (cwV 1 hts gc_X_156 rfl rfl rfl (by decide +kernel) ⟨Nat.le_of_ble_eq_true rfl, Nat.le_of_ble_eq_true rfl⟩) (mk_roV hP [7, 8, 9] rfl hK (va_recv hK hP (ci := 3) (q0 := 7) rfl rfl)) rfl rfl hl.1 rfl (lv_room (Nat.le_of_ble_eq_true rfl)) qd_X_correctRows_31 ⟨(Nat.zero_le _), (Nat.zero_le _)⟩) hS hA hP (fun r_6 H locs hr_6 hP hS => ?_)
        obtain rfl : r_6 = if (R[i]'hlt) 4 = 1 then 1 else 0 := Eq.trans hr_6 (by rw [show sh_get 12 (sw_r (cw_row V ru n3 ky) R i) (nI i) 4 = (R[i]'hlt) 4 from sh_get_in (by omega) (by decide) hat (by decide)])
        refine lv_if_ne (tgt := 42) hx hb qd_X_correctRows_34 (by decide) (fun c_7 => ?_) (fun c_7 => ?_)
        · refine lv_iinc (v := nI (i + 1)) (lv' := [(2, .int (nI (i + 1))), (0, .ref (a 0)), (1, .int ky)]) hx hb qd_X_correctRows_42 hl (k := 2) rfl (mk_inc i) (by decide) rfl (fun ls hl => ?_)
          refine lv_goto (tgt := 2) hx hb qd_X_correctRows_45 (by decide) ?_
          have hcn : ¬ cw_c ky (R[i]'hlt) = true := cw_n2 (rs_n2 c_7)
          have eR : sw_r (cw_row V ru n3 ky) R (i + 1) = sw_r (cw_row V ru n3 ky) R i := sw_r_skip hlt (if_neg hcn)
          have eO : sw_o (cw_o V ru n3 ky) Lo R (i + 1) = sw_o (cw_o V ru n3 ky) Lo R i := by rw [sw_o_s hlt, show (cw_o V ru n3 ky) (R[i]'hlt) = [] from if_neg hcn, List.append_nil]
          have eN : sw_n (cw_dg V ru n3 ky) R (i + 1) = sw_n (cw_dg V ru n3 ky) R i := by rw [sw_n_s hlt, show (cw_dg V ru n3 ky) (R[i]'hlt) = 0 from if_neg hcn, Nat.add_zero]
          have eM : sw_n (cw_dt V ru ky) R (i + 1) = sw_n (cw_dt V ru ky) R i := by rw [sw_n_s hlt, show (cw_dt V ru ky) (R[i]'hlt) = 0 from if_neg hcn, Nat.add_zero]
          rw [← eR] at hok1
          rw [← eO] at hok2
          rw [← eR, ← eO, ← eN, ← eM] at hP hD
          exact ih_1 ((i + 1), j1, f1, f2) H locs ls ⟨⟨by omega, hok1, hok2⟩, hP, hD, hS, lv_sub hl [1, 2, 0] rfl⟩
        · obtain ⟨kn, hkn, ekn⟩ := hkeys i (R[i]'hlt) (List.getElem?_eq_getElem hlt)
          refine lv_aload_n hx hb qd_X_correctRows_37 rfl (lv_at hl 0 rfl) ?_
          refine lv_iload_n hx hb qd_X_correctRows_38 rfl (lv_at hl 2 rfl) ?_
          refine mk_mcallv (wr := []) (wf := (fun u => (wX a cA x ru ma u.1 u.2.2.2.1 u.2.2.2.2 V.length fV u.2.1.1.length u.2.1.2 u.2.2.1.1.length u.2.2.1.2))) (va_runV (As := [.int (nI i)]) (rest := []) ⟨hx, hb, hml, hown, hts⟩ (c_X_correctRow l dC dI cA H.size a x ru ma j1 (gv + nI (sw_n (cw_dg V ru n3 ky) R i)) (tk + nI (sw_n (cw_dt V ru ky) R i)) fV f1 f2 V (sw_r (cw_row V ru n3 ky) R i) (sw_o (cw_o V ru n3 ky) Lo R i) hV hwr hwo hcuts n3 hn3 h3 i (R[i]'hlt) hat kn hkn ekn (by omega)) (cwV 1 hts gc_X_177 rfl rfl rfl (by decide +kernel) ⟨Nat.le_of_ble_eq_true rfl, Nat.le_of_ble_eq_true rfl⟩) (mk_muP hP hD [0, 1, 2, 3, 4, 5, 6, 7, 8, 9, 10, 11, 12] (by decide) rfl hK (va_recv hK hP (ci := 0) (q0 := 0) rfl rfl)) rfl rfl hl.1 rfl (lv_room (Nat.le_of_ble_eq_true rfl)) qd_X_correctRows_39 ⟨(Nat.zero_le _), (Nat.zero_le _)⟩) hS hA hP hD [0, 1, 2, 3, 4, 5, 6, 7, 8, 9, 10, 11, 12] [] [0, 1, 2, 3, 4, 5, 6, 7, 8, 9, 10, 11, 12] rfl rfl (by decide) (by decide) (by decide) (fun _ => rfl) (fun u_9 H locs hu_9 hP hD hS => ?_)
          obtain ⟨j2, ⟨R1, f3⟩, ⟨Q1, f4⟩, g1, k1⟩ := u_9
          obtain ⟨eR, hok3, eO, hok4, eg, ek⟩ : R1 = (sw_r (cw_row V ru n3 ky) R i).set i (cr_new V ru n3 (R[i]'hlt)) ∧ sh_ok 12 f3 R1 ∧ Q1 = sw_o (cw_o V ru n3 ky) Lo R i ++ cr_o V ru n3 (R[i]'hlt) ∧ sh_ok 11 f4 Q1 ∧ g1 = (gv + nI (sw_n (cw_dg V ru n3 ky) R i)) + nI (cr_dg V ru n3 (R[i]'hlt)) ∧ k1 = (tk + nI (sw_n (cw_dt V ru ky) R i)) + nI (cr_dt V ru (R[i]'hlt)) := hu_9
          have hcy : cw_c ky (R[i]'hlt) = true := decide_eq_true ⟨c_5, rs_n1 c_7⟩
          rw [← show (cw_row V ru n3 ky) (R[i]'hlt) = cr_new V ru n3 (R[i]'hlt) from if_pos hcy, sw_r_set hlt] at eR
          rw [← show (cw_o V ru n3 ky) (R[i]'hlt) = cr_o V ru n3 (R[i]'hlt) from if_pos hcy, ← sw_o_s hlt] at eO
          rw [← show (cw_dg V ru n3 ky) (R[i]'hlt) = cr_dg V ru n3 (R[i]'hlt) from if_pos hcy, Int32.add_assoc, nI_add, ← sw_n_s hlt] at eg
          rw [← show (cw_dt V ru ky) (R[i]'hlt) = cr_dt V ru (R[i]'hlt) from if_pos hcy, Int32.add_assoc, nI_add, ← sw_n_s hlt] at ek
          subst eR; subst eO; subst eg; subst ek
          have hP : va_P (dC, dI) vwCl (wX a cA x ru ma j2 (gv + nI (sw_n (cw_dg V ru n3 ky) R (i + 1))) (tk + nI (sw_n (cw_dt V ru ky) R (i + 1))) V.length fV ((sw_r (cw_row V ru n3 ky) R (i + 1)).length) f3 ((sw_o (cw_o V ru n3 ky) Lo R (i + 1)).length) f4) H := hP
          have hD : va_D A (wX a cA x ru ma j2 (gv + nI (sw_n (cw_dg V ru n3 ky) R (i + 1))) (tk + nI (sw_n (cw_dt V ru ky) R (i + 1))) V.length fV ((sw_r (cw_row V ru n3 ky) R (i + 1)).length) f3 ((sw_o (cw_o V ru n3 ky) Lo R (i + 1)).length) f4) := hD
          refine lv_iinc (v := nI (i + 1)) (lv' := [(2, .int (nI (i + 1))), (0, .ref (a 0)), (1, .int ky)]) hx hb qd_X_correctRows_42 hl (k := 2) rfl (mk_inc i) (by decide) rfl (fun ls hl => ?_)
          refine lv_goto (tgt := 2) hx hb qd_X_correctRows_45 (by decide) ?_
          exact ih_1 ((i + 1), j2, f3, f4) H locs ls ⟨⟨by omega, hok3, hok4⟩, hP, hD, hS, lv_sub hl [1, 2, 0] rfl⟩
  · obtain ⟨i, j1, f1, f2⟩ := y9
    obtain ⟨hinv, hP, hD, hS, hl⟩ := hI
    have hinv : i + 0 = R.length ∧ sh_ok 12 f1 (sw_r (cw_row V ru n3 ky) R i) ∧ sh_ok 11 f2 (sw_o (cw_o V ru n3 ky) Lo R i) := hinv
    have hP : va_P (dC, dI) vwCl (wX a cA x ru ma j1 (gv + nI (sw_n (cw_dg V ru n3 ky) R i)) (tk + nI (sw_n (cw_dt V ru ky) R i)) V.length fV ((sw_r (cw_row V ru n3 ky) R i).length) f1 ((sw_o (cw_o V ru n3 ky) Lo R i).length) f2) H := hP
    have hD : va_D A (wX a cA x ru ma j1 (gv + nI (sw_n (cw_dg V ru n3 ky) R i)) (tk + nI (sw_n (cw_dt V ru ky) R i)) V.length fV ((sw_r (cw_row V ru n3 ky) R i).length) f1 ((sw_o (cw_o V ru n3 ky) Lo R i).length) f2) := hD
    have hl : lv_has ls 3 [(0, .ref (a 0)), (1, .int ky), (2, .int (nI i))] := hl
    obtain ⟨ha, hok1, hok2⟩ := hinv
    have ei : i = R.length := by omega
    have hlr : (sw_r (cw_row V ru n3 ky) R i).length = R.length := sw_r_len (by omega)
    have hwr : sh_wf 12 96 f1 (sw_r (cw_row V ru n3 ky) R i) := ⟨hok1, by omega, by decide, by decide, by decide⟩
    refine lv_iload_n hx hb qd_X_correctRows_2 rfl (lv_at hl 2 rfl) ?_
    refine lv_aload_n hx hb qd_X_correctRows_3 rfl (lv_at hl 0 rfl) ?_
    refine va_get (D := (dC, dI)) (ci := 0) (v := .ref (a 7)) (C := qR_X) (T := qT_X) (N := 13) hx hb hts qin_X hown hK hP 0 rfl rfl 3 (by decide) (hts _ mw_119) (fun _ h9 => h9) rfl qd_X_correctRows_4 ?_
    refine mk_calli (va_runV (As := []) (rest := [.int (nI i)]) ⟨hx, hb, hml, hown, hts⟩ (c_R_size l dC dI cA H.size (a 7) (a 8) (a 9) f1 (sw_r (cw_row V ru n3 ky) R i) hwr) (cwV 0 hts gc_X_94 rfl rfl rfl (by decide +kernel) ⟨Nat.le_of_ble_eq_true rfl, Nat.le_of_ble_eq_true rfl⟩) (mk_roV hP [7, 8, 9] rfl hK (va_recv hK hP (ci := 3) (q0 := 7) rfl rfl)) rfl rfl hl.1 rfl (lv_room (Nat.le_of_ble_eq_true rfl)) qd_X_correctRows_7 ⟨(Nat.zero_le _), (Nat.zero_le _)⟩) hS hA hP (fun r_10 H locs hr_10 hP hS => ?_)
    obtain rfl : r_10 = nI R.length := Eq.trans hr_10 (congrArg nI hlr)
    refine lv_icmp_ge (tgt := 48) hx hb qd_X_correctRows_10 (by decide) (fun c_11 => ?_) (fun c_11 => ?_)
    · subst ei
      rw [sw_r_all, sw_o_all] at hP hD
      rw [sw_r_all] at hok1
      rw [sw_o_all] at hok2
      exact mk_mvret (j1, (R.map (cw_row V ru n3 ky), f1), (Lo ++ R.flatMap (cw_o V ru n3 ky), f2), (gv + nI (sw_n (cw_dg V ru n3 ky) R R.length)), (tk + nI (sw_n (cw_dt V ru ky) R R.length))) hx hb hr hlocks hP hK hD hS qd_X_correctRows_48 ⟨rfl, hok1, rfl, hok2, rfl, rfl⟩
    · exact absurd (nI_le (by omega) (by omega)) c_11
set_option maxHeartbeats 4000000 in
set_option maxRecDepth 100000 in
/-- begin() -/
theorem c_X_begin (l : Launch) (dC : Nat → ClassId) (dI : Nat → Nat → Nat) (cA : ClassId) (sz : Nat) (a : Nat → Nat) (x ru ma jo : Nat → Int32) (gv tk : Int32) (kV : Nat) (fV : Nat → Int32) (kR : Nat) (fR : Nat → Int32) (fO : Nat → Int32) (Lo : List (Nat → Int32)) (hO : sh_wf 11 192 fO Lo) : Met l qy_X_begin qw_X_begin ({ frames := 2, cells := 0, slots := 0, locals := 40 }) (mk_mu [.ref (a 0)] sz (dC, dI) vwCl [(cA, .int)] (wX a cA x ru ma jo gv tk kV fV kR fR Lo.length fO)) (mk_muV (S := List (Nat → Int32) × (Nat → Int32)) (fun u => u.1 = [] ∧ sh_ok 11 u.2 u.1) (fun u => (wX a cA (upd x 12 1) ru ma jo gv tk kV fV kR fR u.1.length u.2)) (dC, dI) vwCl [(cA, .int)] (va_A (wX a cA x ru ma jo gv tk kV fV kR fR Lo.length fO) sz)) 0 0 (va_A (wX a cA x ru ma jo gv tk kV fV kR fR Lo.length fO) sz) := by
  refine Met.ofW (cc := qb_X_begin) (maxL := 1) (ret := none) (by decide) rfl ?_
  intro p e s m args below meth c s₁ B hml hpre
  obtain ⟨rfl, hsz, hP, hK, hD0⟩ := hpre
  have hx := B.exec
  have hb := B.bytes
  have hr := B.returns
  have hts0 := atoms_spec (ws := qw_X_begin) B.pre
  have hts := fun w (h : w ∈ lw_gd) => hts0 w (List.mem_cons_of_mem _ h)
  have hown : s.vm.findClass qR_X = some m.cls := findClass_of_methodNamed B.named
  have hlocks := B.notSynchronized
  subst hsz
  have hD := hD0.self (sz := s.heap.size)
  generalize hAe : va_A (wX a cA x ru ma jo gv tk kV fV kR fR Lo.length fO) s.heap.size = A at hD ⊢
  have hA : ∀ q : Nat, s.heap.size ≤ q → A q := fun q h => by rw [← hAe]; exact Or.inr h
  have hS : va_S A s.heap s.heap [] := va_S.rf
  have hl := lv_entry ([.ref (a 0)]) (n := 1) (Nat.le_of_ble_eq_true rfl)
  rw [lg_entry_eq]
  generalize (lg_sl ([.ref (a 0)]) ++ List.replicate (1 - (lg_sl ([.ref (a 0)])).length) Slot.unset).toArray = ls at hl ⊢
  have hl : lv_has ls 1 [(0, .ref (a 0))] := hl
  have hP : va_P (dC, dI) vwCl (wX a cA x ru ma jo gv tk kV fV kR fR Lo.length fO) s.heap := hP
  refine mk_start (A := A) hP (fun H locs hP hS => ?_)
  refine lv_aload_n hx hb qd_X_begin_0 rfl (lv_at hl 0 rfl) ?_
  refine lv_iconst (v := 1) hx hb qd_X_begin_1 (by decide) ?_
  refine va_put (D := (dC, dI)) (ci := 0) (v := .int 1) (ty := .boolean) (C := qR_X) (T := qT_X) (N := 13) hx hb hts qin_X qty_X qtyok_X qnm_X hown hK hP hD hS 0 rfl rfl 12 (by decide) (hts _ mw_128) (fun _ h9 => h9) rfl (by decide +kernel) rfl rfl (Nat.le_of_ble_eq_true rfl) qd_X_begin_2 (fun H locs hP hD hS => ?_)
  have hP : va_P (dC, dI) vwCl (wX a cA (upd x 12 1) ru ma jo gv tk kV fV kR fR Lo.length fO) H := hP
  have hD : va_D A (wX a cA (upd x 12 1) ru ma jo gv tk kV fV kR fR Lo.length fO) := hD
  refine lv_aload_n hx hb qd_X_begin_5 rfl (lv_at hl 0 rfl) ?_
  refine va_get (D := (dC, dI)) (ci := 0) (v := .ref (a 10)) (C := qR_X) (T := qT_X) (N := 13) hx hb hts qin_X hown hK hP 0 rfl rfl 4 (by decide) (hts _ mw_120) (fun _ h9 => h9) rfl qd_X_begin_6 ?_
  refine mk_mcallv (wr := [((a 0), .inr (0, [.ref (a 1), .ref (a 2), .ref (a 4), .ref (a 7), .ref (a 10), .ref (a 3), .int (x 6), .int (x 7), .int (x 8), .int (x 9), .int (x 10), .int (x 11), .int 1])), ((a 1), .inl (cA, 4, .inl ru)), ((a 2), .inl (cA, 3, .inl ma)), ((a 3), .inl (cA, 6, .inl jo)), ((a 4), .inr (5, [.ref (a 5)])), ((a 5), .inr (4, [.int (nI 3), .int (nI 160), .ref (a 6), .int (nI kV)])), ((a 6), .inl (cA, (3 * 160), .inl fV)), ((a 7), .inr (3, [.ref (a 8)])), ((a 8), .inr (4, [.int (nI 12), .int (nI 96), .ref (a 9), .int (nI kR)])), ((a 9), .inl (cA, (12 * 96), .inl fR))]) (wf := (fun u => (wX a cA (upd x 12 1) ru ma jo gv tk kV fV kR fR u.1.length u.2))) (va_runV (As := []) (rest := []) ⟨hx, hb, hml, hown, hts⟩ (c_O_clear l dC dI cA H.size (a 10) (a 11) (a 12) gv tk fO Lo hO) (cwV 0 hts gc_X_145 rfl rfl rfl (by decide +kernel) ⟨Nat.le_of_ble_eq_true rfl, Nat.le_of_ble_eq_true rfl⟩) (mk_muP hP hD [10, 11, 12] (by decide) rfl hK (va_recv hK hP (ci := 2) (q0 := 10) rfl rfl)) rfl rfl hl.1 rfl (lv_room (Nat.le_of_ble_eq_true rfl)) qd_X_begin_9 ⟨(Nat.zero_le _), (Nat.zero_le _)⟩) hS hA hP hD [10, 11, 12] [0, 1, 2, 3, 4, 5, 6, 7, 8, 9] [0, 1, 2, 3, 4, 5, 6, 7, 8, 9, 10, 11, 12] rfl rfl (by decide) (by decide) (by decide) (fun _ => rfl) (fun u_2 H locs hu_2 hP hD hS => ?_)
  obtain ⟨Q1, f1⟩ := u_2
  obtain ⟨rfl, hok1⟩ : Q1 = [] ∧ sh_ok 11 f1 Q1 := hu_2
  have hP : va_P (dC, dI) vwCl (wX a cA (upd x 12 1) ru ma jo gv tk kV fV kR fR (([] : List (Nat → Int32)).length) f1) H := hP
  have hD : va_D A (wX a cA (upd x 12 1) ru ma jo gv tk kV fV kR fR (([] : List (Nat → Int32)).length) f1) := hD
  exact mk_mvret ([], f1) hx hb hr hlocks hP hK hD hS qd_X_begin_12 (⟨rfl, hok1⟩)
