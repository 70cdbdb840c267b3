set_option maxHeartbeats 4000000 in
set_option maxRecDepth 100000 in
/-- joinRows() -/
theorem c_X_joinRows (l : Launch) (dC : Nat → ClassId) (dI : Nat → Nat → Nat) (cA : ClassId) (sz : Nat) (a : Nat → Nat) (x ru ma jo : Nat → Int32) (gv tk : Int32) (fV : Nat → Int32) (fR : Nat → Int32) (fO : Nat → Int32) (V R Lo : List (Nat → Int32)) (hV : sh_wf 3 160 fV V) (hR : sh_wf 12 96 fR R) (hO : sh_wf 11 192 fO Lo) (hcuts : ∀ pl fr, ∃ k, vs_cut V pl fr k) (n3 : Nat) (hn3 : x 6 = nI n3) (h3 : n3 ≤ 3) (hkeys : ∀ (i : Nat) (r : Nat → Int32), R[i]? = some r → ∃ kn, kn < 16 ∧ r 1 = nI kn) (hroom : Lo.length + R.length ≤ 192) : Met l qy_X_joinRows qw_X_joinRows ({ frames := 4, cells := 0, slots := 0, locals := 129 }) (mk_mu [.ref (a 0)] sz (dC, dI) vwCl [(cA, .int)] (wX a cA x ru ma jo gv tk V.length fV R.length fR Lo.length fO)) (mk_muV (S := (Nat → Int32) × (List (Nat → Int32) × (Nat → Int32)) × (List (Nat → Int32) × (Nat → Int32)) × Int32) (fun u => u.2.1.1 = R.map (jr_row V ru n3 (xt_low ma n3)) ∧ sh_ok 12 u.2.1.2 u.2.1.1 ∧ u.2.2.1.1 = Lo ++ R.flatMap (jr_out V ru n3 (xt_low ma n3)) ∧ sh_ok 11 u.2.2.1.2 u.2.2.1.1 ∧ u.2.2.2 = gv + nI (sw_n (jr_d V ru n3 (xt_low ma n3)) R R.length)) (fun u => (wX a cA x ru ma u.1 u.2.2.2 tk V.length fV u.2.1.1.length u.2.1.2 u.2.2.1.1.length u.2.2.1.2)) (dC, dI) vwCl [(cA, .int)] (va_A (wX a cA x ru ma jo gv tk V.length fV R.length fR Lo.length fO) sz)) 0 0 (va_A (wX a cA x ru ma jo gv tk V.length fV R.length fR Lo.length fO) sz) := by
  refine Met.ofW (cc := qb_X_joinRows) (maxL := 4) (ret := none) (by decide) rfl ?_
  intro p e s m args below meth c s₁ B hml hpre
  obtain ⟨rfl, hsz, hP, hK, hD0⟩ := hpre
  have hx := B.exec
  have hb := B.bytes
  have hr := B.returns
  have hts0 := atoms_spec (ws := qw_X_joinRows) B.pre
  have hts := fun w (h : w ∈ lw_gd) => hts0 w (List.mem_cons_of_mem _ h)
  have hown : s.vm.findClass qR_X = some m.cls := findClass_of_methodNamed B.named
  have hlocks := B.notSynchronized
  subst hsz
  have hD := hD0.self (sz := s.heap.size)
  generalize hAe : va_A (wX a cA x ru ma jo gv tk V.length fV R.length fR Lo.length fO) s.heap.size = A at hD ⊢
  have hA : ∀ q : Nat, s.heap.size ≤ q → A q := fun q h => by rw [← hAe]; exact Or.inr h
  have hS : va_S A s.heap s.heap [] := va_S.rf
  have hl := lv_entry ([.ref (a 0)]) (n := 4) (Nat.le_of_ble_eq_true rfl)
  rw [lg_entry_eq]
  generalize (lg_sl ([.ref (a 0)]) ++ List.replicate (4 - (lg_sl ([.ref (a 0)])).length) Slot.unset).toArray = ls at hl ⊢
  have hl : lv_has ls 4 [(0, .ref (a 0))] := hl
  have hP : va_P (dC, dI) vwCl (wX a cA x ru ma jo gv tk V.length fV R.length fR Lo.length fO) s.heap := hP
  refine mk_start (A := A) hP (fun H locs hP hS => ?_)
  obtain ⟨hok, hlen, -, -, -⟩ := id hR
  obtain ⟨hokO0, hlenO, -, -, -⟩ := id hO
  refine lv_aload_n hx hb qd_X_joinRows_0 rfl (lv_at hl 0 rfl) ?_
  refine mk_calli (va_runV (As := []) (rest := []) ⟨hx, hb, hml, hown, hts⟩ (c_X_lowestMark l dC dI cA H.size a x ru ma jo gv tk V.length fV R.length fR Lo.length fO n3 hn3 h3) (cwV 0 hts gc_X_153 rfl rfl rfl (by decide +kernel) ⟨Nat.le_of_ble_eq_true rfl, Nat.le_of_ble_eq_true rfl⟩) (mk_roV hP [0, 1, 2, 3, 4, 5, 6, 7, 8, 9, 10, 11, 12] rfl hK (va_recv hK hP (ci := 0) (q0 := 0) rfl rfl)) rfl rfl hl.1 rfl (lv_room (Nat.le_of_ble_eq_true rfl)) qd_X_joinRows_1 ⟨(Nat.zero_le _), (Nat.zero_le _)⟩) hS hA hP (fun r_1 H locs hr_1 hP hS => ?_)
  obtain rfl : r_1 = (xt_low ma n3) := hr_1
  refine lv_istore_n (lv' := [(1, .int (xt_low ma n3)), (0, .ref (a 0))]) hx hb qd_X_joinRows_4 rfl hl (by decide) rfl (fun ls hl => ?_)
  refine lv_iconst (v := 0) hx hb qd_X_joinRows_5 (by decide) ?_
  refine mk_rw (y := nI 0) (rfl) ?_
  refine lv_istore_n (lv' := [(2, .int (nI 0)), (1, .int (xt_low ma n3)), (0, .ref (a 0))]) hx hb qd_X_joinRows_6 rfl hl (by decide) rfl (fun ls hl => ?_)
  have hP : va_P (dC, dI) vwCl (wX a cA x ru ma jo (gv + nI (sw_n (jr_d V ru n3 (xt_low ma n3)) R 0)) tk V.length fV ((sw_r (jr_row V ru n3 (xt_low ma n3)) R 0).length) fR ((sw_o (jr_out V ru n3 (xt_low ma n3)) Lo R 0).length) fO) H := by rw [sw_r_0, sw_o_0, sw_n_0, show gv + nI 0 = gv from Int32.add_zero gv]; exact hP
  have hD : va_D A (wX a cA x ru ma jo (gv + nI (sw_n (jr_d V ru n3 (xt_low ma n3)) R 0)) tk V.length fV ((sw_r (jr_row V ru n3 (xt_low ma n3)) R 0).length) fR ((sw_o (jr_out V ru n3 (xt_low ma n3)) Lo R 0).length) fO) := by rw [sw_r_0, sw_o_0, sw_n_0, show gv + nI 0 = gv from Int32.add_zero gv]; exact hD
  refine mk_loop (σ := Nat × (Nat → Int32) × (Nat → Int32) × (Nat → Int32)) (fun n y9 H locs ls => (y9.1 + n = R.length ∧ sh_ok 12 y9.2.2.1 (sw_r (jr_row V ru n3 (xt_low ma n3)) R y9.1) ∧ sh_ok 11 y9.2.2.2 (sw_o (jr_out V ru n3 (xt_low ma n3)) Lo R y9.1)) ∧ va_P (dC, dI) vwCl (wX a cA x ru ma y9.2.1 (gv + nI (sw_n (jr_d V ru n3 (xt_low ma n3)) R y9.1)) tk V.length fV ((sw_r (jr_row V ru n3 (xt_low ma n3)) R y9.1).length) y9.2.2.1 ((sw_o (jr_out V ru n3 (xt_low ma n3)) Lo R y9.1).length) y9.2.2.2) H ∧ va_D A (wX a cA x ru ma y9.2.1 (gv + nI (sw_n (jr_d V ru n3 (xt_low ma n3)) R y9.1)) tk V.length fV ((sw_r (jr_row V ru n3 (xt_low ma n3)) R y9.1).length) y9.2.2.1 ((sw_o (jr_out V ru n3 (xt_low ma n3)) Lo R y9.1).length) y9.2.2.2) ∧ va_S A s.heap H locs ∧ lv_has ls 4 [(0, .ref (a 0)), (1, .int (xt_low ma n3)), (2, .int (nI y9.1))]) (fun ls => F0 m 7 ls []) (fun n y9 H locs ls hI ih_2 => ?_) (fun y9 H locs ls hI => ?_) R.length (0, jo, fR, fO) H locs ls ⟨⟨Nat.zero_add _, by rw [sw_r_0]; exact hR.1, by rw [sw_o_0]; exact hO.1⟩, hP, hD, hS, lv_sub hl [2, 1, 0] rfl⟩
  · obtain ⟨i, j1, f1, f2⟩ := y9
    obtain ⟨hinv, hP, hD, hS, hl⟩ := hI
    have hinv : i + (n + 1) = R.length ∧ sh_ok 12 f1 (sw_r (jr_row V ru n3 (xt_low ma n3)) R i) ∧ sh_ok 11 f2 (sw_o (jr_out V ru n3 (xt_low ma n3)) Lo R i) := hinv
    have hP : va_P (dC, dI) vwCl (wX a cA x ru ma j1 (gv + nI (sw_n (jr_d V ru n3 (xt_low ma n3)) R i)) tk V.length fV ((sw_r (jr_row V ru n3 (xt_low ma n3)) R i).length) f1 ((sw_o (jr_out V ru n3 (xt_low ma n3)) Lo R i).length) f2) H := hP
    have hD : va_D A (wX a cA x ru ma j1 (gv + nI (sw_n (jr_d V ru n3 (xt_low ma n3)) R i)) tk V.length fV ((sw_r (jr_row V ru n3 (xt_low ma n3)) R i).length) f1 ((sw_o (jr_out V ru n3 (xt_low ma n3)) Lo R i).length) f2) := hD
    have hl : lv_has ls 4 [(0, .ref (a 0)), (1, .int (xt_low ma n3)), (2, .int (nI i))] := hl
    obtain ⟨ha, hok1, hok2⟩ := hinv
    have hlt : i < R.length := by omega
    have hlr : (sw_r (jr_row V ru n3 (xt_low ma n3)) R i).length = R.length := sw_r_len (Nat.le_of_lt hlt)
    have hwr : sh_wf 12 96 f1 (sw_r (jr_row V ru n3 (xt_low ma n3)) R i) := ⟨hok1, by omega, by decide, by decide, by decide⟩
    have hat := sw_r_at (F := (jr_row V ru n3 (xt_low ma n3))) hlt
    have hol := sw_o_len (Gx := (jr_out V ru n3 (xt_low ma n3))) (Lo := Lo) (R := R) (k := 1) (jr_out_len V ru n3 (xt_low ma n3)) i (Nat.le_of_lt hlt)
    have hwo : sh_wf 11 192 f2 (sw_o (jr_out V ru n3 (xt_low ma n3)) Lo R i) := ⟨hok2, by omega, by decide, by decide, by decide⟩
    refine lv_iload_n hx hb qd_X_joinRows_7 rfl (lv_at hl 2 rfl) ?_
    refine lv_aload_n hx hb qd_X_joinRows_8 rfl (lv_at hl 0 rfl) ?_
    refine va_get (D := (dC, dI)) (ci := 0) (v := .ref (a 7)) (C := qR_X) (T := qT_X) (N := 13) hx hb hts qin_X hown hK hP 0 rfl rfl 3 (by decide) (hts _ mw_119) (fun _ h9 => h9) rfl qd_X_joinRows_9 ?_
    refine mk_calli (va_runV (As := []) (rest := [.int (nI i)]) ⟨hx, hb, hml, hown, hts⟩ (c_R_size l dC dI cA H.size (a 7) (a 8) (a 9) f1 (sw_r (jr_row V ru n3 (xt_low ma n3)) R i) hwr) (cwV 0 hts gc_X_94 rfl rfl rfl (by decide +kernel) ⟨Nat.le_of_ble_eq_true rfl, Nat.le_of_ble_eq_true rfl⟩) (mk_roV hP [7, 8, 9] rfl hK (va_recv hK hP (ci := 3) (q0 := 7) rfl rfl)) rfl rfl hl.1 rfl (lv_room (Nat.le_of_ble_eq_true rfl)) qd_X_joinRows_12 ⟨(Nat.zero_le _), (Nat.zero_le _)⟩) hS hA hP (fun r_3 H locs hr_3 hP hS => ?_)
    obtain rfl : r_3 = nI R.length := Eq.trans hr_3 (congrArg nI hlr)
    refine lv_icmp_ge (tgt := 69) hx hb qd_X_joinRows_15 (by decide) (fun c_4 => ?_) (fun c_4 => ?_)
    · exact absurd c_4 (nI_ge hlt (by omega))
    · refine lv_aload_n hx hb qd_X_joinRows_18 rfl (lv_at hl 0 rfl) ?_
      refine va_get (D := (dC, dI)) (ci := 0) (v := .ref (a 7)) (C := qR_X) (T := qT_X) (N := 13) hx hb hts qin_X hown hK hP 0 rfl rfl 3 (by decide) (hts _ mw_119) (fun _ h9 => h9) rfl qd_X_joinRows_19 ?_
      refine lv_iload_n hx hb qd_X_joinRows_22 rfl (lv_at hl 2 rfl) ?_
      refine lv_iconst (v := 2) hx hb qd_X_joinRows_23 (by decide) ?_
      refine mk_calli (va_runV (As := [.int (nI i), .int 2]) (rest := []) ⟨hx, hb, hml, hown, hts⟩ (c_R_get l dC dI cA H.size (a 7) (a 8) (a 9) f1 (sw_r (jr_row V ru n3 (xt_low ma n3)) R i) hwr (nI i) 2) (cwV 2 hts gc_X_129 rfl rfl rfl (by decide +kernel) ⟨Nat.le_of_ble_eq_true rfl, Nat.le_of_ble_eq_true rfl⟩) (mk_roV hP [7, 8, 9] rfl hK (va_recv hK hP (ci := 3) (q0 := 7) rfl rfl)) rfl rfl hl.1 rfl (lv_room (Nat.le_of_ble_eq_true rfl)) qd_X_joinRows_24 ⟨(Nat.zero_le _), (Nat.zero_le _)⟩) hS hA hP (fun r_5 H locs hr_5 hP hS => ?_)
      obtain rfl : r_5 = (R[i]'hlt) 2 := Eq.trans hr_5 (sh_get_in (by omega) (by decide) hat (by decide))
      refine lv_istore_n (lv' := [(3, .int ((R[i]'hlt) 2)), (0, .ref (a 0)), (1, .int (xt_low ma n3)), (2, .int (nI i))]) hx hb qd_X_joinRows_27 rfl hl (by decide) rfl (fun ls hl => ?_)
      refine lv_aload_n hx hb qd_X_joinRows_28 rfl (lv_at hl 1 rfl) ?_
      refine va_get (D := (dC, dI)) (ci := 0) (v := .ref (a 7)) (C := qR_X) (T := qT_X) (N := 13) hx hb hts qin_X hown hK hP 0 rfl rfl 3 (by decide) (hts _ mw_119) (fun _ h9 => h9) rfl qd_X_joinRows_29 ?_
      refine lv_iload_n hx hb qd_X_joinRows_32 rfl (lv_at hl 3 rfl) ?_
      refine mk_calli (va_runV (As := [.int (nI i)]) (rest := []) ⟨hx, hb, hml, hown, hts⟩ (c_R_waits l dC dI cA H.size (a 7) (a 8) (a 9) f1 (sw_r (jr_row V ru n3 (xt_low ma n3)) R i) hwr (nI i)) (cwV 1 hts gc_X_156 rfl rfl rfl (by decide +kernel) ⟨Nat.le_of_ble_eq_true rfl, Nat.le_of_ble_eq_true rfl⟩) (mk_roV hP [7, 8, 9] rfl hK (va_recv hK hP (ci := 3) (q0 := 7) rfl rfl)) rfl rfl hl.1 rfl (lv_room (Nat.le_of_ble_eq_true rfl)) qd_X_joinRows_33 ⟨(Nat.zero_le _), (Nat.zero_le _)⟩) hS hA hP (fun r_6 H locs hr_6 hP hS => ?_)
      obtain rfl : r_6 = if (R[i]'hlt) 4 = 1 then 1 else 0 := Eq.trans hr_6 (by rw [show sh_get 12 (sw_r (jr_row V ru n3 (xt_low ma n3)) R i) (nI i) 4 = (R[i]'hlt) 4 from sh_get_in (by omega) (by decide) hat (by decide)])
      refine lv_if_eq (tgt := 63) hx hb qd_X_joinRows_36 (by decide) (fun c_7 => ?_) (fun c_7 => ?_)
      · refine lv_iinc (v := nI (i + 1)) (lv' := [(2, .int (nI (i + 1))), (3, .int ((R[i]'hlt) 2)), (0, .ref (a 0)), (1, .int (xt_low ma n3))]) hx hb qd_X_joinRows_63 hl (k := 3) rfl (mk_inc i) (by decide) rfl (fun ls hl => ?_)
        refine lv_goto (tgt := 7) hx hb qd_X_joinRows_66 (by decide) ?_
        have hcn : ¬ ((R[i]'hlt) 4 = 1 ∧ (R[i]'hlt) 2 ≤ (xt_low ma n3)) := (fun q => rs_n1 c_7 q.1)
        have eR : sw_r (jr_row V ru n3 (xt_low ma n3)) R (i + 1) = sw_r (jr_row V ru n3 (xt_low ma n3)) R i := sw_r_skip hlt (if_neg hcn)
        have eO : sw_o (jr_out V ru n3 (xt_low ma n3)) Lo R (i + 1) = sw_o (jr_out V ru n3 (xt_low ma n3)) Lo R i := by rw [sw_o_s hlt, show (jr_out V ru n3 (xt_low ma n3)) (R[i]'hlt) = [] from if_neg hcn, List.append_nil]
        have eN : sw_n (jr_d V ru n3 (xt_low ma n3)) R (i + 1) = sw_n (jr_d V ru n3 (xt_low ma n3)) R i := by rw [sw_n_s hlt, show (jr_d V ru n3 (xt_low ma n3)) (R[i]'hlt) = 0 from if_neg hcn, Nat.add_zero]
        rw [← eR] at hok1
        rw [← eO] at hok2
        rw [← eR, ← eO, ← eN] at hP hD
        exact ih_2 ((i + 1), j1, f1, f2) H locs ls ⟨⟨by omega, hok1, hok2⟩, hP, hD, hS, lv_sub hl [2, 3, 0] rfl⟩
      · refine lv_iload_n hx hb qd_X_joinRows_39 rfl (lv_at hl 0 rfl) ?_
        refine lv_iload_n hx hb qd_X_joinRows_40 rfl (lv_at hl 2 rfl) ?_
        refine lv_icmp_gt (tgt := 63) hx hb qd_X_joinRows_41 (by decide) (fun c_8 => ?_) (fun c_8 => ?_)
        · refine lv_iinc (v := nI (i + 1)) (lv' := [(2, .int (nI (i + 1))), (3, .int ((R[i]'hlt) 2)), (0, .ref (a 0)), (1, .int (xt_low ma n3))]) hx hb qd_X_joinRows_63 hl (k := 3) rfl (mk_inc i) (by decide) rfl (fun ls hl => ?_)
          refine lv_goto (tgt := 7) hx hb qd_X_joinRows_66 (by decide) ?_
          have hcn : ¬ ((R[i]'hlt) 4 = 1 ∧ (R[i]'hlt) 2 ≤ (xt_low ma n3)) := (fun q => sh_nle c_8 q.2)
          have eR : sw_r (jr_row V ru n3 (xt_low ma n3)) R (i + 1) = sw_r (jr_row V ru n3 (xt_low ma n3)) R i := sw_r_skip hlt (if_neg hcn)
          have eO : sw_o (jr_out V ru n3 (xt_low ma n3)) Lo R (i + 1) = sw_o (jr_out V ru n3 (xt_low ma n3)) Lo R i := by rw [sw_o_s hlt, show (jr_out V ru n3 (xt_low ma n3)) (R[i]'hlt) = [] from if_neg hcn, List.append_nil]
          have eN : sw_n (jr_d V ru n3 (xt_low ma n3)) R (i + 1) = sw_n (jr_d V ru n3 (xt_low ma n3)) R i := by rw [sw_n_s hlt, show (jr_d V ru n3 (xt_low ma n3)) (R[i]'hlt) = 0 from if_neg hcn, Nat.add_zero]
          rw [← eR] at hok1
          rw [← eO] at hok2
          rw [← eR, ← eO, ← eN] at hP hD
          exact ih_2 ((i + 1), j1, f1, f2) H locs ls ⟨⟨by omega, hok1, hok2⟩, hP, hD, hS, lv_sub hl [2, 3, 0] rfl⟩
        · refine lv_aload_n hx hb qd_X_joinRows_44 rfl (lv_at hl 1 rfl) ?_
          refine lv_aload_n hx hb qd_X_joinRows_45 rfl (lv_at hl 1 rfl) ?_
          refine va_get (D := (dC, dI)) (ci := 0) (v := .ref (a 7)) (C := qR_X) (T := qT_X) (N := 13) hx hb hts qin_X hown hK hP 0 rfl rfl 3 (by decide) (hts _ mw_119) (fun _ h9 => h9) rfl qd_X_joinRows_46 ?_
          refine lv_iload_n hx hb qd_X_joinRows_49 rfl (lv_at hl 3 rfl) ?_
          refine lv_iconst (v := 1) hx hb qd_X_joinRows_50 (by decide) ?_
          refine mk_calli (va_runV (As := [.int (nI i), .int 1]) (rest := [.ref (a 0)]) ⟨hx, hb, hml, hown, hts⟩ (c_R_get l dC dI cA H.size (a 7) (a 8) (a 9) f1 (sw_r (jr_row V ru n3 (xt_low ma n3)) R i) hwr (nI i) 1) (cwV 2 hts gc_X_129 rfl rfl rfl (by decide +kernel) ⟨Nat.le_of_ble_eq_true rfl, Nat.le_of_ble_eq_true rfl⟩) (mk_roV hP [7, 8, 9] rfl hK (va_recv hK hP (ci := 3) (q0 := 7) rfl rfl)) rfl rfl hl.1 rfl (lv_room (Nat.le_of_ble_eq_true rfl)) qd_X_joinRows_51 ⟨(Nat.zero_le _), (Nat.zero_le _)⟩) hS hA hP (fun r_9 H locs hr_9 hP hS => ?_)
          obtain rfl : r_9 = (R[i]'hlt) 1 := Eq.trans hr_9 (sh_get_in (by omega) (by decide) hat (by decide))
          obtain ⟨kn, hkn, ekn⟩ := hkeys i (R[i]'hlt) (List.getElem?_eq_getElem hlt)
          refine mk_rw (y := nI kn) (ekn) ?_
          refine lv_iload_n hx hb qd_X_joinRows_54 rfl (lv_at hl 0 rfl) ?_
          refine mk_mcallv (wr := []) (wf := (fun u => (wX a cA x ru ma u (gv + nI (sw_n (jr_d V ru n3 (xt_low ma n3)) R i)) tk V.length fV ((sw_r (jr_row V ru n3 (xt_low ma n3)) R i).length) f1 ((sw_o (jr_out V ru n3 (xt_low ma n3)) Lo R i).length) f2))) (va_runV (As := [.int (nI kn), .int ((R[i]'hlt) 2)]) (rest := []) ⟨hx, hb, hml, hown, hts⟩ (c_X_findJoin l dC dI cA H.size a x ru ma j1 (gv + nI (sw_n (jr_d V ru n3 (xt_low ma n3)) R i)) tk fV ((sw_r (jr_row V ru n3 (xt_low ma n3)) R i).length) f1 ((sw_o (jr_out V ru n3 (xt_low ma n3)) Lo R i).length) f2 V hV hcuts kn hkn ((R[i]'hlt) 2)) (cwV 2 hts gc_X_159 rfl rfl rfl (by decide +kernel) ⟨Nat.le_of_ble_eq_true rfl, Nat.le_of_ble_eq_true rfl⟩) (mk_muP hP hD [0, 1, 2, 3, 4, 5, 6, 7, 8, 9, 10, 11, 12] (by decide) rfl hK (va_recv hK hP (ci := 0) (q0 := 0) rfl rfl)) rfl rfl hl.1 rfl (lv_room (Nat.le_of_ble_eq_true rfl)) qd_X_joinRows_55 ⟨(Nat.zero_le _), (Nat.zero_le _)⟩) hS hA hP hD [0, 1, 2, 3, 4, 5, 6, 7, 8, 9, 10, 11, 12] [] [0, 1, 2, 3, 4, 5, 6, 7, 8, 9, 10, 11, 12] rfl rfl (by decide) (by decide) (by decide) (fun _ => rfl) (fun u_11 H locs hu_11 hP hD hS => ?_)
          obtain rfl : u_11 = (xjt V (ru 0) kn ((R[i]'hlt) 2) j1 3) := hu_11
          have hP : va_P (dC, dI) vwCl (wX a cA x ru ma (xjt V (ru 0) kn ((R[i]'hlt) 2) j1 3) (gv + nI (sw_n (jr_d V ru n3 (xt_low ma n3)) R i)) tk V.length fV ((sw_r (jr_row V ru n3 (xt_low ma n3)) R i).length) f1 ((sw_o (jr_out V ru n3 (xt_low ma n3)) Lo R i).length) f2) H := hP
          have hD : va_D A (wX a cA x ru ma (xjt V (ru 0) kn ((R[i]'hlt) 2) j1 3) (gv + nI (sw_n (jr_d V ru n3 (xt_low ma n3)) R i)) tk V.length fV ((sw_r (jr_row V ru n3 (xt_low ma n3)) R i).length) f1 ((sw_o (jr_out V ru n3 (xt_low ma n3)) Lo R i).length) f2) := hD
          refine lv_aload_n hx hb qd_X_joinRows_58 rfl (lv_at hl 1 rfl) ?_
          refine lv_iload_n hx hb qd_X_joinRows_59 rfl (lv_at hl 3 rfl) ?_
          refine mk_mcallv (wr := []) (wf := (fun u => (wX a cA x ru ma (xjt V (ru 0) kn ((R[i]'hlt) 2) j1 3) u.2.2 tk V.length fV u.1.1.length u.1.2 u.2.1.1.length u.2.1.2))) (va_runV (As := [.int (nI i)]) (rest := []) ⟨hx, hb, hml, hown, hts⟩ (c_X_takeJoin l dC dI cA H.size a x ru ma (xjt V (ru 0) kn ((R[i]'hlt) 2) j1 3) (gv + nI (sw_n (jr_d V ru n3 (xt_low ma n3)) R i)) tk V.length fV f1 f2 (sw_r (jr_row V ru n3 (xt_low ma n3)) R i) (sw_o (jr_out V ru n3 (xt_low ma n3)) Lo R i) hwr hwo (by omega) n3 hn3 h3 i (R[i]'hlt) hat) (cwV 1 hts gc_X_163 rfl rfl rfl (by decide +kernel) ⟨Nat.le_of_ble_eq_true rfl, Nat.le_of_ble_eq_true rfl⟩) (mk_muP hP hD [0, 1, 2, 3, 4, 5, 6, 7, 8, 9, 10, 11, 12] (by decide) rfl hK (va_recv hK hP (ci := 0) (q0 := 0) rfl rfl)) rfl rfl hl.1 rfl (lv_room (Nat.le_of_ble_eq_true rfl)) qd_X_joinRows_60 ⟨(Nat.zero_le _), (Nat.zero_le _)⟩) hS hA hP hD [0, 1, 2, 3, 4, 5, 6, 7, 8, 9, 10, 11, 12] [] [0, 1, 2, 3, 4, 5, 6, 7, 8, 9, 10, 11, 12] rfl rfl (by decide) (by decide) (by decide) (fun _ => rfl) (fun u_13 H locs hu_13 hP hD hS => ?_)
          obtain ⟨⟨R1, f3⟩, ⟨O1, f4⟩, g1⟩ := u_13
          obtain ⟨eR, hok3, eO, hok4, eg⟩ : R1 = (sw_r (jr_row V ru n3 (xt_low ma n3)) R i).set i (rs_jn (R[i]'hlt) (xg_b (ru 2) n3 (xjt V (ru 0) kn ((R[i]'hlt) 2) j1 3)) (xjt V (ru 0) kn ((R[i]'hlt) 2) j1 3) 6) ∧ sh_ok 12 f3 R1 ∧ O1 = sw_o (jr_out V ru n3 (xt_low ma n3)) Lo R i ++ (if (xg_b (ru 2) n3 (xjt V (ru 0) kn ((R[i]'hlt) 2) j1 3)) = 1 then [ot_rec 1 (rs_jn (R[i]'hlt) (xg_b (ru 2) n3 (xjt V (ru 0) kn ((R[i]'hlt) 2) j1 3)) (xjt V (ru 0) kn ((R[i]'hlt) 2) j1 3) 6)] else []) ∧ sh_ok 11 f4 O1 ∧ g1 = (if (xg_b (ru 2) n3 (xjt V (ru 0) kn ((R[i]'hlt) 2) j1 3)) = 1 then (gv + nI (sw_n (jr_d V ru n3 (xt_low ma n3)) R i)) + 1 else (gv + nI (sw_n (jr_d V ru n3 (xt_low ma n3)) R i))) := hu_13
          have hcy : (R[i]'hlt) 4 = 1 ∧ (R[i]'hlt) 2 ≤ (xt_low ma n3) := ⟨rs_n2 c_7, sh_le_of c_8⟩
          obtain ⟨t1, t2⟩ := jr_take (V := V) (ru := ru) (j0 := j1) h3 hkn ekn
          rw [t2, ← show (jr_row V ru n3 (xt_low ma n3)) (R[i]'hlt) = jr_t V ru n3 (R[i]'hlt) from if_pos hcy, sw_r_set hlt] at eR
          rw [t2, t1, ← show (jr_out V ru n3 (xt_low ma n3)) (R[i]'hlt) = (if jr_g V ru n3 (R[i]'hlt) = 1 then [ot_rec 1 (jr_t V ru n3 (R[i]'hlt))] else []) from if_pos hcy, ← sw_o_s hlt] at eO
          rw [t1, nI_ite_add, ← show (jr_d V ru n3 (xt_low ma n3)) (R[i]'hlt) = (if jr_g V ru n3 (R[i]'hlt) = 1 then 1 else 0) from if_pos hcy, ← sw_n_s hlt] at eg
          subst eR; subst eO; subst eg
          generalize (xjt V (ru 0) kn ((R[i]'hlt) 2) j1 3) = j2 at hP hD
          have hP : va_P (dC, dI) vwCl (wX a cA x ru ma j2 (gv + nI (sw_n (jr_d V ru n3 (xt_low ma n3)) R (i + 1))) tk V.length fV ((sw_r (jr_row V ru n3 (xt_low ma n3)) R (i + 1)).length) f3 ((sw_o (jr_out V ru n3 (xt_low ma n3)) Lo R (i + 1)).length) f4) H := hP
          have hD : va_D A (wX a cA x ru ma j2 (gv + nI (sw_n (jr_d V ru n3 (xt_low ma n3)) R (i + 1))) tk V.length fV ((sw_r (jr_row V ru n3 (xt_low ma n3)) R (i + 1)).length) f3 ((sw_o (jr_out V ru n3 (xt_low ma n3)) Lo R (i + 1)).length) f4) := hD
          refine lv_iinc (v := nI (i + 1)) (lv' := [(2, .int (nI (i + 1))), (3, .int ((R[i]'hlt) 2)), (0, .ref (a 0)), (1, .int (xt_low ma n3))]) hx hb qd_X_joinRows_63 hl (k := 3) rfl (mk_inc i) (by decide) rfl (fun ls hl => ?_)
          refine lv_goto (tgt := 7) hx hb qd_X_joinRows_66 (by decide) ?_
          exact ih_2 ((i + 1), j2, f3, f4) H locs ls ⟨⟨by omega, hok3, hok4⟩, hP, hD, hS, lv_sub hl [2, 3, 0] rfl⟩
  · obtain ⟨i, j1, f1, f2⟩ := y9
    obtain ⟨hinv, hP, hD, hS, hl⟩ := hI
    have hinv : i + 0 = R.length ∧ sh_ok 12 f1 (sw_r (jr_row V ru n3 (xt_low ma n3)) R i) ∧ sh_ok 11 f2 (sw_o (jr_out V ru n3 (xt_low ma n3)) Lo R i) := hinv
    have hP : va_P (dC, dI) vwCl (wX a cA x ru ma j1 (gv + nI (sw_n (jr_d V ru n3 (xt_low ma n3)) R i)) tk V.length fV ((sw_r (jr_row V ru n3 (xt_low ma n3)) R i).length) f1 ((sw_o (jr_out V ru n3 (xt_low ma n3)) Lo R i).length) f2) H := hP
    have hD : va_D A (wX a cA x ru ma j1 (gv + nI (sw_n (jr_d V ru n3 (xt_low ma n3)) R i)) tk V.length fV ((sw_r (jr_row V ru n3 (xt_low ma n3)) R i).length) f1 ((sw_o (jr_out V ru n3 (xt_low ma n3)) Lo R i).length) f2) := hD
    have hl : lv_has ls 4 [(0, .ref (a 0)), (1, .int (xt_low ma n3)), (2, .int (nI i))] := hl
    obtain ⟨ha, hok1, hok2⟩ := hinv
    have ei : i = R.length := by omega
    have hlr : (sw_r (jr_row V ru n3 (xt_low ma n3)) R i).length = R.length := sw_r_len (by omega)
    have hwr : sh_wf 12 96 f1 (sw_r (jr_row V ru n3 (xt_low ma n3)) R i) := ⟨hok1, by omega, by decide, by decide, by decide⟩
    refine lv_iload_n hx hb qd_X_joinRows_7 rfl (lv_at hl 2 rfl) ?_
    refine lv_aload_n hx hb qd_X_joinRows_8 rfl (lv_at hl 0 rfl) ?_
    refine va_get (D := (dC, dI)) (ci := 0) (v := .ref (a 7)) (C := qR_X) (T := qT_X) (N := 13) hx hb hts qin_X hown hK hP 0 rfl rfl 3 (by decide) (hts _ mw_119) (fun _ h9 => h9) rfl qd_X_joinRows_9 ?_
    refine mk_calli (va_runV (As := []) (rest := [.int (nI i)]) ⟨hx, hb, hml, hown, hts⟩ (c_R_size l dC dI cA H.size (a 7) (a 8) (a 9) f1 (sw_r (jr_row V ru n3 (xt_low ma n3)) R i) hwr) (cwV 0 hts gc_X_94 rfl rfl rfl (by decide +kernel) ⟨Nat.le_of_ble_eq_true rfl, Nat.le_of_ble_eq_true rfl⟩) (mk_roV hP [7, 8, 9] rfl hK (va_recv hK hP (ci := 3) (q0 := 7) rfl rfl)) rfl rfl hl.1 rfl (lv_room (Nat.le_of_ble_eq_true rfl)) qd_X_joinRows_12 ⟨(Nat.zero_le _), (Nat.zero_le _)⟩) hS hA hP (fun r_14 H locs hr_14 hP hS => ?_)
    obtain rfl : r_14 = nI R.length := Eq.trans hr_14 (congrArg nI hlr)
    refine lv_icmp_ge (tgt := 69) hx hb qd_X_joinRows_15 (by decide) (fun c_15 => ?_) (fun c_15 => ?_)
    · subst ei
      rw [sw_r_all, sw_o_all] at hP hD
      rw [sw_r_all] at hok1
      rw [sw_o_all] at hok2
      exact mk_mvret (j1, (R.map (jr_row V ru n3 (xt_low ma n3)), f1), (Lo ++ R.flatMap (jr_out V ru n3 (xt_low ma n3)), f2), (gv + nI (sw_n (jr_d V ru n3 (xt_low ma n3)) R R.length))) hx hb hr hlocks hP hK hD hS qd_X_joinRows_69 ⟨rfl, hok1, rfl, hok2, rfl⟩
    · exact absurd (nI_le (by omega) (by omega)) c_15
