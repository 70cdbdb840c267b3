set_option maxHeartbeats 4000000 in
set_option maxRecDepth 100000 in
/-- correctRow(line) -/
theorem c_X_correctRow (l : Launch) (dC : Nat → ClassId) (dI : Nat → Nat → Nat) (cA : ClassId) (sz : Nat) (a : Nat → Nat) (x ru ma jo : Nat → Int32) (gv tk : Int32) (fV : Nat → Int32) (fR : Nat → Int32) (fO : Nat → Int32) (V R Lo : List (Nat → Int32)) (hV : sh_wf 3 160 fV V) (hR : sh_wf 12 96 fR R) (hO : sh_wf 11 192 fO Lo) (hcuts : ∀ pl fr, ∃ k, vs_cut V pl fr k) (n3 : Nat) (hn3 : x 6 = nI n3) (h3 : n3 ≤ 3) (i' : Nat) (r0 : Nat → Int32) (hr0 : R[i']? = some r0) (kn : Nat) (hkn : kn < 16) (ekn : r0 1 = nI kn) (hroom : Lo.length + 2 ≤ 192) : Met l qy_X_correctRow qw_X_correctRow ({ frames := 4, cells := 0, slots := 0, locals := 129 }) (mk_mu [.ref (a 0), .int (nI i')] sz (dC, dI) vwCl [(cA, .int)] (wX a cA x ru ma jo gv tk V.length fV R.length fR Lo.length fO)) (mk_muV (S := (Nat → Int32) × (List (Nat → Int32) × (Nat → Int32)) × (List (Nat → Int32) × (Nat → Int32)) × Int32 × Int32) (fun u => u.2.1.1 = R.set i' (cr_new V ru n3 r0) ∧ sh_ok 12 u.2.1.2 u.2.1.1 ∧ u.2.2.1.1 = Lo ++ (cr_o V ru n3 r0) ∧ sh_ok 11 u.2.2.1.2 u.2.2.1.1 ∧ u.2.2.2.1 = gv + nI (cr_dg V ru n3 r0) ∧ u.2.2.2.2 = tk + nI (cr_dt V ru r0)) (fun u => (wX a cA x ru ma u.1 u.2.2.2.1 u.2.2.2.2 V.length fV u.2.1.1.length u.2.1.2 u.2.2.1.1.length u.2.2.1.2)) (dC, dI) vwCl [(cA, .int)] (va_A (wX a cA x ru ma jo gv tk V.length fV R.length fR Lo.length fO) sz)) 0 0 (va_A (wX a cA x ru ma jo gv tk V.length fV R.length fR Lo.length fO) sz) := by
  refine Met.ofW (cc := qb_X_correctRow) (maxL := 2) (ret := none) (by decide) rfl ?_
  intro p e s m args below meth c s₁ B hml hpre
  obtain ⟨rfl, hsz, hP, hK, hD0⟩ := hpre
  have hx := B.exec
  have hb := B.bytes
  have hr := B.returns
  have hts0 := atoms_spec (ws := qw_X_correctRow) B.pre
  have hts := fun w (h : w ∈ lw_gd) => hts0 w (List.mem_cons_of_mem _ h)
  have hown : s.vm.findClass qR_X = some m.cls := findClass_of_methodNamed B.named
  have hlocks := B.notSynchronized
  subst hsz
  have hD := hD0.self (sz := s.heap.size)
  generalize hAe : va_A (wX a cA x ru ma jo gv tk V.length fV R.length fR Lo.length fO) s.heap.size = A at hD ⊢
  have hA : ∀ q : Nat, s.heap.size ≤ q → A q := fun q h => by rw [← hAe]; exact Or.inr h
  have hS : va_S A s.heap s.heap [] := va_S.rf
  have hl := lv_entry ([.ref (a 0), .int (nI i')]) (n := 2) (Nat.le_of_ble_eq_true rfl)
  rw [lg_entry_eq]
  generalize (lg_sl ([.ref (a 0), .int (nI i')]) ++ List.replicate (2 - (lg_sl ([.ref (a 0), .int (nI i')])).length) Slot.unset).toArray = ls at hl ⊢
  have hl : lv_has ls 2 [(0, .ref (a 0)), (1, .int (nI i'))] := hl
  have hP : va_P (dC, dI) vwCl (wX a cA x ru ma jo gv tk V.length fV R.length fR Lo.length fO) s.heap := hP
  refine mk_start (A := A) hP (fun H locs hP hS => ?_)
  obtain ⟨hok, hlen, -, -, -⟩ := id hR
  obtain ⟨hokO0, hlenO, -, -, -⟩ := id hO
  refine lv_aload_n hx hb qd_X_correctRow_0 rfl (lv_at hl 0 rfl) ?_
  refine lv_aload_n hx hb qd_X_correctRow_1 rfl (lv_at hl 0 rfl) ?_
  refine va_get (D := (dC, dI)) (ci := 0) (v := .ref (a 7)) (C := qR_X) (T := qT_X) (N := 13) hx hb hts qin_X hown hK hP 0 rfl rfl 3 (by decide) (hts _ mw_119) (fun _ h9 => h9) rfl qd_X_correctRow_2 ?_
  refine lv_iload_n hx hb qd_X_correctRow_5 rfl (lv_at hl 1 rfl) ?_
  refine lv_iconst (v := 1) hx hb qd_X_correctRow_6 (by decide) ?_
  refine mk_calli (va_runV (As := [.int (nI i'), .int 1]) (rest := [.ref (a 0)]) ⟨hx, hb, hml, hown, hts⟩ (c_R_get l dC dI cA H.size (a 7) (a 8) (a 9) fR R hR (nI i') 1) (cwV 2 hts gc_X_129 rfl rfl rfl (by decide +kernel) ⟨Nat.le_of_ble_eq_true rfl, Nat.le_of_ble_eq_true rfl⟩) (mk_roV hP [7, 8, 9] rfl hK (va_recv hK hP (ci := 3) (q0 := 7) rfl rfl)) rfl rfl hl.1 rfl (lv_room (Nat.le_of_ble_eq_true rfl)) qd_X_correctRow_7 ⟨(Nat.zero_le _), (Nat.zero_le _)⟩) hS hA hP (fun r_1 H locs hr_1 hP hS => ?_)
  obtain rfl : r_1 = r0 1 := Eq.trans hr_1 (sh_get_in (by omega) (by decide) hr0 (by decide))
  refine mk_rw (y := nI kn) (ekn) ?_
  refine lv_aload_n hx hb qd_X_correctRow_10 rfl (lv_at hl 0 rfl) ?_
  refine va_get (D := (dC, dI)) (ci := 0) (v := .ref (a 7)) (C := qR_X) (T := qT_X) (N := 13) hx hb hts qin_X hown hK hP 0 rfl rfl 3 (by decide) (hts _ mw_119) (fun _ h9 => h9) rfl qd_X_correctRow_11 ?_
  refine lv_iload_n hx hb qd_X_correctRow_14 rfl (lv_at hl 1 rfl) ?_
  refine lv_iconst (v := 2) hx hb qd_X_correctRow_15 (by decide) ?_
  refine mk_calli (va_runV (As := [.int (nI i'), .int 2]) (rest := [.int (nI kn), .ref (a 0)]) ⟨hx, hb, hml, hown, hts⟩ (c_R_get l dC dI cA H.size (a 7) (a 8) (a 9) fR R hR (nI i') 2) (cwV 2 hts gc_X_129 rfl rfl rfl (by decide +kernel) ⟨Nat.le_of_ble_eq_true rfl, Nat.le_of_ble_eq_true rfl⟩) (mk_roV hP [7, 8, 9] rfl hK (va_recv hK hP (ci := 3) (q0 := 7) rfl rfl)) rfl rfl hl.1 rfl (lv_room (Nat.le_of_ble_eq_true rfl)) qd_X_correctRow_16 ⟨(Nat.zero_le _), (Nat.zero_le _)⟩) hS hA hP (fun r_2 H locs hr_2 hP hS => ?_)
  obtain rfl : r_2 = r0 2 := Eq.trans hr_2 (sh_get_in (by omega) (by decide) hr0 (by decide))
  refine mk_mcallv (wr := []) (wf := (fun u => (wX a cA x ru ma u gv tk V.length fV R.length fR Lo.length fO))) (va_runV (As := [.int (nI kn), .int (r0 2)]) (rest := []) ⟨hx, hb, hml, hown, hts⟩ (c_X_findJoin l dC dI cA H.size a x ru ma jo gv tk fV R.length fR Lo.length fO V hV hcuts kn hkn (r0 2)) (cwV 2 hts gc_X_159 rfl rfl rfl (by decide +kernel) ⟨Nat.le_of_ble_eq_true rfl, Nat.le_of_ble_eq_true rfl⟩) (mk_muP hP hD [0, 1, 2, 3, 4, 5, 6, 7, 8, 9, 10, 11, 12] (by decide) rfl hK (va_recv hK hP (ci := 0) (q0 := 0) rfl rfl)) rfl rfl hl.1 rfl (lv_room (Nat.le_of_ble_eq_true rfl)) qd_X_correctRow_19 ⟨(Nat.zero_le _), (Nat.zero_le _)⟩) hS hA hP hD [0, 1, 2, 3, 4, 5, 6, 7, 8, 9, 10, 11, 12] [] [0, 1, 2, 3, 4, 5, 6, 7, 8, 9, 10, 11, 12] rfl rfl (by decide) (by decide) (by decide) (fun _ => rfl) (fun u_4 H locs hu_4 hP hD hS => ?_)
  obtain rfl : u_4 = (xjt V (ru 0) kn (r0 2) jo 3) := hu_4
  have hsame := cr_eq (V := V) (ru := ru) (j0 := jo) hkn ekn
  obtain ⟨t1, t2⟩ := jr_take (V := V) (ru := ru) (j0 := jo) h3 hkn ekn
  generalize (xjt V (ru 0) kn (r0 2) jo 3) = j1 at hP hD hsame t1 t2
  have hP : va_P (dC, dI) vwCl (wX a cA x ru ma j1 gv tk V.length fV R.length fR Lo.length fO) H := hP
  have hD : va_D A (wX a cA x ru ma j1 gv tk V.length fV R.length fR Lo.length fO) := hD
  refine lv_aload_n hx hb qd_X_correctRow_22 rfl (lv_at hl 0 rfl) ?_
  refine va_get (D := (dC, dI)) (ci := 0) (v := .ref (a 7)) (C := qR_X) (T := qT_X) (N := 13) hx hb hts qin_X hown hK hP 0 rfl rfl 3 (by decide) (hts _ mw_119) (fun _ h9 => h9) rfl qd_X_correctRow_23 ?_
  refine lv_iload_n hx hb qd_X_correctRow_26 rfl (lv_at hl 1 rfl) ?_
  refine lv_aload_n hx hb qd_X_correctRow_27 rfl (lv_at hl 0 rfl) ?_
  refine va_get (D := (dC, dI)) (ci := 0) (v := .ref (a 3)) (C := qR_X) (T := qT_X) (N := 13) hx hb hts qin_X hown hK hP 0 rfl rfl 5 (by decide) (hts _ mw_121) (fun _ h9 => h9) rfl qd_X_correctRow_28 ?_
  refine mk_calli (va_runV (As := [.int (nI i'), .ref (a 3)]) (rest := []) ⟨hx, hb, hml, hown, hts⟩ (c_R_hasJoin l dC dI cA H.size (a 7) (a 8) (a 9) (a 3) fR j1 R hR i' r0 hr0) (cwV 2 hts gc_X_180 rfl rfl rfl (by decide +kernel) ⟨Nat.le_of_ble_eq_true rfl, Nat.le_of_ble_eq_true rfl⟩) (mk_roV hP [7, 8, 9, 3] rfl hK (va_recv hK hP (ci := 3) (q0 := 7) rfl rfl)) rfl rfl hl.1 rfl (lv_room (Nat.le_of_ble_eq_true rfl)) qd_X_correctRow_31 ⟨(Nat.zero_le _), (Nat.zero_le _)⟩) hS hA hP (fun r_5 H locs hr_5 hP hS => ?_)
  have hr_5 : (r_5 = 1 ∧ ∀ c, c < 6 → r0 (6 + c) = j1 c) ∨ (r_5 = 0 ∧ ¬ ∀ c, c < 6 → r0 (6 + c) = j1 c) := hr_5
  refine lv_if_eq (tgt := 38) hx hb qd_X_correctRow_34 (by decide) (fun c_6 => ?_) (fun c_6 => ?_)
  · refine mk_after (σ := Nat → Int32) (fun y9 H locs ls => (sh_ok 11 y9 (Lo ++ (if r0 5 = 1 then [ot_rec 0 r0] else []))) ∧ va_P (dC, dI) vwCl (wX a cA x ru ma j1 gv (tk + nI (if r0 5 = 1 then 1 else 0)) V.length fV R.length fR ((Lo ++ (if r0 5 = 1 then [ot_rec 0 r0] else [])).length) y9) H ∧ va_D A (wX a cA x ru ma j1 gv (tk + nI (if r0 5 = 1 then 1 else 0)) V.length fV R.length fR ((Lo ++ (if r0 5 = 1 then [ot_rec 0 r0] else [])).length) y9) ∧ va_S A s.heap H locs ∧ lv_has ls 2 [(0, .ref (a 0)), (1, .int (nI i'))]) (fun ls => F0 m 62 ls []) (fun y9 H locs ls hI => ?_) (fun J_7 => ?_)
    · obtain ⟨f4, rfl⟩ : ∃ z, z = y9 := ⟨_, rfl⟩
      obtain ⟨hinv, hP, hD, hS, hl⟩ := hI
      have hinv : sh_ok 11 f4 (Lo ++ (if r0 5 = 1 then [ot_rec 0 r0] else [])) := hinv
      have hP : va_P (dC, dI) vwCl (wX a cA x ru ma j1 gv (tk + nI (if r0 5 = 1 then 1 else 0)) V.length fV R.length fR ((Lo ++ (if r0 5 = 1 then [ot_rec 0 r0] else [])).length) f4) H := hP
      have hD : va_D A (wX a cA x ru ma j1 gv (tk + nI (if r0 5 = 1 then 1 else 0)) V.length fV R.length fR ((Lo ++ (if r0 5 = 1 then [ot_rec 0 r0] else [])).length) f4) := hD
      have hl : lv_has ls 2 [(0, .ref (a 0)), (1, .int (nI i'))] := hl
      refine lv_aload_n hx hb qd_X_correctRow_62 rfl (lv_at hl 0 rfl) ?_
      refine lv_iload_n hx hb qd_X_correctRow_63 rfl (lv_at hl 1 rfl) ?_
      have hwo : sh_wf 11 192 f4 (Lo ++ (if r0 5 = 1 then [ot_rec 0 r0] else [])) := ⟨hinv, by rw [List.length_append]; have := cr_l1 r0; omega, by decide, by decide, by decide⟩
      have hwl : (Lo ++ (if r0 5 = 1 then [ot_rec 0 r0] else [])).length < 192 := by rw [List.length_append]; have := cr_l1 r0; omega
      refine mk_mcallv (wr := []) (wf := (fun u => (wX a cA x ru ma j1 u.2.2 (tk + nI (if r0 5 = 1 then 1 else 0)) V.length fV u.1.1.length u.1.2 u.2.1.1.length u.2.1.2))) (va_runV (As := [.int (nI i')]) (rest := []) ⟨hx, hb, hml, hown, hts⟩ (c_X_takeJoin l dC dI cA H.size a x ru ma j1 gv (tk + nI (if r0 5 = 1 then 1 else 0)) V.length fV fR f4 R (Lo ++ (if r0 5 = 1 then [ot_rec 0 r0] else [])) hR hwo hwl n3 hn3 h3 i' r0 hr0) (cwV 1 hts gc_X_163 rfl rfl rfl (by decide +kernel) ⟨Nat.le_of_ble_eq_true rfl, Nat.le_of_ble_eq_true rfl⟩) (mk_muP hP hD [0, 1, 2, 3, 4, 5, 6, 7, 8, 9, 10, 11, 12] (by decide) rfl hK (va_recv hK hP (ci := 0) (q0 := 0) rfl rfl)) rfl rfl hl.1 rfl (lv_room (Nat.le_of_ble_eq_true rfl)) qd_X_correctRow_64 ⟨(Nat.zero_le _), (Nat.zero_le _)⟩) hS hA hP hD [0, 1, 2, 3, 4, 5, 6, 7, 8, 9, 10, 11, 12] [] [0, 1, 2, 3, 4, 5, 6, 7, 8, 9, 10, 11, 12] rfl rfl (by decide) (by decide) (by decide) (fun _ => rfl) (fun u_9 H locs hu_9 hP hD hS => ?_)
      obtain ⟨⟨R1, f5⟩, ⟨Q1, f6⟩, g1⟩ := u_9
      obtain ⟨eR, hok5, eO, hok6, eg⟩ : R1 = R.set i' (rs_jn r0 (xg_b (ru 2) n3 j1) j1 6) ∧ sh_ok 12 f5 R1 ∧ Q1 = (Lo ++ (if r0 5 = 1 then [ot_rec 0 r0] else [])) ++ (if (xg_b (ru 2) n3 j1) = 1 then [ot_rec 1 (rs_jn r0 (xg_b (ru 2) n3 j1) j1 6)] else []) ∧ sh_ok 11 f6 Q1 ∧ g1 = (if (xg_b (ru 2) n3 j1) = 1 then gv + 1 else gv) := hu_9
      have hs : ¬ cr_s V (ru 0) r0 = true := fun q => hr_5.elim (fun z => absurd z.1 (by rw [c_6]; decide)) (fun z => z.2 (hsame.mpr q))
      rw [t2, ← show (cr_new V ru n3 r0) = jr_t V ru n3 r0 from if_neg hs] at eR
      rw [t2, t1, List.append_assoc, ← show (cr_o V ru n3 r0) = (if r0 5 = 1 then [ot_rec 0 r0] else []) ++ (if jr_g V ru n3 r0 = 1 then [ot_rec 1 (jr_t V ru n3 r0)] else []) from if_neg hs] at eO
      rw [t1, nI_ite_0, ← show (cr_dg V ru n3 r0) = (if jr_g V ru n3 r0 = 1 then 1 else 0) from if_neg hs] at eg
      rw [← show (cr_dt V ru r0) = (if r0 5 = 1 then 1 else 0) from if_neg hs] at hP hD
      subst eR; subst eO; subst eg
      have hP : va_P (dC, dI) vwCl (wX a cA x ru ma j1 (gv + nI (cr_dg V ru n3 r0)) (tk + nI (cr_dt V ru r0)) V.length fV ((R.set i' (cr_new V ru n3 r0)).length) f5 ((Lo ++ (cr_o V ru n3 r0)).length) f6) H := hP
      have hD : va_D A (wX a cA x ru ma j1 (gv + nI (cr_dg V ru n3 r0)) (tk + nI (cr_dt V ru r0)) V.length fV ((R.set i' (cr_new V ru n3 r0)).length) f5 ((Lo ++ (cr_o V ru n3 r0)).length) f6) := hD
      exact mk_mvret (j1, (R.set i' (cr_new V ru n3 r0), f5), (Lo ++ (cr_o V ru n3 r0), f6), gv + nI (cr_dg V ru n3 r0), tk + nI (cr_dt V ru r0)) hx hb hr hlocks hP hK hD hS qd_X_correctRow_67 (⟨rfl, hok5, rfl, hok6, rfl, rfl⟩)
    · refine lv_aload_n hx hb qd_X_correctRow_38 rfl (lv_at hl 0 rfl) ?_
      refine va_get (D := (dC, dI)) (ci := 0) (v := .ref (a 7)) (C := qR_X) (T := qT_X) (N := 13) hx hb hts qin_X hown hK hP 0 rfl rfl 3 (by decide) (hts _ mw_119) (fun _ h9 => h9) rfl qd_X_correctRow_39 ?_
      refine lv_iload_n hx hb qd_X_correctRow_42 rfl (lv_at hl 1 rfl) ?_
      refine mk_calli (va_runV (As := [.int (nI i')]) (rest := []) ⟨hx, hb, hml, hown, hts⟩ (c_R_wasGiven l dC dI cA H.size (a 7) (a 8) (a 9) fR R hR (nI i')) (cwV 1 hts gc_X_184 rfl rfl rfl (by decide +kernel) ⟨Nat.le_of_ble_eq_true rfl, Nat.le_of_ble_eq_true rfl⟩) (mk_roV hP [7, 8, 9] rfl hK (va_recv hK hP (ci := 3) (q0 := 7) rfl rfl)) rfl rfl hl.1 rfl (lv_room (Nat.le_of_ble_eq_true rfl)) qd_X_correctRow_43 ⟨(Nat.zero_le _), (Nat.zero_le _)⟩) hS hA hP (fun r_10 H locs hr_10 hP hS => ?_)
      obtain rfl : r_10 = if r0 5 = 1 then 1 else 0 := Eq.trans hr_10 (by rw [show sh_get 12 R (nI i') 5 = r0 5 from sh_get_in (by omega) (by decide) hr0 (by decide)])
      refine lv_if_eq (tgt := 62) hx hb qd_X_correctRow_46 (by decide) (fun c_11 => ?_) (fun c_11 => ?_)
      · have hg := rs_n1 c_11
        have hP : va_P (dC, dI) vwCl (wX a cA x ru ma j1 gv (tk + nI (if r0 5 = 1 then 1 else 0)) V.length fV R.length fR ((Lo ++ (if r0 5 = 1 then [ot_rec 0 r0] else [])).length) fO) H := by rw [if_neg hg, if_neg hg, List.append_nil, show tk + nI 0 = tk from Int32.add_zero tk]; exact hP
        have hD : va_D A (wX a cA x ru ma j1 gv (tk + nI (if r0 5 = 1 then 1 else 0)) V.length fV R.length fR ((Lo ++ (if r0 5 = 1 then [ot_rec 0 r0] else [])).length) fO) := by rw [if_neg hg, if_neg hg, List.append_nil, show tk + nI 0 = tk from Int32.add_zero tk]; exact hD
        exact J_7 fO H locs ls ⟨by rw [if_neg hg, List.append_nil]; exact hO.1, hP, hD, hS, lv_sub hl [0, 1] rfl⟩
      · refine lv_aload_n hx hb qd_X_correctRow_49 rfl (lv_at hl 0 rfl) ?_
        refine va_get (D := (dC, dI)) (ci := 0) (v := .ref (a 10)) (C := qR_X) (T := qT_X) (N := 13) hx hb hts qin_X hown hK hP 0 rfl rfl 4 (by decide) (hts _ mw_120) (fun _ h9 => h9) rfl qd_X_correctRow_50 ?_
        refine lv_iconst (v := 0) hx hb qd_X_correctRow_53 (by decide) ?_
        refine lv_aload_n hx hb qd_X_correctRow_54 rfl (lv_at hl 0 rfl) ?_
        refine va_get (D := (dC, dI)) (ci := 0) (v := .ref (a 7)) (C := qR_X) (T := qT_X) (N := 13) hx hb hts qin_X hown hK hP 0 rfl rfl 3 (by decide) (hts _ mw_119) (fun _ h9 => h9) rfl qd_X_correctRow_55 ?_
        refine lv_iload_n hx hb qd_X_correctRow_58 rfl (lv_at hl 1 rfl) ?_
        refine mk_mcallv (wr := [((a 0), .inr (0, [.ref (a 1), .ref (a 2), .ref (a 4), .ref (a 7), .ref (a 10), .ref (a 3), .int (x 6), .int (x 7), .int (x 8), .int (x 9), .int (x 10), .int (x 11), .int (x 12)])), ((a 1), .inl (cA, 4, .inl ru)), ((a 2), .inl (cA, 3, .inl ma)), ((a 3), .inl (cA, 6, .inl j1)), ((a 4), .inr (5, [.ref (a 5)])), ((a 5), .inr (4, [.int (nI 3), .int (nI 160), .ref (a 6), .int (nI V.length)])), ((a 6), .inl (cA, (3 * 160), .inl fV))]) (wf := (fun u => (wX a cA x ru ma j1 (if (0 : Int32) = 1 then gv + 1 else gv) (if (0 : Int32) = 1 then tk else tk + 1) V.length fV R.length fR u.1.length u.2))) (va_runV (As := [.int 0, .ref (a 7), .int (nI i')]) (rest := []) ⟨hx, hb, hml, hown, hts⟩ (c_O_add l dC dI cA H.size (a 10) (a 11) (a 12) (a 7) (a 8) (a 9) gv tk fO fR Lo R hO hR (by omega) 0 i' r0 hr0) (cwV 3 hts gc_X_174 rfl rfl rfl (by decide +kernel) ⟨Nat.le_of_ble_eq_true rfl, Nat.le_of_ble_eq_true rfl⟩) (mk_muP hP hD [10, 11, 12, 7, 8, 9] (by decide) rfl hK (va_recv hK hP (ci := 2) (q0 := 10) rfl rfl)) rfl rfl hl.1 rfl (lv_room (Nat.le_of_ble_eq_true rfl)) qd_X_correctRow_59 ⟨(Nat.zero_le _), (Nat.zero_le _)⟩) hS hA hP hD [10, 11, 12, 7, 8, 9] [0, 1, 2, 3, 4, 5, 6] [0, 1, 2, 3, 4, 5, 6, 10, 11, 12, 7, 8, 9] rfl rfl (by decide) (by decide) (by decide) (fun _ => rfl) (fun u_13 H locs hu_13 hP hD hS => ?_)
        obtain ⟨Q1, fO1⟩ := u_13
        obtain ⟨rfl, hokO⟩ : Q1 = Lo ++ [ot_rec 0 r0] ∧ sh_ok 11 fO1 Q1 := hu_13
        rw [if_neg (show ¬ (0 : Int32) = 1 by decide), if_neg (show ¬ (0 : Int32) = 1 by decide)] at hP hD
        have hP : va_P (dC, dI) vwCl (wX a cA x ru ma j1 gv (tk + nI 1) V.length fV R.length fR ((Lo ++ [ot_rec 0 r0]).length) fO1) H := hP
        have hD : va_D A (wX a cA x ru ma j1 gv (tk + nI 1) V.length fV R.length fR ((Lo ++ [ot_rec 0 r0]).length) fO1) := hD
        have hg := rs_n2 c_11
        have hP : va_P (dC, dI) vwCl (wX a cA x ru ma j1 gv (tk + nI (if r0 5 = 1 then 1 else 0)) V.length fV R.length fR ((Lo ++ (if r0 5 = 1 then [ot_rec 0 r0] else [])).length) fO1) H := by rw [if_pos hg, if_pos hg]; exact hP
        have hD : va_D A (wX a cA x ru ma j1 gv (tk + nI (if r0 5 = 1 then 1 else 0)) V.length fV R.length fR ((Lo ++ (if r0 5 = 1 then [ot_rec 0 r0] else [])).length) fO1) := by rw [if_pos hg, if_pos hg]; exact hD
        exact J_7 fO1 H locs ls ⟨by rw [if_pos hg]; exact hokO, hP, hD, hS, lv_sub hl [0, 1] rfl⟩
  · have hs : cr_s V (ru 0) r0 = true := hsame.mp (hr_5.elim (fun q => q.2) (fun q => absurd q.1 c_6))
    have e1 : R.set i' (cr_new V ru n3 r0) = R := by rw [show (cr_new V ru n3 r0) = r0 from if_pos hs]; exact cr_set hr0
    have e2 : Lo ++ (cr_o V ru n3 r0) = Lo := by rw [show (cr_o V ru n3 r0) = [] from if_pos hs, List.append_nil]
    have e3 : gv + nI (cr_dg V ru n3 r0) = gv := by rw [show (cr_dg V ru n3 r0) = 0 from if_pos hs]; exact Int32.add_zero gv
    have e4 : tk + nI (cr_dt V ru r0) = tk := by rw [show (cr_dt V ru r0) = 0 from if_pos hs]; exact Int32.add_zero tk
    have hP : va_P (dC, dI) vwCl (wX a cA x ru ma j1 (gv + nI (cr_dg V ru n3 r0)) (tk + nI (cr_dt V ru r0)) V.length fV ((R.set i' (cr_new V ru n3 r0)).length) fR ((Lo ++ (cr_o V ru n3 r0)).length) fO) H := by rw [e1, e2, e3, e4]; exact hP
    have hD : va_D A (wX a cA x ru ma j1 (gv + nI (cr_dg V ru n3 r0)) (tk + nI (cr_dt V ru r0)) V.length fV ((R.set i' (cr_new V ru n3 r0)).length) fR ((Lo ++ (cr_o V ru n3 r0)).length) fO) := by rw [e1, e2, e3, e4]; exact hD
    exact mk_mvret (j1, (R.set i' (cr_new V ru n3 r0), fR), (Lo ++ (cr_o V ru n3 r0), fO), gv + nI (cr_dg V ru n3 r0), tk + nI (cr_dt V ru r0)) hx hb hr hlocks hP hK hD hS qd_X_correctRow_37 ⟨rfl, by rw [e1]; exact hR.1, rfl, by rw [e2]; exact hO.1, rfl, rfl⟩
