set_option maxHeartbeats 4000000 in
set_option maxRecDepth 100000 in
/-- row(key, time, value) -/
theorem c_X_row (l : Launch) (dC : Nat → ClassId) (dI : Nat → Nat → Nat) (cA : ClassId) (sz : Nat) (a : Nat → Nat) (x ru ma jo : Nat → Int32) (gv tk : Int32) (V : List (Nat → Int32)) (fV : Nat → Int32) (R : List (Nat → Int32)) (fR : Nat → Int32) (Lo : List (Nat → Int32)) (fO : Nat → Int32) (n3 : Nat) (hi : xi_ok x V fV R fR Lo fO n3) (ky tm vl : Int32) : Met l qy_X_row qw_X_row ({ frames := 5, cells := 0, slots := 0, locals := 152 }) (mk_mu [.ref (a 0), .int ky, .int tm, .int vl] sz (dC, dI) vwCl [(cA, .int)] (wX a cA x ru ma jo gv tk V.length fV R.length fR Lo.length fO)) (mk_muQ (S := (Nat → Int32) × (Nat → Int32) × Int32 × (List (Nat → Int32) × (Nat → Int32)) × (List (Nat → Int32) × (Nat → Int32))) (fun r u => xo_row n3 x ru ma gv V R Lo ky tm vl r u.1 u.2.2.1 u.2.2.2.1.1 u.2.2.2.2.1 ∧ xi_ok u.1 V fV u.2.2.2.1.1 u.2.2.2.1.2 u.2.2.2.2.1 u.2.2.2.2.2 n3) (fun u => (wX a cA u.1 ru ma u.2.1 u.2.2.1 tk V.length fV u.2.2.2.1.1.length u.2.2.2.1.2 u.2.2.2.2.1.length u.2.2.2.2.2)) (dC, dI) vwCl [(cA, .int)] (va_A (wX a cA x ru ma jo gv tk V.length fV R.length fR Lo.length fO) sz)) 0 0 (va_A (wX a cA x ru ma jo gv tk V.length fV R.length fR Lo.length fO) sz) := by
  refine Met.ofW (cc := qb_X_row) (maxL := 5) (ret := (some .int)) (by decide) rfl ?_
  intro p e s m args below meth c s₁ B hml hpre
  obtain ⟨rfl, hsz, hP, hK, hD0⟩ := hpre
  have hx := B.exec
  have hb := B.bytes
  have hr := B.returns
  have hts0 := atoms_spec (ws := qw_X_row) B.pre
  have hts := fun w (h : w ∈ lw_gd) => hts0 w (List.mem_cons_of_mem _ h)
  have hown : s.vm.findClass qR_X = some m.cls := findClass_of_methodNamed B.named
  have hlocks := B.notSynchronized
  subst hsz
  have hD := hD0.self (sz := s.heap.size)
  generalize hAe : va_A (wX a cA x ru ma jo gv tk V.length fV R.length fR Lo.length fO) s.heap.size = A at hD ⊢
  have hA : ∀ q : Nat, s.heap.size ≤ q → A q := fun q h => by rw [← hAe]; exact Or.inr h
  have hS : va_S A s.heap s.heap [] := va_S.rf
  have hl := lv_entry ([.ref (a 0), .int ky, .int tm, .int vl]) (n := 5) (Nat.le_of_ble_eq_true rfl)
  rw [lg_entry_eq]
  generalize (lg_sl ([.ref (a 0), .int ky, .int tm, .int vl]) ++ List.replicate (5 - (lg_sl ([.ref (a 0), .int ky, .int tm, .int vl])).length) Slot.unset).toArray = ls at hl ⊢
  have hl : lv_has ls 5 [(0, .ref (a 0)), (1, .int ky), (2, .int tm), (3, .int vl)] := hl
  have hP : va_P (dC, dI) vwCl (wX a cA x ru ma jo gv tk V.length fV R.length fR Lo.length fO) s.heap := hP
  refine mk_start (A := A) hP (fun H locs hP hS => ?_)
  obtain ⟨hV, hR, hO, hsort, hpl, hky, hn3, h3⟩ := id hi
  obtain ⟨hokV, hlenV, -, -, -⟩ := id hV
  obtain ⟨hokR, hlenR, -, -, -⟩ := id hR
  obtain ⟨hokO, hlenO, -, -, -⟩ := id hO
  refine lv_iload_n hx hb qd_X_row_0 rfl (lv_at hl 1 rfl) ?_
  refine mk_calli (va_runS (As := [.int ky]) (rest := []) ⟨hx, hb, hml, hown, hts⟩ (c_X_isKey l dC dI cA H.size ky) (va_cwS 1 hts gc_X_52 rfl rfl rfl (by decide +kernel) ⟨Nat.le_of_ble_eq_true rfl, Nat.le_of_ble_eq_true rfl⟩) (mk_roS hP [] rfl hK) rfl rfl hl.1 rfl (lv_room (Nat.le_of_ble_eq_true rfl)) qd_X_row_1 ⟨(Nat.zero_le _), (Nat.zero_le _)⟩) hS hA hP (fun r_1 H locs hr_1 hP hS => ?_)
  obtain rfl : r_1 = xk_b ky := hr_1
  refine lv_if_eq (tgt := 28) hx hb qd_X_row_4 (by decide) (fun c_2 => ?_) (fun c_2 => ?_)
  · refine lv_iconst (v := (-1)) hx hb qd_X_row_28 (by decide) ?_
    exact mk_miret (x, jo, gv, (R, fR), (Lo, fO)) hx hb hr hlocks hP hK hD hS qd_X_row_29 ⟨Or.inl ⟨Or.inl c_2, rfl, rfl, rfl, rfl, rfl⟩, hi⟩
  · refine lv_iload_n hx hb qd_X_row_7 rfl (lv_at hl 2 rfl) ?_
    refine mk_calli (va_runS (As := [.int tm]) (rest := []) ⟨hx, hb, hml, hown, hts⟩ (c_X_isTime l dC dI cA H.size tm) (va_cwS 1 hts gc_X_55 rfl rfl rfl (by decide +kernel) ⟨Nat.le_of_ble_eq_true rfl, Nat.le_of_ble_eq_true rfl⟩) (mk_roS hP [] rfl hK) rfl rfl hl.1 rfl (lv_room (Nat.le_of_ble_eq_true rfl)) qd_X_row_8 ⟨(Nat.zero_le _), (Nat.zero_le _)⟩) hS hA hP (fun r_3 H locs hr_3 hP hS => ?_)
    obtain rfl : r_3 = xm_b tm := hr_3
    refine lv_if_eq (tgt := 28) hx hb qd_X_row_11 (by decide) (fun c_4 => ?_) (fun c_4 => ?_)
    · refine lv_iconst (v := (-1)) hx hb qd_X_row_28 (by decide) ?_
      exact mk_miret (x, jo, gv, (R, fR), (Lo, fO)) hx hb hr hlocks hP hK hD hS qd_X_row_29 ⟨Or.inl ⟨Or.inr (Or.inl c_4), rfl, rfl, rfl, rfl, rfl⟩, hi⟩
    · refine lv_iload_n hx hb qd_X_row_14 rfl (lv_at hl 3 rfl) ?_
      refine mk_calli (va_runS (As := [.int vl]) (rest := []) ⟨hx, hb, hml, hown, hts⟩ (c_X_isValue l dC dI cA H.size vl) (va_cwS 1 hts gc_X_58 rfl rfl rfl (by decide +kernel) ⟨Nat.le_of_ble_eq_true rfl, Nat.le_of_ble_eq_true rfl⟩) (mk_roS hP [] rfl hK) rfl rfl hl.1 rfl (lv_room (Nat.le_of_ble_eq_true rfl)) qd_X_row_15 ⟨(Nat.zero_le _), (Nat.zero_le _)⟩) hS hA hP (fun r_5 H locs hr_5 hP hS => ?_)
      obtain rfl : r_5 = xv_b vl := hr_5
      refine lv_if_eq (tgt := 28) hx hb qd_X_row_18 (by decide) (fun c_6 => ?_) (fun c_6 => ?_)
      · refine lv_iconst (v := (-1)) hx hb qd_X_row_28 (by decide) ?_
        exact mk_miret (x, jo, gv, (R, fR), (Lo, fO)) hx hb hr hlocks hP hK hD hS qd_X_row_29 ⟨Or.inl ⟨Or.inr (Or.inr (Or.inl c_6)), rfl, rfl, rfl, rfl, rfl⟩, hi⟩
      · refine lv_aload_n hx hb qd_X_row_21 rfl (lv_at hl 0 rfl) ?_
        refine va_get (D := (dC, dI)) (ci := 0) (v := .int (x 6)) (C := qR_X) (T := qT_X) (N := 13) hx hb hts qin_X hown hK hP 0 rfl rfl 6 (by decide) (hts _ mw_122) (fun _ h9 => h9) rfl qd_X_row_22 ?_
        refine lv_if_ne (tgt := 30) hx hb qd_X_row_25 (by decide) (fun c_7 => ?_) (fun c_7 => ?_)
        · refine lv_iload_n hx hb qd_X_row_30 rfl (lv_at hl 2 rfl) ?_
          refine lv_aload_n hx hb qd_X_row_31 rfl (lv_at hl 0 rfl) ?_
          refine va_get (D := (dC, dI)) (ci := 0) (v := .int (x 7)) (C := qR_X) (T := qT_X) (N := 13) hx hb hts qin_X hown hK hP 0 rfl rfl 7 (by decide) (hts _ mw_123) (fun _ h9 => h9) rfl qd_X_row_32 ?_
          refine lv_icmp_gt (tgt := 51) hx hb qd_X_row_35 (by decide) (fun c_8 => ?_) (fun c_8 => ?_)
          · refine lv_aload_n hx hb qd_X_row_51 rfl (lv_at hl 0 rfl) ?_
            refine va_get (D := (dC, dI)) (ci := 0) (v := .ref (a 7)) (C := qR_X) (T := qT_X) (N := 13) hx hb hts qin_X hown hK hP 0 rfl rfl 3 (by decide) (hts _ mw_119) (fun _ h9 => h9) rfl qd_X_row_52 ?_
            refine mk_calli (va_runV (As := []) (rest := []) ⟨hx, hb, hml, hown, hts⟩ (c_R_size l dC dI cA H.size (a 7) (a 8) (a 9) fR R hR) (cwV 0 hts gc_X_94 rfl rfl rfl (by decide +kernel) ⟨Nat.le_of_ble_eq_true rfl, Nat.le_of_ble_eq_true rfl⟩) (mk_roV hP [7, 8, 9] rfl hK (va_recv hK hP (ci := 3) (q0 := 7) rfl rfl)) rfl rfl hl.1 rfl (lv_room (Nat.le_of_ble_eq_true rfl)) qd_X_row_55 ⟨(Nat.zero_le _), (Nat.zero_le _)⟩) hS hA hP (fun r_9 H locs hr_9 hP hS => ?_)
            obtain rfl : r_9 = nI R.length := hr_9
            refine lv_bipush (v := 96) hx hb qd_X_row_58 (by decide) ?_
            refine lv_icmp_ge (tgt := 73) hx hb qd_X_row_60 (by decide) (fun c_10 => ?_) (fun c_10 => ?_)
            · refine lv_bipush (v := (-3)) hx hb qd_X_row_73 (by decide) ?_
              exact mk_miret (x, jo, gv, (R, fR), (Lo, fO)) hx hb hr hlocks hP hK hD hS qd_X_row_75 ⟨Or.inr ⟨c_2, c_4, c_6, c_7, Or.inr (Or.inl ⟨c_8, Or.inl ((nI_leI (by decide) (by omega)).mp c_10), rfl, rfl, rfl, rfl, rfl⟩)⟩, hi⟩
            · refine lv_aload_n hx hb qd_X_row_63 rfl (lv_at hl 0 rfl) ?_
              refine va_get (D := (dC, dI)) (ci := 0) (v := .int (x 8)) (C := qR_X) (T := qT_X) (N := 13) hx hb hts qin_X hown hK hP 0 rfl rfl 8 (by decide) (hts _ mw_124) (fun _ h9 => h9) rfl qd_X_row_64 ?_
              refine lv_sipush (v := 30000) hx hb qd_X_row_67 (by decide) ?_
              refine lv_icmp_lt (tgt := 76) hx hb qd_X_row_70 (by decide) (fun c_11 => ?_) (fun c_11 => ?_)
              · have hroom : R.length < 96 := by rcases Nat.lt_or_ge R.length 96 with q | q; exact q; exact absurd (nI_le q (by omega)) c_10
                refine lv_aload_n hx hb qd_X_row_76 rfl (lv_at hl 0 rfl) ?_
                refine mk_mcallv (wr := []) (wf := (fun u => (wX a cA (upd x 12 1) ru ma jo gv tk V.length fV R.length fR u.1.length u.2))) (va_runV (As := []) (rest := []) ⟨hx, hb, hml, hown, hts⟩ (c_X_begin l dC dI cA H.size a x ru ma jo gv tk V.length fV R.length fR fO Lo hO) (cwV 0 hts gc_X_72 rfl rfl rfl (by decide +kernel) ⟨Nat.le_of_ble_eq_true rfl, Nat.le_of_ble_eq_true rfl⟩) (mk_muP hP hD [0, 1, 2, 3, 4, 5, 6, 7, 8, 9, 10, 11, 12] (by decide) rfl hK (va_recv hK hP (ci := 0) (q0 := 0) rfl rfl)) rfl rfl hl.1 rfl (lv_room (Nat.le_of_ble_eq_true rfl)) qd_X_row_77 ⟨(Nat.zero_le _), (Nat.zero_le _)⟩) hS hA hP hD [0, 1, 2, 3, 4, 5, 6, 7, 8, 9, 10, 11, 12] [] [0, 1, 2, 3, 4, 5, 6, 7, 8, 9, 10, 11, 12] rfl rfl (by decide) (by decide) (by decide) (fun _ => rfl) (fun u_13 H locs hu_13 hP hD hS => ?_)
                obtain ⟨Q1, f1⟩ := u_13
                obtain ⟨rfl, hok1⟩ : Q1 = [] ∧ sh_ok 11 f1 Q1 := hu_13
                have hO1 : sh_wf 11 192 f1 [] := ⟨hok1, by decide, by decide, by decide, by decide⟩
                have hP : va_P (dC, dI) vwCl (wX a cA (upd x 12 1) ru ma jo gv tk V.length fV R.length fR (([] : List (Nat → Int32)).length) f1) H := hP
                have hD : va_D A (wX a cA (upd x 12 1) ru ma jo gv tk V.length fV R.length fR (([] : List (Nat → Int32)).length) f1) := hD
                refine lv_aload_n hx hb qd_X_row_80 rfl (lv_at hl 0 rfl) ?_
                refine va_get (D := (dC, dI)) (ci := 0) (v := .int (x 8)) (C := qR_X) (T := qT_X) (N := 13) hx hb hts qin_X hown hK hP 0 rfl rfl 8 (by decide) (hts _ mw_124) (fun _ h9 => h9) rfl qd_X_row_81 ?_
                refine lv_istore (lv' := [(4, .int (x 8)), (0, .ref (a 0)), (1, .int ky), (2, .int tm), (3, .int vl)]) hx hb qd_X_row_84 hl (by decide) rfl (fun ls hl => ?_)
                refine lv_aload_n hx hb qd_X_row_86 rfl (lv_at hl 1 rfl) ?_
                refine lv_dup hx hb qd_X_row_87 rfl ?_
                refine va_get (D := (dC, dI)) (ci := 0) (v := .int (x 8)) (C := qR_X) (T := qT_X) (N := 13) hx hb hts qin_X hown hK hP 0 rfl rfl 8 (by decide) (hts _ mw_124) (fun _ h9 => h9) rfl qd_X_row_88 ?_
                refine lv_iconst (v := 1) hx hb qd_X_row_91 (by decide) ?_
                refine lv_iadd hx hb qd_X_row_92 ?_
                refine va_put (D := (dC, dI)) (ci := 0) (v := .int ((x 8) + 1)) (ty := .int) (C := qR_X) (T := qT_X) (N := 13) hx hb hts qin_X qty_X qtyok_X qnm_X hown hK hP hD hS 0 rfl rfl 8 (by decide) (hts _ mw_124) (fun _ h9 => h9) rfl (by decide +kernel) rfl rfl (Nat.le_of_ble_eq_true rfl) qd_X_row_93 (fun H locs hP hD hS => ?_)
                have hP : va_P (dC, dI) vwCl (wX a cA (upd (upd x 12 1) 8 ((x 8) + 1)) ru ma jo gv tk V.length fV R.length fR (([] : List (Nat → Int32)).length) f1) H := hP
                have hD : va_D A (wX a cA (upd (upd x 12 1) 8 ((x 8) + 1)) ru ma jo gv tk V.length fV R.length fR (([] : List (Nat → Int32)).length) f1) := hD
                refine lv_aload_n hx hb qd_X_row_96 rfl (lv_at hl 1 rfl) ?_
                refine va_get (D := (dC, dI)) (ci := 0) (v := .ref (a 7)) (C := qR_X) (T := qT_X) (N := 13) hx hb hts qin_X hown hK hP 0 rfl rfl 3 (by decide) (hts _ mw_119) (fun _ h9 => h9) rfl qd_X_row_97 ?_
                refine lv_iload hx hb qd_X_row_100 (lv_at hl 0 rfl) ?_
                refine lv_iload_n hx hb qd_X_row_102 rfl (lv_at hl 2 rfl) ?_
                refine lv_iload_n hx hb qd_X_row_103 rfl (lv_at hl 3 rfl) ?_
                refine lv_iload_n hx hb qd_X_row_104 rfl (lv_at hl 4 rfl) ?_
                refine mk_mcallv (wr := [((a 0), .inr (0, [.ref (a 1), .ref (a 2), .ref (a 4), .ref (a 7), .ref (a 10), .ref (a 3), .int (x 6), .int (x 7), .int ((x 8) + 1), .int (x 9), .int (x 10), .int (x 11), .int 1])), ((a 1), .inl (cA, 4, .inl ru)), ((a 2), .inl (cA, 3, .inl ma)), ((a 3), .inl (cA, 6, .inl jo)), ((a 4), .inr (5, [.ref (a 5)])), ((a 5), .inr (4, [.int (nI 3), .int (nI 160), .ref (a 6), .int (nI V.length)])), ((a 6), .inl (cA, (3 * 160), .inl fV)), ((a 10), .inr (2, [.ref (a 11), .int gv, .int tk])), ((a 11), .inr (4, [.int (nI 11), .int (nI 192), .ref (a 12), .int (nI (([] : List (Nat → Int32)).length))])), ((a 12), .inl (cA, (11 * 192), .inl f1))]) (wf := (fun u => (wX a cA (upd (upd x 12 1) 8 ((x 8) + 1)) ru ma jo gv tk V.length fV u.1.length u.2 (([] : List (Nat → Int32)).length) f1))) (va_runV (As := [.int (x 8), .int ky, .int tm, .int vl]) (rest := []) ⟨hx, hb, hml, hown, hts⟩ (c_R_add l dC dI cA H.size (a 7) (a 8) (a 9) fR R hR (x 8) ky tm vl hroom) (cwV 4 hts gc_X_98 rfl rfl rfl (by decide +kernel) ⟨Nat.le_of_ble_eq_true rfl, Nat.le_of_ble_eq_true rfl⟩) (mk_muP hP hD [7, 8, 9] (by decide) rfl hK (va_recv hK hP (ci := 3) (q0 := 7) rfl rfl)) rfl rfl hl.1 rfl (lv_room (Nat.le_of_ble_eq_true rfl)) qd_X_row_105 ⟨(Nat.zero_le _), (Nat.zero_le _)⟩) hS hA hP hD [7, 8, 9] [0, 1, 2, 3, 4, 5, 6, 10, 11, 12] [0, 1, 2, 3, 4, 5, 6, 10, 11, 12, 7, 8, 9] rfl rfl (by decide) (by decide) (by decide) (fun _ => rfl) (fun u_15 H locs hu_15 hP hD hS => ?_)
                obtain ⟨R1, fR1⟩ := u_15
                obtain ⟨hadd, hokR1⟩ : rs_add R (x 8) ky tm vl R1 ∧ sh_ok 12 fR1 R1 := hu_15
                have hla := rs_add_len hadd
                have hR1 : sh_wf 12 96 fR1 R1 := ⟨hokR1, by omega, by decide, by decide, by decide⟩
                have hky1 := rs_add_ky hky c_2 hadd
                have hP : va_P (dC, dI) vwCl (wX a cA (upd (upd x 12 1) 8 ((x 8) + 1)) ru ma jo gv tk V.length fV R1.length fR1 (([] : List (Nat → Int32)).length) f1) H := hP
                have hD : va_D A (wX a cA (upd (upd x 12 1) 8 ((x 8) + 1)) ru ma jo gv tk V.length fV R1.length fR1 (([] : List (Nat → Int32)).length) f1) := hD
                refine lv_aload_n hx hb qd_X_row_108 rfl (lv_at hl 1 rfl) ?_
                refine mk_mcallv (wr := []) (wf := (fun u => (wX a cA (upd (upd x 12 1) 8 ((x 8) + 1)) ru ma u.1 u.2.2.2 tk V.length fV u.2.1.1.length u.2.1.2 u.2.2.1.1.length u.2.2.1.2))) (va_runV (As := []) (rest := []) ⟨hx, hb, hml, hown, hts⟩ (c_X_joinRows l dC dI cA H.size a (upd (upd x 12 1) 8 ((x 8) + 1)) ru ma jo gv tk fV fR1 f1 V R1 ([]) hV hR1 hO1 (vs_cuts hsort) n3 hn3 h3 hky1 (by simp only [List.length_nil]; omega)) (cwV 0 hts gc_X_102 rfl rfl rfl (by decide +kernel) ⟨Nat.le_of_ble_eq_true rfl, Nat.le_of_ble_eq_true rfl⟩) (mk_muP hP hD [0, 1, 2, 3, 4, 5, 6, 7, 8, 9, 10, 11, 12] (by decide) rfl hK (va_recv hK hP (ci := 0) (q0 := 0) rfl rfl)) rfl rfl hl.1 rfl (lv_room (Nat.le_of_ble_eq_true rfl)) qd_X_row_109 ⟨(Nat.zero_le _), (Nat.zero_le _)⟩) hS hA hP hD [0, 1, 2, 3, 4, 5, 6, 7, 8, 9, 10, 11, 12] [] [0, 1, 2, 3, 4, 5, 6, 7, 8, 9, 10, 11, 12] rfl rfl (by decide) (by decide) (by decide) (fun _ => rfl) (fun u_17 H locs hu_17 hP hD hS => ?_)
                obtain ⟨j3, ⟨R2, f3⟩, ⟨Q1, f4⟩, g1⟩ := u_17
                obtain ⟨rfl, hok3, rfl, hok4, rfl⟩ : R2 = R1.map (jr_row V ru n3 (xt_low ma n3)) ∧ sh_ok 12 f3 R2 ∧ Q1 = [] ++ R1.flatMap (jr_out V ru n3 (xt_low ma n3)) ∧ sh_ok 11 f4 Q1 ∧ g1 = gv + nI (sw_n (jr_d V ru n3 (xt_low ma n3)) R1 R1.length) := hu_17
                have hP : va_P (dC, dI) vwCl (wX a cA (upd (upd x 12 1) 8 ((x 8) + 1)) ru ma j3 (gv + nI (sw_n (jr_d V ru n3 (xt_low ma n3)) R1 R1.length)) tk V.length fV ((R1.map (jr_row V ru n3 (xt_low ma n3))).length) f3 (([] ++ R1.flatMap (jr_out V ru n3 (xt_low ma n3))).length) f4) H := hP
                have hD : va_D A (wX a cA (upd (upd x 12 1) 8 ((x 8) + 1)) ru ma j3 (gv + nI (sw_n (jr_d V ru n3 (xt_low ma n3)) R1 R1.length)) tk V.length fV ((R1.map (jr_row V ru n3 (xt_low ma n3))).length) f3 (([] ++ R1.flatMap (jr_out V ru n3 (xt_low ma n3))).length) f4) := hD
                refine lv_iload hx hb qd_X_row_112 (lv_at hl 0 rfl) ?_
                exact mk_miret (upd (upd x 12 1) 8 (x 8 + 1), j3, gv + nI (sw_n (jr_d V ru n3 (xt_low ma n3)) R1 R1.length), (R1.map (jr_row V ru n3 (xt_low ma n3)), f3), ([] ++ R1.flatMap (jr_out V ru n3 (xt_low ma n3)), f4)) hx hb hr hlocks hP hK hD hS qd_X_row_114 ⟨Or.inr ⟨c_2, c_4, c_6, c_7, Or.inr (Or.inr ⟨c_8, hroom, c_11, rfl, rfl, R1, hadd, rfl, rfl, rfl⟩)⟩, hV, ⟨hok3, by rw [List.length_map]; omega, by decide, by decide, by decide⟩, ⟨hok4, by have := jr_flen V ru n3 (xt_low ma n3) R1; simp only [List.nil_append]; omega, by decide, by decide, by decide⟩, hsort, hpl, vs_all_map hky1 jr_ky, hn3, h3⟩
              · refine lv_bipush (v := (-3)) hx hb qd_X_row_73 (by decide) ?_
                exact mk_miret (x, jo, gv, (R, fR), (Lo, fO)) hx hb hr hlocks hP hK hD hS qd_X_row_75 ⟨Or.inr ⟨c_2, c_4, c_6, c_7, Or.inr (Or.inl ⟨c_8, Or.inr c_11, rfl, rfl, rfl, rfl, rfl⟩)⟩, hi⟩
          · refine lv_aload_n hx hb qd_X_row_38 rfl (lv_at hl 0 rfl) ?_
            refine lv_dup hx hb qd_X_row_39 rfl ?_
            refine va_get (D := (dC, dI)) (ci := 0) (v := .int (x 11)) (C := qR_X) (T := qT_X) (N := 13) hx hb hts qin_X hown hK hP 0 rfl rfl 11 (by decide) (hts _ mw_127) (fun _ h9 => h9) rfl qd_X_row_40 ?_
            refine lv_iconst (v := 1) hx hb qd_X_row_43 (by decide) ?_
            refine lv_iadd hx hb qd_X_row_44 ?_
            refine va_put (D := (dC, dI)) (ci := 0) (v := .int ((x 11) + 1)) (ty := .int) (C := qR_X) (T := qT_X) (N := 13) hx hb hts qin_X qty_X qtyok_X qnm_X hown hK hP hD hS 0 rfl rfl 11 (by decide) (hts _ mw_127) (fun _ h9 => h9) rfl (by decide +kernel) rfl rfl (Nat.le_of_ble_eq_true rfl) qd_X_row_45 (fun H locs hP hD hS => ?_)
            have hP : va_P (dC, dI) vwCl (wX a cA (upd x 11 ((x 11) + 1)) ru ma jo gv tk V.length fV R.length fR Lo.length fO) H := hP
            have hD : va_D A (wX a cA (upd x 11 ((x 11) + 1)) ru ma jo gv tk V.length fV R.length fR Lo.length fO) := hD
            refine lv_bipush (v := (-4)) hx hb qd_X_row_48 (by decide) ?_
            exact mk_miret (upd x 11 (x 11 + 1), jo, gv, (R, fR), (Lo, fO)) hx hb hr hlocks hP hK hD hS qd_X_row_50 ⟨Or.inr ⟨c_2, c_4, c_6, c_7, Or.inl ⟨c_8, rfl, rfl, rfl, rfl, rfl⟩⟩, hi⟩
        · refine lv_iconst (v := (-1)) hx hb qd_X_row_28 (by decide) ?_
          exact mk_miret (x, jo, gv, (R, fR), (Lo, fO)) hx hb hr hlocks hP hK hD hS qd_X_row_29 ⟨Or.inl ⟨Or.inr (Or.inr (Or.inr c_7)), rfl, rfl, rfl, rfl, rfl⟩, hi⟩
set_option maxHeartbeats 4000000 in
set_option maxRecDepth 100000 in
/-- mark(table, time) -/
theorem c_X_mark (l : Launch) (dC : Nat → ClassId) (dI : Nat → Nat → Nat) (cA : ClassId) (sz : Nat) (a : Nat → Nat) (x ru ma jo : Nat → Int32) (gv tk : Int32) (V : List (Nat → Int32)) (fV : Nat → Int32) (R : List (Nat → Int32)) (fR : Nat → Int32) (Lo : List (Nat → Int32)) (fO : Nat → Int32) (n3 : Nat) (hi : xi_ok x V fV R fR Lo fO n3) (t tm : Int32) : Met l qy_X_mark qw_X_mark ({ frames := 5, cells := 0, slots := 0, locals := 152 }) (mk_mu [.ref (a 0), .int t, .int tm] sz (dC, dI) vwCl [(cA, .int)] (wX a cA x ru ma jo gv tk V.length fV R.length fR Lo.length fO)) (mk_muQ (S := (Nat → Int32) × (Nat → Int32) × (Nat → Int32) × Int32 × (List (Nat → Int32) × (Nat → Int32)) × (List (Nat → Int32) × (Nat → Int32)) × (List (Nat → Int32) × (Nat → Int32))) (fun r u => xo_mark n3 x ru ma gv V R Lo t tm r u.1 u.2.1 u.2.2.2.1 u.2.2.2.2.1.1 u.2.2.2.2.2.1.1 u.2.2.2.2.2.2.1 ∧ xi_ok u.1 u.2.2.2.2.1.1 u.2.2.2.2.1.2 u.2.2.2.2.2.1.1 u.2.2.2.2.2.1.2 u.2.2.2.2.2.2.1 u.2.2.2.2.2.2.2 n3) (fun u => (wX a cA u.1 ru u.2.1 u.2.2.1 u.2.2.2.1 tk u.2.2.2.2.1.1.length u.2.2.2.2.1.2 u.2.2.2.2.2.1.1.length u.2.2.2.2.2.1.2 u.2.2.2.2.2.2.1.length u.2.2.2.2.2.2.2)) (dC, dI) vwCl [(cA, .int)] (va_A (wX a cA x ru ma jo gv tk V.length fV R.length fR Lo.length fO) sz)) 0 0 (va_A (wX a cA x ru ma jo gv tk V.length fV R.length fR Lo.length fO) sz) := by
  refine Met.ofW (cc := qb_X_mark) (maxL := 4) (ret := (some .int)) (by decide) rfl ?_
  intro p e s m args below meth c s₁ B hml hpre
  obtain ⟨rfl, hsz, hP, hK, hD0⟩ := hpre
  have hx := B.exec
  have hb := B.bytes
  have hr := B.returns
  have hts0 := atoms_spec (ws := qw_X_mark) B.pre
  have hts := fun w (h : w ∈ lw_gd) => hts0 w (List.mem_cons_of_mem _ h)
  have hown : s.vm.findClass qR_X = some m.cls := findClass_of_methodNamed B.named
  have hlocks := B.notSynchronized
  subst hsz
  have hD := hD0.self (sz := s.heap.size)
  generalize hAe : va_A (wX a cA x ru ma jo gv tk V.length fV R.length fR Lo.length fO) s.heap.size = A at hD ⊢
  have hA : ∀ q : Nat, s.heap.size ≤ q → A q := fun q h => by rw [← hAe]; exact Or.inr h
  have hS : va_S A s.heap s.heap [] := va_S.rf
  have hl := lv_entry ([.ref (a 0), .int t, .int tm]) (n := 4) (Nat.le_of_ble_eq_true rfl)
  rw [lg_entry_eq]
  generalize (lg_sl ([.ref (a 0), .int t, .int tm]) ++ List.replicate (4 - (lg_sl ([.ref (a 0), .int t, .int tm])).length) Slot.unset).toArray = ls at hl ⊢
  have hl : lv_has ls 4 [(0, .ref (a 0)), (1, .int t), (2, .int tm)] := hl
  have hP : va_P (dC, dI) vwCl (wX a cA x ru ma jo gv tk V.length fV R.length fR Lo.length fO) s.heap := hP
  refine mk_start (A := A) hP (fun H locs hP hS => ?_)
  obtain ⟨hV, hR, hO, hsort, hpl, hky, hn3, h3⟩ := id hi
  obtain ⟨hokV, hlenV, -, -, -⟩ := id hV
  obtain ⟨hokR, hlenR, -, -, -⟩ := id hR
  obtain ⟨hokO, hlenO, -, -, -⟩ := id hO
  refine mk_after (σ := Unit) (fun y9 H locs ls => (t = -1 ∨ ¬ xt_b (x 6) t = 0) ∧ va_P (dC, dI) vwCl (wX a cA x ru ma jo gv tk V.length fV R.length fR Lo.length fO) H ∧ va_D A (wX a cA x ru ma jo gv tk V.length fV R.length fR Lo.length fO) ∧ va_S A s.heap H locs ∧ lv_has ls 4 [(0, .ref (a 0)), (1, .int t), (2, .int tm)]) (fun ls => F0 m 13 ls []) (fun y9 H locs ls hI => ?_) (fun J_1 => ?_)
  · obtain ⟨z9, rfl⟩ : ∃ z, z = y9 := ⟨_, rfl⟩
    obtain ⟨hinv, hP, hD, hS, hl⟩ := hI
    have hinv : t = -1 ∨ ¬ xt_b (x 6) t = 0 := hinv
    have hP : va_P (dC, dI) vwCl (wX a cA x ru ma jo gv tk V.length fV R.length fR Lo.length fO) H := hP
    have hD : va_D A (wX a cA x ru ma jo gv tk V.length fV R.length fR Lo.length fO) := hD
    have hl : lv_has ls 4 [(0, .ref (a 0)), (1, .int t), (2, .int tm)] := hl
    have hin0 := hinv
    refine lv_iload_n hx hb qd_X_mark_13 rfl (lv_at hl 2 rfl) ?_
    refine lv_if_lt (tgt := 23) hx hb qd_X_mark_14 (by decide) (fun c_2 => ?_) (fun c_2 => ?_)
    · refine lv_iconst (v := (-1)) hx hb qd_X_mark_23 (by decide) ?_
      exact mk_miret (x, ma, jo, gv, (V, fV), (R, fR), (Lo, fO)) hx hb hr hlocks hP hK hD hS qd_X_mark_24 ⟨Or.inl ⟨Or.inr (Or.inl c_2), rfl, rfl, rfl, rfl, rfl, rfl, rfl⟩, hi⟩
    · refine lv_iload_n hx hb qd_X_mark_17 rfl (lv_at hl 2 rfl) ?_
      refine lv_ldc (v := 100000) hx hb hown (hts _ mw_178) qd_X_mark_18 ?_
      refine lv_icmp_le (tgt := 25) hx hb qd_X_mark_20 (by decide) (fun c_3 => ?_) (fun c_3 => ?_)
      · refine mk_meetH (D := (dC, dI)) (cl := vwCl) (ws := (wX a cA x ru ma jo gv tk V.length fV R.length fR Lo.length fO)) (A0 := A) (H0 := s.heap) (fun v => (xt_b (x 6) t = 0 ∧ v = x 7) ∨ (¬ xt_b (x 6) t = 0 ∧ v = ma t.toNatClampNeg)) (fun v => F0 m 46 ls (.int v :: [])) (fun v_5 H locs hv_5 hP hS => ?_) (fun J_4 => ?_)
        · have hv_5 : (xt_b (x 6) t = 0 ∧ v_5 = x 7) ∨ (¬ xt_b (x 6) t = 0 ∧ v_5 = ma t.toNatClampNeg) := hv_5
          refine lv_istore_n (lv' := [(3, .int v_5), (0, .ref (a 0)), (1, .int t), (2, .int tm)]) hx hb qd_X_mark_46 rfl hl (by decide) rfl (fun ls hl => ?_)
          refine lv_iload_n hx hb qd_X_mark_47 rfl (lv_at hl 3 rfl) ?_
          refine lv_iload_n hx hb qd_X_mark_48 rfl (lv_at hl 0 rfl) ?_
          refine lv_icmp_gt (tgt := 55) hx hb qd_X_mark_49 (by decide) (fun c_6 => ?_) (fun c_6 => ?_)
          · refine lv_aload_n hx hb qd_X_mark_55 rfl (lv_at hl 1 rfl) ?_
            refine mk_mcallv (wr := []) (wf := (fun u => (wX a cA (upd x 12 1) ru ma jo gv tk V.length fV R.length fR u.1.length u.2))) (va_runV (As := []) (rest := []) ⟨hx, hb, hml, hown, hts⟩ (c_X_begin l dC dI cA H.size a x ru ma jo gv tk V.length fV R.length fR fO Lo hO) (cwV 0 hts gc_X_72 rfl rfl rfl (by decide +kernel) ⟨Nat.le_of_ble_eq_true rfl, Nat.le_of_ble_eq_true rfl⟩) (mk_muP hP hD [0, 1, 2, 3, 4, 5, 6, 7, 8, 9, 10, 11, 12] (by decide) rfl hK (va_recv hK hP (ci := 0) (q0 := 0) rfl rfl)) rfl rfl hl.1 rfl (lv_room (Nat.le_of_ble_eq_true rfl)) qd_X_mark_56 ⟨(Nat.zero_le _), (Nat.zero_le _)⟩) hS hA hP hD [0, 1, 2, 3, 4, 5, 6, 7, 8, 9, 10, 11, 12] [] [0, 1, 2, 3, 4, 5, 6, 7, 8, 9, 10, 11, 12] rfl rfl (by decide) (by decide) (by decide) (fun _ => rfl) (fun u_8 H locs hu_8 hP hD hS => ?_)
            obtain ⟨Q1, f1⟩ := u_8
            obtain ⟨rfl, hok1⟩ : Q1 = [] ∧ sh_ok 11 f1 Q1 := hu_8
            have hO1 : sh_wf 11 192 f1 [] := ⟨hok1, by decide, by decide, by decide, by decide⟩
            have hP : va_P (dC, dI) vwCl (wX a cA (upd x 12 1) ru ma jo gv tk V.length fV R.length fR (([] : List (Nat → Int32)).length) f1) H := hP
            have hD : va_D A (wX a cA (upd x 12 1) ru ma jo gv tk V.length fV R.length fR (([] : List (Nat → Int32)).length) f1) := hD
            refine mk_after (σ := (Nat → Int32) × (Nat → Int32)) (fun y9 H locs ls => ((xt_b (x 6) t = 0 ∧ y9.1 = upd (upd x 12 1) 7 tm ∧ y9.2 = ma) ∨ (¬ xt_b (x 6) t = 0 ∧ y9.1 = upd x 12 1 ∧ y9.2 = upd ma t.toNatClampNeg tm)) ∧ va_P (dC, dI) vwCl (wX a cA y9.1 ru y9.2 jo gv tk V.length fV R.length fR (([] : List (Nat → Int32)).length) f1) H ∧ va_D A (wX a cA y9.1 ru y9.2 jo gv tk V.length fV R.length fR (([] : List (Nat → Int32)).length) f1) ∧ va_S A s.heap H locs ∧ lv_has ls 4 [(0, .ref (a 0)), (1, .int t), (2, .int tm), (3, .int v_5)]) (fun ls => F0 m 82 ls []) (fun y9 H locs ls hI => ?_) (fun J_9 => ?_)
            · obtain ⟨xx, mm⟩ := y9
              obtain ⟨hinv, hP, hD, hS, hl⟩ := hI
              have hinv : (xt_b (x 6) t = 0 ∧ xx = upd (upd x 12 1) 7 tm ∧ mm = ma) ∨ (¬ xt_b (x 6) t = 0 ∧ xx = upd x 12 1 ∧ mm = upd ma t.toNatClampNeg tm) := hinv
              have hP : va_P (dC, dI) vwCl (wX a cA xx ru mm jo gv tk V.length fV R.length fR (([] : List (Nat → Int32)).length) f1) H := hP
              have hD : va_D A (wX a cA xx ru mm jo gv tk V.length fV R.length fR (([] : List (Nat → Int32)).length) f1) := hD
              have hl : lv_has ls 4 [(0, .ref (a 0)), (1, .int t), (2, .int tm), (3, .int v_5)] := hl
              have hn3x : xx 6 = nI n3 := by rcases hinv with ⟨-, rfl, -⟩ | ⟨-, rfl, -⟩ <;> exact hn3
              refine lv_aload_n hx hb qd_X_mark_82 rfl (lv_at hl 0 rfl) ?_
              refine mk_mcallv (wr := []) (wf := (fun u => (wX a cA xx ru mm u.1 u.2.2.2 tk V.length fV u.2.1.1.length u.2.1.2 u.2.2.1.1.length u.2.2.1.2))) (va_runV (As := []) (rest := []) ⟨hx, hb, hml, hown, hts⟩ (c_X_joinRows l dC dI cA H.size a xx ru mm jo gv tk fV fR f1 V R ([]) hV hR hO1 (vs_cuts hsort) n3 hn3x h3 hky (by simp only [List.length_nil]; omega)) (cwV 0 hts gc_X_102 rfl rfl rfl (by decide +kernel) ⟨Nat.le_of_ble_eq_true rfl, Nat.le_of_ble_eq_true rfl⟩) (mk_muP hP hD [0, 1, 2, 3, 4, 5, 6, 7, 8, 9, 10, 11, 12] (by decide) rfl hK (va_recv hK hP (ci := 0) (q0 := 0) rfl rfl)) rfl rfl hl.1 rfl (lv_room (Nat.le_of_ble_eq_true rfl)) qd_X_mark_83 ⟨(Nat.zero_le _), (Nat.zero_le _)⟩) hS hA hP hD [0, 1, 2, 3, 4, 5, 6, 7, 8, 9, 10, 11, 12] [] [0, 1, 2, 3, 4, 5, 6, 7, 8, 9, 10, 11, 12] rfl rfl (by decide) (by decide) (by decide) (fun _ => rfl) (fun u_11 H locs hu_11 hP hD hS => ?_)
              obtain ⟨j3, ⟨R2, f3⟩, ⟨Q1, f4⟩, g1⟩ := u_11
              obtain ⟨rfl, hok3, rfl, hok4, rfl⟩ : R2 = R.map (jr_row V ru n3 (xt_low mm n3)) ∧ sh_ok 12 f3 R2 ∧ Q1 = [] ++ R.flatMap (jr_out V ru n3 (xt_low mm n3)) ∧ sh_ok 11 f4 Q1 ∧ g1 = gv + nI (sw_n (jr_d V ru n3 (xt_low mm n3)) R R.length) := hu_11
              have hR2 : sh_wf 12 96 f3 (R.map (jr_row V ru n3 (xt_low mm n3))) := ⟨hok3, by rw [List.length_map]; exact hlenR, by decide, by decide, by decide⟩
              have hP : va_P (dC, dI) vwCl (wX a cA xx ru mm j3 (gv + nI (sw_n (jr_d V ru n3 (xt_low mm n3)) R R.length)) tk V.length fV ((R.map (jr_row V ru n3 (xt_low mm n3))).length) f3 (([] ++ R.flatMap (jr_out V ru n3 (xt_low mm n3))).length) f4) H := hP
              have hD : va_D A (wX a cA xx ru mm j3 (gv + nI (sw_n (jr_d V ru n3 (xt_low mm n3)) R R.length)) tk V.length fV ((R.map (jr_row V ru n3 (xt_low mm n3))).length) f3 (([] ++ R.flatMap (jr_out V ru n3 (xt_low mm n3))).length) f4) := hD
              refine lv_aload_n hx hb qd_X_mark_86 rfl (lv_at hl 0 rfl) ?_
              refine lv_dup hx hb qd_X_mark_87 rfl ?_
              refine va_get (D := (dC, dI)) (ci := 0) (v := .int (xx 9)) (C := qR_X) (T := qT_X) (N := 13) hx hb hts qin_X hown hK hP 0 rfl rfl 9 (by decide) (hts _ mw_125) (fun _ h9 => h9) rfl qd_X_mark_88 ?_
              refine lv_aload_n hx hb qd_X_mark_91 rfl (lv_at hl 0 rfl) ?_
              refine va_get (D := (dC, dI)) (ci := 0) (v := .ref (a 7)) (C := qR_X) (T := qT_X) (N := 13) hx hb hts qin_X hown hK hP 0 rfl rfl 3 (by decide) (hts _ mw_119) (fun _ h9 => h9) rfl qd_X_mark_92 ?_
              refine lv_aload_n hx hb qd_X_mark_95 rfl (lv_at hl 0 rfl) ?_
              refine mk_calli (va_runV (As := []) (rest := [.ref (a 7), .int (xx 9), .ref (a 0)]) ⟨hx, hb, hml, hown, hts⟩ (c_X_horizon l dC dI cA H.size a xx ru mm j3 (gv + nI (sw_n (jr_d V ru n3 (xt_low mm n3)) R R.length)) tk V.length fV ((R.map (jr_row V ru n3 (xt_low mm n3))).length) f3 (([] ++ R.flatMap (jr_out V ru n3 (xt_low mm n3))).length) f4) (cwV 0 hts gc_X_109 rfl rfl rfl (by decide +kernel) ⟨Nat.le_of_ble_eq_true rfl, Nat.le_of_ble_eq_true rfl⟩) (mk_roV hP [0, 1, 2, 3, 4, 5, 6, 7, 8, 9, 10, 11, 12] rfl hK (va_recv hK hP (ci := 0) (q0 := 0) rfl rfl)) rfl rfl hl.1 rfl (lv_room (Nat.le_of_ble_eq_true rfl)) qd_X_mark_96 ⟨(Nat.zero_le _), (Nat.zero_le _)⟩) hS hA hP (fun r_12 H locs hr_12 hP hS => ?_)
              obtain rfl : r_12 = (xx 7 - ru 3) := hr_12
              refine mk_mcalli (wr := [((a 0), .inr (0, [.ref (a 1), .ref (a 2), .ref (a 4), .ref (a 7), .ref (a 10), .ref (a 3), .int (xx 6), .int (xx 7), .int (xx 8), .int (xx 9), .int (xx 10), .int (xx 11), .int (xx 12)])), ((a 1), .inl (cA, 4, .inl ru)), ((a 2), .inl (cA, 3, .inl mm)), ((a 3), .inl (cA, 6, .inl j3)), ((a 4), .inr (5, [.ref (a 5)])), ((a 5), .inr (4, [.int (nI 3), .int (nI 160), .ref (a 6), .int (nI V.length)])), ((a 6), .inl (cA, (3 * 160), .inl fV)), ((a 10), .inr (2, [.ref (a 11), .int (gv + nI (sw_n (jr_d V ru n3 (xt_low mm n3)) R R.length)), .int tk])), ((a 11), .inr (4, [.int (nI 11), .int (nI 192), .ref (a 12), .int (nI (([] ++ R.flatMap (jr_out V ru n3 (xt_low mm n3))).length))])), ((a 12), .inl (cA, (11 * 192), .inl f4))]) (wf := (fun u => (wX a cA xx ru mm j3 (gv + nI (sw_n (jr_d V ru n3 (xt_low mm n3)) R R.length)) tk V.length fV u.1.length u.2 (([] ++ R.flatMap (jr_out V ru n3 (xt_low mm n3))).length) f4))) (va_runV (As := [.int (xx 7 - ru 3)]) (rest := [.int (xx 9), .ref (a 0)]) ⟨hx, hb, hml, hown, hts⟩ (c_R_dropJoined l dC dI cA H.size (a 7) (a 8) (a 9) f3 (R.map (jr_row V ru n3 (xt_low mm n3))) hR2 (xx 7 - ru 3)) (cwV 1 hts gc_X_112 rfl rfl rfl (by decide +kernel) ⟨Nat.le_of_ble_eq_true rfl, Nat.le_of_ble_eq_true rfl⟩) (mk_muP hP hD [7, 8, 9] (by decide) rfl hK (va_recv hK hP (ci := 3) (q0 := 7) rfl rfl)) rfl rfl hl.1 rfl (lv_room (Nat.le_of_ble_eq_true rfl)) qd_X_mark_99 ⟨(Nat.zero_le _), (Nat.zero_le _)⟩) hS hA hP hD [7, 8, 9] [0, 1, 2, 3, 4, 5, 6, 10, 11, 12] [0, 1, 2, 3, 4, 5, 6, 10, 11, 12, 7, 8, 9] rfl rfl (by decide) (by decide) (by decide) (fun _ => rfl) (fun r_13 u_14 H locs hr_13 hP hD hS => ?_)
              obtain ⟨R9, f5⟩ := u_14
              obtain ⟨rfl, rfl, hok5⟩ : r_13 = nI ((R.map (jr_row V ru n3 (xt_low mm n3))).length - R9.length) ∧ R9 = (R.map (jr_row V ru n3 (xt_low mm n3))).filter (rs_keep (xx 7 - ru 3)) ∧ sh_ok 12 f5 R9 := hr_13
              have hlf := List.length_filter_le (rs_keep (xx 7 - ru 3)) (R.map (jr_row V ru n3 (xt_low mm n3)))
              have hR3 : sh_wf 12 96 f5 ((R.map (jr_row V ru n3 (xt_low mm n3))).filter (rs_keep (xx 7 - ru 3))) := ⟨hok5, by rw [List.length_map] at hlf; omega, by decide, by decide, by decide⟩
              have hP : va_P (dC, dI) vwCl (wX a cA xx ru mm j3 (gv + nI (sw_n (jr_d V ru n3 (xt_low mm n3)) R R.length)) tk V.length fV (((R.map (jr_row V ru n3 (xt_low mm n3))).filter (rs_keep (xx 7 - ru 3))).length) f5 (([] ++ R.flatMap (jr_out V ru n3 (xt_low mm n3))).length) f4) H := hP
              have hD : va_D A (wX a cA xx ru mm j3 (gv + nI (sw_n (jr_d V ru n3 (xt_low mm n3)) R R.length)) tk V.length fV (((R.map (jr_row V ru n3 (xt_low mm n3))).filter (rs_keep (xx 7 - ru 3))).length) f5 (([] ++ R.flatMap (jr_out V ru n3 (xt_low mm n3))).length) f4) := hD
              refine lv_iadd hx hb qd_X_mark_102 ?_
              refine va_put (D := (dC, dI)) (ci := 0) (v := .int ((xx 9) + (nI ((R.map (jr_row V ru n3 (xt_low mm n3))).length - ((R.map (jr_row V ru n3 (xt_low mm n3))).filter (rs_keep (xx 7 - ru 3))).length)))) (ty := .int) (C := qR_X) (T := qT_X) (N := 13) hx hb hts qin_X qty_X qtyok_X qnm_X hown hK hP hD hS 0 rfl rfl 9 (by decide) (hts _ mw_125) (fun _ h9 => h9) rfl (by decide +kernel) rfl rfl (Nat.le_of_ble_eq_true rfl) qd_X_mark_103 (fun H locs hP hD hS => ?_)
              have hP : va_P (dC, dI) vwCl (wX a cA (upd xx 9 ((xx 9) + (nI ((R.map (jr_row V ru n3 (xt_low mm n3))).length - ((R.map (jr_row V ru n3 (xt_low mm n3))).filter (rs_keep (xx 7 - ru 3))).length)))) ru mm j3 (gv + nI (sw_n (jr_d V ru n3 (xt_low mm n3)) R R.length)) tk V.length fV (((R.map (jr_row V ru n3 (xt_low mm n3))).filter (rs_keep (xx 7 - ru 3))).length) f5 (([] ++ R.flatMap (jr_out V ru n3 (xt_low mm n3))).length) f4) H := hP
              have hD : va_D A (wX a cA (upd xx 9 ((xx 9) + (nI ((R.map (jr_row V ru n3 (xt_low mm n3))).length - ((R.map (jr_row V ru n3 (xt_low mm n3))).filter (rs_keep (xx 7 - ru 3))).length)))) ru mm j3 (gv + nI (sw_n (jr_d V ru n3 (xt_low mm n3)) R R.length)) tk V.length fV (((R.map (jr_row V ru n3 (xt_low mm n3))).filter (rs_keep (xx 7 - ru 3))).length) f5 (([] ++ R.flatMap (jr_out V ru n3 (xt_low mm n3))).length) f4) := hD
              refine lv_aload_n hx hb qd_X_mark_106 rfl (lv_at hl 0 rfl) ?_
              refine mk_mcallv (wr := []) (wf := (fun u => (wX a cA (upd (upd xx 9 ((xx 9) + (nI ((R.map (jr_row V ru n3 (xt_low mm n3))).length - ((R.map (jr_row V ru n3 (xt_low mm n3))).filter (rs_keep (xx 7 - ru 3))).length)))) 10 (xx 10 + nI (V.length - u.1.length))) ru mm j3 (gv + nI (sw_n (jr_d V ru n3 (xt_low mm n3)) R R.length)) tk u.1.length u.2 (((R.map (jr_row V ru n3 (xt_low mm n3))).filter (rs_keep (xx 7 - ru 3))).length) f5 (([] ++ R.flatMap (jr_out V ru n3 (xt_low mm n3))).length) f4))) (va_runV (As := []) (rest := []) ⟨hx, hb, hml, hown, hts⟩ (c_X_dropVersions l dC dI cA H.size a (upd xx 9 ((xx 9) + (nI ((R.map (jr_row V ru n3 (xt_low mm n3))).length - ((R.map (jr_row V ru n3 (xt_low mm n3))).filter (rs_keep (xx 7 - ru 3))).length)))) ru mm j3 (gv + nI (sw_n (jr_d V ru n3 (xt_low mm n3)) R R.length)) tk fV f5 (([] ++ R.flatMap (jr_out V ru n3 (xt_low mm n3))).length) f4 V ((R.map (jr_row V ru n3 (xt_low mm n3))).filter (rs_keep (xx 7 - ru 3))) hV hR3 hpl) (cwV 0 hts gc_X_115 rfl rfl rfl (by decide +kernel) ⟨Nat.le_of_ble_eq_true rfl, Nat.le_of_ble_eq_true rfl⟩) (mk_muP hP hD [0, 1, 2, 3, 4, 5, 6, 7, 8, 9, 10, 11, 12] (by decide) rfl hK (va_recv hK hP (ci := 0) (q0 := 0) rfl rfl)) rfl rfl hl.1 rfl (lv_room (Nat.le_of_ble_eq_true rfl)) qd_X_mark_107 ⟨(Nat.zero_le _), (Nat.zero_le _)⟩) hS hA hP hD [0, 1, 2, 3, 4, 5, 6, 7, 8, 9, 10, 11, 12] [] [0, 1, 2, 3, 4, 5, 6, 7, 8, 9, 10, 11, 12] rfl rfl (by decide) (by decide) (by decide) (fun _ => rfl) (fun u_16 H locs hu_16 hP hD hS => ?_)
              obtain ⟨V9, f6⟩ := u_16
              obtain ⟨rfl, hok6⟩ : V9 = dv (nd_b (ru 0) (xx 7 - ru 3) ((R.map (jr_row V ru n3 (xt_low mm n3))).filter (rs_keep (xx 7 - ru 3)))) V ∧ sh_ok 3 f6 V9 := hu_16
              have hld := dv_len (nd_b (ru 0) (xx 7 - ru 3) ((R.map (jr_row V ru n3 (xt_low mm n3))).filter (rs_keep (xx 7 - ru 3)))) V
              have hP : va_P (dC, dI) vwCl (wX a cA (upd (upd xx 9 ((xx 9) + (nI ((R.map (jr_row V ru n3 (xt_low mm n3))).length - ((R.map (jr_row V ru n3 (xt_low mm n3))).filter (rs_keep (xx 7 - ru 3))).length)))) 10 (xx 10 + nI (V.length - (dv (nd_b (ru 0) (xx 7 - ru 3) ((R.map (jr_row V ru n3 (xt_low mm n3))).filter (rs_keep (xx 7 - ru 3)))) V).length))) ru mm j3 (gv + nI (sw_n (jr_d V ru n3 (xt_low mm n3)) R R.length)) tk ((dv (nd_b (ru 0) (xx 7 - ru 3) ((R.map (jr_row V ru n3 (xt_low mm n3))).filter (rs_keep (xx 7 - ru 3)))) V).length) f6 (((R.map (jr_row V ru n3 (xt_low mm n3))).filter (rs_keep (xx 7 - ru 3))).length) f5 (([] ++ R.flatMap (jr_out V ru n3 (xt_low mm n3))).length) f4) H := hP
              have hD : va_D A (wX a cA (upd (upd xx 9 ((xx 9) + (nI ((R.map (jr_row V ru n3 (xt_low mm n3))).length - ((R.map (jr_row V ru n3 (xt_low mm n3))).filter (rs_keep (xx 7 - ru 3))).length)))) 10 (xx 10 + nI (V.length - (dv (nd_b (ru 0) (xx 7 - ru 3) ((R.map (jr_row V ru n3 (xt_low mm n3))).filter (rs_keep (xx 7 - ru 3)))) V).length))) ru mm j3 (gv + nI (sw_n (jr_d V ru n3 (xt_low mm n3)) R R.length)) tk ((dv (nd_b (ru 0) (xx 7 - ru 3) ((R.map (jr_row V ru n3 (xt_low mm n3))).filter (rs_keep (xx 7 - ru 3)))) V).length) f6 (((R.map (jr_row V ru n3 (xt_low mm n3))).filter (rs_keep (xx 7 - ru 3))).length) f5 (([] ++ R.flatMap (jr_out V ru n3 (xt_low mm n3))).length) f4) := hD
              refine lv_iload_n hx hb qd_X_mark_110 rfl (lv_at hl 3 rfl) ?_
              have hxm : (xt_b (x 6) t = 0 ∧ v_5 = x 7 ∧ xx = upd (upd x 12 1) 7 tm ∧ mm = ma) ∨ (¬ xt_b (x 6) t = 0 ∧ v_5 = ma t.toNatClampNeg ∧ xx = upd x 12 1 ∧ mm = upd ma t.toNatClampNeg tm) := by
                rcases hv_5 with ⟨q1, q2⟩ | ⟨q1, q2⟩
                · rcases hinv with ⟨p1, p2, p3⟩ | ⟨p1, p2, p3⟩
                  · exact Or.inl ⟨q1, q2, p2, p3⟩
                  · exact absurd q1 p1
                · rcases hinv with ⟨p1, p2, p3⟩ | ⟨p1, p2, p3⟩
                  · exact absurd p1 q1
                  · exact Or.inr ⟨q1, q2, p2, p3⟩
              exact mk_miret ((upd (upd xx 9 ((xx 9) + (nI ((R.map (jr_row V ru n3 (xt_low mm n3))).length - ((R.map (jr_row V ru n3 (xt_low mm n3))).filter (rs_keep (xx 7 - ru 3))).length)))) 10 (xx 10 + nI (V.length - (dv (nd_b (ru 0) (xx 7 - ru 3) ((R.map (jr_row V ru n3 (xt_low mm n3))).filter (rs_keep (xx 7 - ru 3)))) V).length))), mm, j3, (gv + nI (sw_n (jr_d V ru n3 (xt_low mm n3)) R R.length)), (dv (nd_b (ru 0) (xx 7 - ru 3) ((R.map (jr_row V ru n3 (xt_low mm n3))).filter (rs_keep (xx 7 - ru 3)))) V, f6), (((R.map (jr_row V ru n3 (xt_low mm n3))).filter (rs_keep (xx 7 - ru 3))), f5), ([] ++ R.flatMap (jr_out V ru n3 (xt_low mm n3)), f4)) hx hb hr hlocks hP hK hD hS qd_X_mark_111 ⟨Or.inr ⟨hin0, c_2, sh_nlt c_3, xx, mm, v_5, hxm, Or.inr ⟨c_6, rfl, rfl, R.map (jr_row V ru n3 (xt_low mm n3)), rfl, rfl, rfl, rfl, rfl, rfl⟩⟩, ⟨hok6, Nat.le_trans hld hlenV, by decide, by decide, by decide⟩, hR3, ⟨hok4, by have := jr_flen V ru n3 (xt_low mm n3) R; simp only [List.nil_append]; omega, by decide, by decide, by decide⟩, dv_sorted hsort, dv_pl hpl, vs_all_filter (vs_all_map hky jr_ky), hn3x, h3⟩
            · refine lv_aload_n hx hb qd_X_mark_59 rfl (lv_at hl 1 rfl) ?_
              refine lv_iload_n hx hb qd_X_mark_60 rfl (lv_at hl 2 rfl) ?_
              refine mk_calli (va_runV (As := [.int t]) (rest := []) ⟨hx, hb, hml, hown, hts⟩ (c_X_isTable l dC dI cA H.size a (upd x 12 1) ru ma jo gv tk V.length fV R.length fR (([] : List (Nat → Int32)).length) f1 t) (cwV 1 hts gc_X_48 rfl rfl rfl (by decide +kernel) ⟨Nat.le_of_ble_eq_true rfl, Nat.le_of_ble_eq_true rfl⟩) (mk_roV hP [0, 1, 2, 3, 4, 5, 6, 7, 8, 9, 10, 11, 12] rfl hK (va_recv hK hP (ci := 0) (q0 := 0) rfl rfl)) rfl rfl hl.1 rfl (lv_room (Nat.le_of_ble_eq_true rfl)) qd_X_mark_61 ⟨(Nat.zero_le _), (Nat.zero_le _)⟩) hS hA hP (fun r_17 H locs hr_17 hP hS => ?_)
              obtain rfl : r_17 = xt_b (x 6) t := hr_17
              refine lv_if_eq (tgt := 77) hx hb qd_X_mark_64 (by decide) (fun c_18 => ?_) (fun c_18 => ?_)
              · refine lv_aload_n hx hb qd_X_mark_77 rfl (lv_at hl 1 rfl) ?_
                refine lv_iload_n hx hb qd_X_mark_78 rfl (lv_at hl 3 rfl) ?_
                refine va_put (D := (dC, dI)) (ci := 0) (v := .int tm) (ty := .int) (C := qR_X) (T := qT_X) (N := 13) hx hb hts qin_X qty_X qtyok_X qnm_X hown hK hP hD hS 0 rfl rfl 7 (by decide) (hts _ mw_123) (fun _ h9 => h9) rfl (by decide +kernel) rfl rfl (Nat.le_of_ble_eq_true rfl) qd_X_mark_79 (fun H locs hP hD hS => ?_)
                have hP : va_P (dC, dI) vwCl (wX a cA (upd (upd x 12 1) 7 tm) ru ma jo gv tk V.length fV R.length fR (([] : List (Nat → Int32)).length) f1) H := hP
                have hD : va_D A (wX a cA (upd (upd x 12 1) 7 tm) ru ma jo gv tk V.length fV R.length fR (([] : List (Nat → Int32)).length) f1) := hD
                exact J_9 ((upd (upd x 12 1) 7 tm), ma) H locs ls ⟨Or.inl ⟨c_18, rfl, rfl⟩, hP, hD, hS, lv_sub hl [1, 2, 3, 0] rfl⟩
              · refine lv_aload_n hx hb qd_X_mark_67 rfl (lv_at hl 1 rfl) ?_
                refine va_get (D := (dC, dI)) (ci := 0) (v := .ref (a 2)) (C := qR_X) (T := qT_X) (N := 13) hx hb hts qin_X hown hK hP 0 rfl rfl 1 (by decide) (hts _ mw_117) (fun _ h9 => h9) rfl qd_X_mark_68 ?_
                refine lv_iload_n hx hb qd_X_mark_71 rfl (lv_at hl 2 rfl) ?_
                refine lv_iload_n hx hb qd_X_mark_72 rfl (lv_at hl 3 rfl) ?_
                refine va_iast (i := t) (x := tm) hx hb hK hP hD hS 2 0 rfl rfl (xt_in c_18) qd_X_mark_73 (fun H locs hP hD hS => ?_)
                rw [show Int32.toNatClampNeg t = t.toNatClampNeg from rfl] at hP hD
                have hP : va_P (dC, dI) vwCl (wX a cA (upd x 12 1) ru (upd ma t.toNatClampNeg tm) jo gv tk V.length fV R.length fR (([] : List (Nat → Int32)).length) f1) H := hP
                have hD : va_D A (wX a cA (upd x 12 1) ru (upd ma t.toNatClampNeg tm) jo gv tk V.length fV R.length fR (([] : List (Nat → Int32)).length) f1) := hD
                refine lv_goto (tgt := 82) hx hb qd_X_mark_74 (by decide) ?_
                exact J_9 ((upd x 12 1), (upd ma t.toNatClampNeg tm)) H locs ls ⟨Or.inr ⟨c_18, rfl, rfl⟩, hP, hD, hS, lv_sub hl [1, 2, 3, 0] rfl⟩
          · refine lv_bipush (v := (-2)) hx hb qd_X_mark_52 (by decide) ?_
            rcases hv_5 with ⟨q1, q2⟩ | ⟨q1, q2⟩
            · exact mk_miret (x, ma, jo, gv, (V, fV), (R, fR), (Lo, fO)) hx hb hr hlocks hP hK hD hS qd_X_mark_54 ⟨Or.inr ⟨hin0, c_2, sh_nlt c_3, upd (upd x 12 1) 7 tm, ma, v_5, Or.inl ⟨q1, q2, rfl, rfl⟩, Or.inl ⟨c_6, rfl, rfl, rfl, rfl, rfl, rfl, rfl⟩⟩, hi⟩
            · exact mk_miret (x, ma, jo, gv, (V, fV), (R, fR), (Lo, fO)) hx hb hr hlocks hP hK hD hS qd_X_mark_54 ⟨Or.inr ⟨hin0, c_2, sh_nlt c_3, upd x 12 1, upd ma t.toNatClampNeg tm, v_5, Or.inr ⟨q1, q2, rfl, rfl⟩, Or.inl ⟨c_6, rfl, rfl, rfl, rfl, rfl, rfl, rfl⟩⟩, hi⟩
        · refine lv_aload_n hx hb qd_X_mark_25 rfl (lv_at hl 0 rfl) ?_
          refine lv_iload_n hx hb qd_X_mark_26 rfl (lv_at hl 1 rfl) ?_
          refine mk_calli (va_runV (As := [.int t]) (rest := []) ⟨hx, hb, hml, hown, hts⟩ (c_X_isTable l dC dI cA H.size a x ru ma jo gv tk V.length fV R.length fR Lo.length fO t) (cwV 1 hts gc_X_48 rfl rfl rfl (by decide +kernel) ⟨Nat.le_of_ble_eq_true rfl, Nat.le_of_ble_eq_true rfl⟩) (mk_roV hP [0, 1, 2, 3, 4, 5, 6, 7, 8, 9, 10, 11, 12] rfl hK (va_recv hK hP (ci := 0) (q0 := 0) rfl rfl)) rfl rfl hl.1 rfl (lv_room (Nat.le_of_ble_eq_true rfl)) qd_X_mark_27 ⟨(Nat.zero_le _), (Nat.zero_le _)⟩) hS hA hP (fun r_19 H locs hr_19 hP hS => ?_)
          obtain rfl : r_19 = xt_b (x 6) t := hr_19
          refine lv_if_eq (tgt := 42) hx hb qd_X_mark_30 (by decide) (fun c_20 => ?_) (fun c_20 => ?_)
          · refine lv_aload_n hx hb qd_X_mark_42 rfl (lv_at hl 0 rfl) ?_
            refine va_get (D := (dC, dI)) (ci := 0) (v := .int (x 7)) (C := qR_X) (T := qT_X) (N := 13) hx hb hts qin_X hown hK hP 0 rfl rfl 7 (by decide) (hts _ mw_123) (fun _ h9 => h9) rfl qd_X_mark_43 ?_
            exact J_4 _ H locs (Or.inl ⟨c_20, rfl⟩) hP hS
          · refine lv_aload_n hx hb qd_X_mark_33 rfl (lv_at hl 0 rfl) ?_
            refine va_get (D := (dC, dI)) (ci := 0) (v := .ref (a 2)) (C := qR_X) (T := qT_X) (N := 13) hx hb hts qin_X hown hK hP 0 rfl rfl 1 (by decide) (hts _ mw_117) (fun _ h9 => h9) rfl qd_X_mark_34 ?_
            refine lv_iload_n hx hb qd_X_mark_37 rfl (lv_at hl 1 rfl) ?_
            refine va_iald (i := t) hx hb hK hP 2 0 rfl rfl (xt_in c_20) qd_X_mark_38 ?_
            refine mk_rw (y := ma t.toNatClampNeg) (rfl) ?_
            refine lv_goto (tgt := 46) hx hb qd_X_mark_39 (by decide) ?_
            exact J_4 _ H locs (Or.inr ⟨c_20, rfl⟩) hP hS
      · refine lv_iconst (v := (-1)) hx hb qd_X_mark_23 (by decide) ?_
        exact mk_miret (x, ma, jo, gv, (V, fV), (R, fR), (Lo, fO)) hx hb hr hlocks hP hK hD hS qd_X_mark_24 ⟨Or.inl ⟨Or.inr (Or.inr (sh_lt_of c_3)), rfl, rfl, rfl, rfl, rfl, rfl, rfl⟩, hi⟩
  · refine lv_iload_n hx hb qd_X_mark_0 rfl (lv_at hl 1 rfl) ?_
    refine lv_iconst (v := (-1)) hx hb qd_X_mark_1 (by decide) ?_
    refine lv_icmp_eq (tgt := 13) hx hb qd_X_mark_2 (by decide) (fun c_21 => ?_) (fun c_21 => ?_)
    · exact J_1 () H locs ls ⟨Or.inl c_21, hP, hD, hS, lv_sub hl [0, 1, 2] rfl⟩
    · refine lv_aload_n hx hb qd_X_mark_5 rfl (lv_at hl 0 rfl) ?_
      refine lv_iload_n hx hb qd_X_mark_6 rfl (lv_at hl 1 rfl) ?_
      refine mk_calli (va_runV (As := [.int t]) (rest := []) ⟨hx, hb, hml, hown, hts⟩ (c_X_isTable l dC dI cA H.size a x ru ma jo gv tk V.length fV R.length fR Lo.length fO t) (cwV 1 hts gc_X_48 rfl rfl rfl (by decide +kernel) ⟨Nat.le_of_ble_eq_true rfl, Nat.le_of_ble_eq_true rfl⟩) (mk_roV hP [0, 1, 2, 3, 4, 5, 6, 7, 8, 9, 10, 11, 12] rfl hK (va_recv hK hP (ci := 0) (q0 := 0) rfl rfl)) rfl rfl hl.1 rfl (lv_room (Nat.le_of_ble_eq_true rfl)) qd_X_mark_7 ⟨(Nat.zero_le _), (Nat.zero_le _)⟩) hS hA hP (fun r_22 H locs hr_22 hP hS => ?_)
      obtain rfl : r_22 = xt_b (x 6) t := hr_22
      refine lv_if_eq (tgt := 23) hx hb qd_X_mark_10 (by decide) (fun c_23 => ?_) (fun c_23 => ?_)
      · refine lv_iconst (v := (-1)) hx hb qd_X_mark_23 (by decide) ?_
        exact mk_miret (x, ma, jo, gv, (V, fV), (R, fR), (Lo, fO)) hx hb hr hlocks hP hK hD hS qd_X_mark_24 ⟨Or.inl ⟨Or.inl ⟨c_21, c_23⟩, rfl, rfl, rfl, rfl, rfl, rfl, rfl⟩, hi⟩
      · exact J_1 () H locs ls ⟨Or.inr c_23, hP, hD, hS, lv_sub hl [0, 1, 2] rfl⟩
