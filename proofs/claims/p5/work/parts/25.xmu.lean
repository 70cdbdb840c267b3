set_option maxHeartbeats 4000000 in
set_option maxRecDepth 100000 in
/-- findJoin(key, time) -/
theorem c_X_findJoin (l : Launch) (dC : Nat → ClassId) (dI : Nat → Nat → Nat) (cA : ClassId) (sz : Nat) (a : Nat → Nat) (x ru ma jo : Nat → Int32) (gv tk : Int32) (fV : Nat → Int32) (kR : Nat) (fR : Nat → Int32) (kO : Nat) (fO : Nat → Int32) (V : List (Nat → Int32)) (hV : sh_wf 3 160 fV V) (hcuts : ∀ pl fr, ∃ k, vs_cut V pl fr k) (kn : Nat) (hkn : kn < 16) (tm : Int32) : Met l qy_X_findJoin qw_X_findJoin ({ frames := 3, cells := 0, slots := 0, locals := 74 }) (mk_mu [.ref (a 0), .int (nI kn), .int tm] sz (dC, dI) vwCl [(cA, .int)] (wX a cA x ru ma jo gv tk V.length fV kR fR kO fO)) (mk_muV (S := Nat → Int32) (fun u => u = xjt V (ru 0) kn tm jo 3) (fun u => (wX a cA x ru ma u gv tk V.length fV kR fR kO fO)) (dC, dI) vwCl [(cA, .int)] (va_A (wX a cA x ru ma jo gv tk V.length fV kR fR kO fO) sz)) 0 0 (va_A (wX a cA x ru ma jo gv tk V.length fV kR fR kO fO) sz) := by
  refine Met.ofW (cc := qb_X_findJoin) (maxL := 5) (ret := none) (by decide) rfl ?_
  intro p e s m args below meth c s₁ B hml hpre
  obtain ⟨rfl, hsz, hP, hK, hD0⟩ := hpre
  have hx := B.exec
  have hb := B.bytes
  have hr := B.returns
  have hts0 := atoms_spec (ws := qw_X_findJoin) B.pre
  have hts := fun w (h : w ∈ lw_gd) => hts0 w (List.mem_cons_of_mem _ h)
  have hown : s.vm.findClass qR_X = some m.cls := findClass_of_methodNamed B.named
  have hlocks := B.notSynchronized
  subst hsz
  have hD := hD0.self (sz := s.heap.size)
  generalize hAe : va_A (wX a cA x ru ma jo gv tk V.length fV kR fR kO fO) s.heap.size = A at hD ⊢
  have hA : ∀ q : Nat, s.heap.size ≤ q → A q := fun q h => by rw [← hAe]; exact Or.inr h
  have hS : va_S A s.heap s.heap [] := va_S.rf
  have hl := lv_entry ([.ref (a 0), .int (nI kn), .int tm]) (n := 5) (Nat.le_of_ble_eq_true rfl)
  rw [lg_entry_eq]
  generalize (lg_sl ([.ref (a 0), .int (nI kn), .int tm]) ++ List.replicate (5 - (lg_sl ([.ref (a 0), .int (nI kn), .int tm])).length) Slot.unset).toArray = ls at hl ⊢
  have hl : lv_has ls 5 [(0, .ref (a 0)), (1, .int (nI kn)), (2, .int tm)] := hl
  have hP : va_P (dC, dI) vwCl (wX a cA x ru ma jo gv tk V.length fV kR fR kO fO) s.heap := hP
  refine mk_start (A := A) hP (fun H locs hP hS => ?_)
  obtain ⟨hok, hlen, -, -, -⟩ := id hV
  refine lv_iconst (v := 0) hx hb qd_X_findJoin_0 (by decide) ?_
  refine mk_rw (y := nI 0) (rfl) ?_
  refine lv_istore_n (lv' := [(3, .int (nI 0)), (0, .ref (a 0)), (1, .int (nI kn)), (2, .int tm)]) hx hb qd_X_findJoin_1 rfl hl (by decide) rfl (fun ls hl => ?_)
  have hP : va_P (dC, dI) vwCl (wX a cA x ru ma (xjt V (ru 0) kn tm jo 0) gv tk V.length fV kR fR kO fO) H := by rw [xjt_0]; exact hP
  have hD : va_D A (wX a cA x ru ma (xjt V (ru 0) kn tm jo 0) gv tk V.length fV kR fR kO fO) := by rw [xjt_0]; exact hD
  refine mk_loop (σ := Nat) (fun n y9 H locs ls => (y9 + n = 3) ∧ va_P (dC, dI) vwCl (wX a cA x ru ma (xjt V (ru 0) kn tm jo y9) gv tk V.length fV kR fR kO fO) H ∧ va_D A (wX a cA x ru ma (xjt V (ru 0) kn tm jo y9) gv tk V.length fV kR fR kO fO) ∧ va_S A s.heap H locs ∧ lv_has ls 5 [(0, .ref (a 0)), (1, .int (nI kn)), (2, .int tm), (3, .int (nI y9))]) (fun ls => F0 m 2 ls []) (fun n y9 H locs ls hI ih_1 => ?_) (fun y9 H locs ls hI => ?_) 3 0 H locs ls ⟨rfl, hP, hD, hS, lv_sub hl [1, 2, 3, 0] rfl⟩
  · obtain ⟨t, rfl⟩ : ∃ z, z = y9 := ⟨_, rfl⟩
    obtain ⟨hinv, hP, hD, hS, hl⟩ := hI
    have hinv : t + (n + 1) = 3 := hinv
    have hP : va_P (dC, dI) vwCl (wX a cA x ru ma (xjt V (ru 0) kn tm jo t) gv tk V.length fV kR fR kO fO) H := hP
    have hD : va_D A (wX a cA x ru ma (xjt V (ru 0) kn tm jo t) gv tk V.length fV kR fR kO fO) := hD
    have hl : lv_has ls 5 [(0, .ref (a 0)), (1, .int (nI kn)), (2, .int tm), (3, .int (nI t))] := hl
    refine lv_iload_n hx hb qd_X_findJoin_2 rfl (lv_at hl 3 rfl) ?_
    refine lv_iconst (v := 3) hx hb qd_X_findJoin_3 (by decide) ?_
    refine lv_icmp_ge (tgt := 93) hx hb qd_X_findJoin_4 (by decide) (fun c_2 => ?_) (fun c_2 => ?_)
    · exact absurd c_2 (nI_ge (a := t) (b := 3) (by omega) (by decide))
    · refine lv_aload_n hx hb qd_X_findJoin_7 rfl (lv_at hl 0 rfl) ?_
      refine va_get (D := (dC, dI)) (ci := 0) (v := .ref (a 4)) (C := qR_X) (T := qT_X) (N := 13) hx hb hts qin_X hown hK hP 0 rfl rfl 2 (by decide) (hts _ mw_118) (fun _ h9 => h9) rfl qd_X_findJoin_8 ?_
      refine lv_iload_n hx hb qd_X_findJoin_11 rfl (lv_at hl 3 rfl) ?_
      refine lv_iload_n hx hb qd_X_findJoin_12 rfl (lv_at hl 1 rfl) ?_
      refine mk_calli (va_runS (As := [.int (nI t), .int (nI kn)]) (rest := [.ref (a 4)]) ⟨hx, hb, hml, hown, hts⟩ (c_X_placeOf l dC dI cA H.size (nI t) (nI kn)) (va_cwS 2 hts gc_X_75 rfl rfl rfl (by decide +kernel) ⟨Nat.le_of_ble_eq_true rfl, Nat.le_of_ble_eq_true rfl⟩) (mk_roS hP [] rfl hK) rfl rfl hl.1 rfl (lv_room (Nat.le_of_ble_eq_true rfl)) qd_X_findJoin_13 ⟨(Nat.zero_le _), (Nat.zero_le _)⟩) hS hA hP (fun r_3 H locs hr_3 hP hS => ?_)
      obtain rfl : r_3 = (nI t) * 16 + (nI kn) := hr_3
      refine mk_rw (y := nI (t * 16 + kn)) (by rw [show (16 : Int32) = nI 16 from rfl, pk_mul, nI_add]) ?_
      refine lv_iload_n hx hb qd_X_findJoin_16 rfl (lv_at hl 2 rfl) ?_
      refine lv_aload_n hx hb qd_X_findJoin_17 rfl (lv_at hl 0 rfl) ?_
      refine va_get (D := (dC, dI)) (ci := 0) (v := .ref (a 1)) (C := qR_X) (T := qT_X) (N := 13) hx hb hts qin_X hown hK hP 0 rfl rfl 0 (by decide) (hts _ mw_116) (fun _ h9 => h9) rfl qd_X_findJoin_18 ?_
      refine lv_iconst (v := 0) hx hb qd_X_findJoin_21 (by decide) ?_
      refine va_iald (i := 0) hx hb hK hP 1 0 rfl rfl (show ¬ ((0 : Int32) < 0 ∨ 4 ≤ (0 : Int32).toNatClampNeg) from by decide) qd_X_findJoin_22 ?_
      refine mk_rw (y := ru 0) (rfl) ?_
      refine lv_isub hx hb qd_X_findJoin_23 ?_
      obtain ⟨k, hk⟩ := hcuts (nI (t * 16 + kn)) (tm - ru 0)
      refine mk_calli (va_runV (As := [.int (nI (t * 16 + kn)), .int (tm - (ru 0))]) (rest := []) ⟨hx, hb, hml, hown, hts⟩ (c_V_lineAsOf l dC dI cA H.size (a 4) (a 5) (a 6) fV V hV (nI (t * 16 + kn)) (tm - (ru 0)) k hk (nI_nm2 (by omega))) (cwV 2 hts gc_X_122 rfl rfl rfl (by decide +kernel) ⟨Nat.le_of_ble_eq_true rfl, Nat.le_of_ble_eq_true rfl⟩) (mk_roV hP [4, 5, 6] rfl hK (va_recv hK hP (ci := 5) (q0 := 4) rfl rfl)) rfl rfl hl.1 rfl (lv_room (Nat.le_of_ble_eq_true rfl)) qd_X_findJoin_24 ⟨(Nat.zero_le _), (Nat.zero_le _)⟩) hS hA hP (fun r_4 H locs hr_4 hP hS => ?_)
      have hr_4 : vs_asof V (nI (t * 16 + kn)) k r_4 := hr_4
      refine lv_istore (lv' := [(4, .int r_4), (0, .ref (a 0)), (1, .int (nI kn)), (2, .int tm), (3, .int (nI t))]) hx hb qd_X_findJoin_27 hl (by decide) rfl (fun ls hl => ?_)
      refine lv_aload_n hx hb qd_X_findJoin_29 rfl (lv_at hl 1 rfl) ?_
      refine va_get (D := (dC, dI)) (ci := 0) (v := .ref (a 3)) (C := qR_X) (T := qT_X) (N := 13) hx hb hts qin_X hown hK hP 0 rfl rfl 5 (by decide) (hts _ mw_121) (fun _ h9 => h9) rfl qd_X_findJoin_30 ?_
      refine lv_iconst (v := 2) hx hb qd_X_findJoin_33 (by decide) ?_
      refine lv_iload_n hx hb qd_X_findJoin_34 rfl (lv_at hl 4 rfl) ?_
      refine lv_imul hx hb qd_X_findJoin_35 ?_
      refine mk_rw (y := nI (2 * t)) (pk_mul 2 t) ?_
      refine mk_meetH (D := (dC, dI)) (cl := vwCl) (ws := (wX a cA x ru ma (xjt V (ru 0) kn tm jo t) gv tk V.length fV kR fR kO fO)) (A0 := A) (H0 := s.heap) (fun v => v = xj V (ru 0) kn tm (2 * t)) (fun v => F0 m 56 ls (.int v :: .int (nI (2 * t)) :: .ref (a 3) :: [])) (fun v_6 H locs hv_6 hP hS => ?_) (fun J_5 => ?_)
      · have hv_6 : v_6 = xj V (ru 0) kn tm (2 * t) := hv_6
        refine mk_rw (y := xj V (ru 0) kn tm (2 * t)) (hv_6) ?_
        refine va_iast (i := (nI (2 * t))) (x := (xj V (ru 0) kn tm (2 * t))) hx hb hK hP hD hS 3 0 rfl rfl (vp_in_nI (by omega) (by omega)) qd_X_findJoin_56 (fun H locs hP hD hS => ?_)
        rw [show Int32.toNatClampNeg (nI (2 * t)) = (2 * t) from (nI_clamp (by omega))] at hP hD
        have hP : va_P (dC, dI) vwCl (wX a cA x ru ma (upd (xjt V (ru 0) kn tm jo t) (2 * t) (xj V (ru 0) kn tm (2 * t))) gv tk V.length fV kR fR kO fO) H := hP
        have hD : va_D A (wX a cA x ru ma (upd (xjt V (ru 0) kn tm jo t) (2 * t) (xj V (ru 0) kn tm (2 * t))) gv tk V.length fV kR fR kO fO) := hD
        refine lv_aload_n hx hb qd_X_findJoin_57 rfl (lv_at hl 1 rfl) ?_
        refine va_get (D := (dC, dI)) (ci := 0) (v := .ref (a 3)) (C := qR_X) (T := qT_X) (N := 13) hx hb hts qin_X hown hK hP 0 rfl rfl 5 (by decide) (hts _ mw_121) (fun _ h9 => h9) rfl qd_X_findJoin_58 ?_
        refine lv_iconst (v := 2) hx hb qd_X_findJoin_61 (by decide) ?_
        refine lv_iload_n hx hb qd_X_findJoin_62 rfl (lv_at hl 4 rfl) ?_
        refine lv_imul hx hb qd_X_findJoin_63 ?_
        refine lv_iconst (v := 1) hx hb qd_X_findJoin_64 (by decide) ?_
        refine lv_iadd hx hb qd_X_findJoin_65 ?_
        refine mk_rw (y := nI (2 * t + 1)) (by rw [show (2 : Int32) = nI 2 from rfl, pk_mul, nI_1]) ?_
        refine mk_meetH (D := (dC, dI)) (cl := vwCl) (ws := (wX a cA x ru ma (upd (xjt V (ru 0) kn tm jo t) (2 * t) (xj V (ru 0) kn tm (2 * t))) gv tk V.length fV kR fR kO fO)) (A0 := A) (H0 := s.heap) (fun v => v = xj V (ru 0) kn tm (2 * t + 1)) (fun v => F0 m 86 ls (.int v :: .int (nI (2 * t + 1)) :: .ref (a 3) :: [])) (fun v_8 H locs hv_8 hP hS => ?_) (fun J_7 => ?_)
        · have hv_8 : v_8 = xj V (ru 0) kn tm (2 * t + 1) := hv_8
          refine mk_rw (y := xj V (ru 0) kn tm (2 * t + 1)) (hv_8) ?_
          refine va_iast (i := (nI (2 * t + 1))) (x := (xj V (ru 0) kn tm (2 * t + 1))) hx hb hK hP hD hS 3 0 rfl rfl (vp_in_nI (by omega) (by omega)) qd_X_findJoin_86 (fun H locs hP hD hS => ?_)
          rw [show Int32.toNatClampNeg (nI (2 * t + 1)) = (2 * t + 1) from (nI_clamp (by omega))] at hP hD
          have hP : va_P (dC, dI) vwCl (wX a cA x ru ma (upd (upd (xjt V (ru 0) kn tm jo t) (2 * t) (xj V (ru 0) kn tm (2 * t))) (2 * t + 1) (xj V (ru 0) kn tm (2 * t + 1))) gv tk V.length fV kR fR kO fO) H := hP
          have hD : va_D A (wX a cA x ru ma (upd (upd (xjt V (ru 0) kn tm jo t) (2 * t) (xj V (ru 0) kn tm (2 * t))) (2 * t + 1) (xj V (ru 0) kn tm (2 * t + 1))) gv tk V.length fV kR fR kO fO) := hD
          refine lv_iinc (v := nI (t + 1)) (lv' := [(3, .int (nI (t + 1))), (4, .int r_4), (0, .ref (a 0)), (1, .int (nI kn)), (2, .int tm)]) hx hb qd_X_findJoin_87 hl (k := 4) rfl (mk_inc t) (by decide) rfl (fun ls hl => ?_)
          refine lv_goto (tgt := 2) hx hb qd_X_findJoin_90 (by decide) ?_
          rw [xjt_s] at hP hD
          exact ih_1 (t + 1) H locs ls ⟨by omega, hP, hD, hS, lv_sub hl [2, 3, 4, 0] rfl⟩
        · refine lv_iload hx hb qd_X_findJoin_66 (lv_at hl 0 rfl) ?_
          refine lv_if_ge (tgt := 76) hx hb qd_X_findJoin_68 (by decide) (fun c_9 => ?_) (fun c_9 => ?_)
          · refine lv_aload_n hx hb qd_X_findJoin_76 rfl (lv_at hl 1 rfl) ?_
            refine va_get (D := (dC, dI)) (ci := 0) (v := .ref (a 4)) (C := qR_X) (T := qT_X) (N := 13) hx hb hts qin_X hown hK hP 0 rfl rfl 2 (by decide) (hts _ mw_118) (fun _ h9 => h9) rfl qd_X_findJoin_77 ?_
            refine lv_iload hx hb qd_X_findJoin_80 (lv_at hl 0 rfl) ?_
            refine lv_iconst (v := 1) hx hb qd_X_findJoin_82 (by decide) ?_
            refine mk_calli (va_runV (As := [.int r_4, .int 1]) (rest := [.int (nI (2 * t + 1)), .ref (a 3)]) ⟨hx, hb, hml, hown, hts⟩ (c_V_get l dC dI cA H.size (a 4) (a 5) (a 6) fV V hV r_4 1) (cwV 2 hts gc_X_125 rfl rfl rfl (by decide +kernel) ⟨Nat.le_of_ble_eq_true rfl, Nat.le_of_ble_eq_true rfl⟩) (mk_roV hP [4, 5, 6] rfl hK (va_recv hK hP (ci := 5) (q0 := 4) rfl rfl)) rfl rfl hl.1 rfl (lv_room (Nat.le_of_ble_eq_true rfl)) qd_X_findJoin_83 ⟨(Nat.zero_le _), (Nat.zero_le _)⟩) hS hA hP (fun r_10 H locs hr_10 hP hS => ?_)
            have hr_10 : r_10 = sh_get 3 V r_4 (nI 1) := hr_10
            exact J_7 _ H locs (xj_get (by omega) (by omega) hk hr_4 (by omega) c_9 hr_10) hP hS
          · refine lv_bipush (v := (-2)) hx hb qd_X_findJoin_71 (by decide) ?_
            refine lv_goto (tgt := 86) hx hb qd_X_findJoin_73 (by decide) ?_
            exact J_7 _ H locs (xj_neg (by omega) hk hr_4 (by omega) c_9) hP hS
      · refine lv_iload hx hb qd_X_findJoin_36 (lv_at hl 0 rfl) ?_
        refine lv_if_ge (tgt := 46) hx hb qd_X_findJoin_38 (by decide) (fun c_11 => ?_) (fun c_11 => ?_)
        · refine lv_aload_n hx hb qd_X_findJoin_46 rfl (lv_at hl 1 rfl) ?_
          refine va_get (D := (dC, dI)) (ci := 0) (v := .ref (a 4)) (C := qR_X) (T := qT_X) (N := 13) hx hb hts qin_X hown hK hP 0 rfl rfl 2 (by decide) (hts _ mw_118) (fun _ h9 => h9) rfl qd_X_findJoin_47 ?_
          refine lv_iload hx hb qd_X_findJoin_50 (lv_at hl 0 rfl) ?_
          refine lv_iconst (v := 0) hx hb qd_X_findJoin_52 (by decide) ?_
          refine mk_calli (va_runV (As := [.int r_4, .int 0]) (rest := [.int (nI (2 * t)), .ref (a 3)]) ⟨hx, hb, hml, hown, hts⟩ (c_V_get l dC dI cA H.size (a 4) (a 5) (a 6) fV V hV r_4 0) (cwV 2 hts gc_X_125 rfl rfl rfl (by decide +kernel) ⟨Nat.le_of_ble_eq_true rfl, Nat.le_of_ble_eq_true rfl⟩) (mk_roV hP [4, 5, 6] rfl hK (va_recv hK hP (ci := 5) (q0 := 4) rfl rfl)) rfl rfl hl.1 rfl (lv_room (Nat.le_of_ble_eq_true rfl)) qd_X_findJoin_53 ⟨(Nat.zero_le _), (Nat.zero_le _)⟩) hS hA hP (fun r_12 H locs hr_12 hP hS => ?_)
          have hr_12 : r_12 = sh_get 3 V r_4 (nI 0) := hr_12
          exact J_5 _ H locs (xj_get (by omega) (by omega) hk hr_4 (by omega) c_11 hr_12) hP hS
        · refine lv_bipush (v := (-2)) hx hb qd_X_findJoin_41 (by decide) ?_
          refine lv_goto (tgt := 56) hx hb qd_X_findJoin_43 (by decide) ?_
          exact J_5 _ H locs (xj_neg (by omega) hk hr_4 (by omega) c_11) hP hS
  · obtain ⟨t, rfl⟩ : ∃ z, z = y9 := ⟨_, rfl⟩
    obtain ⟨hinv, hP, hD, hS, hl⟩ := hI
    have hinv : t + 0 = 3 := hinv
    have hP : va_P (dC, dI) vwCl (wX a cA x ru ma (xjt V (ru 0) kn tm jo t) gv tk V.length fV kR fR kO fO) H := hP
    have hD : va_D A (wX a cA x ru ma (xjt V (ru 0) kn tm jo t) gv tk V.length fV kR fR kO fO) := hD
    have hl : lv_has ls 5 [(0, .ref (a 0)), (1, .int (nI kn)), (2, .int tm), (3, .int (nI t))] := hl
    obtain rfl : t = 3 := by omega
    refine lv_iload_n hx hb qd_X_findJoin_2 rfl (lv_at hl 3 rfl) ?_
    refine lv_iconst (v := 3) hx hb qd_X_findJoin_3 (by decide) ?_
    refine lv_icmp_ge (tgt := 93) hx hb qd_X_findJoin_4 (by decide) (fun c_13 => ?_) (fun c_13 => ?_)
    · exact mk_mvret (xjt V (ru 0) kn tm jo 3) hx hb hr hlocks hP hK hD hS qd_X_findJoin_93 (rfl)
    · exact absurd (show (3 : Int32) ≤ nI 3 from by decide) c_13
set_option maxHeartbeats 4000000 in
set_option maxRecDepth 100000 in
/-- takeJoin(line) -/
theorem c_X_takeJoin (l : Launch) (dC : Nat → ClassId) (dI : Nat → Nat → Nat) (cA : ClassId) (sz : Nat) (a : Nat → Nat) (x ru ma jo : Nat → Int32) (gv tk : Int32) (kV : Nat) (fV : Nat → Int32) (fR : Nat → Int32) (fO : Nat → Int32) (R Lo : List (Nat → Int32)) (hR : sh_wf 12 96 fR R) (hO : sh_wf 11 192 fO Lo) (hroom : Lo.length < 192) (n3 : Nat) (hn3 : x 6 = nI n3) (h3 : n3 ≤ 3) (i' : Nat) (r0 : Nat → Int32) (hr0 : R[i']? = some r0) : Met l qy_X_takeJoin qw_X_takeJoin ({ frames := 3, cells := 0, slots := 0, locals := 107 }) (mk_mu [.ref (a 0), .int (nI i')] sz (dC, dI) vwCl [(cA, .int)] (wX a cA x ru ma jo gv tk kV fV R.length fR Lo.length fO)) (mk_muV (S := (List (Nat → Int32) × (Nat → Int32)) × (List (Nat → Int32) × (Nat → Int32)) × Int32) (fun u => u.1.1 = R.set i' (rs_jn r0 (xg_b (ru 2) n3 jo) jo 6) ∧ sh_ok 12 u.1.2 u.1.1 ∧ u.2.1.1 = Lo ++ (if (xg_b (ru 2) n3 jo) = 1 then [ot_rec 1 (rs_jn r0 (xg_b (ru 2) n3 jo) jo 6)] else []) ∧ sh_ok 11 u.2.1.2 u.2.1.1 ∧ u.2.2 = (if (xg_b (ru 2) n3 jo) = 1 then gv + 1 else gv)) (fun u => (wX a cA x ru ma jo u.2.2 tk kV fV u.1.1.length u.1.2 u.2.1.1.length u.2.1.2)) (dC, dI) vwCl [(cA, .int)] (va_A (wX a cA x ru ma jo gv tk kV fV R.length fR Lo.length fO) sz)) 0 0 (va_A (wX a cA x ru ma jo gv tk kV fV R.length fR Lo.length fO) sz) := by
  refine Met.ofW (cc := qb_X_takeJoin) (maxL := 3) (ret := none) (by decide) rfl ?_
  intro p e s m args below meth c s₁ B hml hpre
  obtain ⟨rfl, hsz, hP, hK, hD0⟩ := hpre
  have hx := B.exec
  have hb := B.bytes
  have hr := B.returns
  have hts0 := atoms_spec (ws := qw_X_takeJoin) B.pre
  have hts := fun w (h : w ∈ lw_gd) => hts0 w (List.mem_cons_of_mem _ h)
  have hown : s.vm.findClass qR_X = some m.cls := findClass_of_methodNamed B.named
  have hlocks := B.notSynchronized
  subst hsz
  have hD := hD0.self (sz := s.heap.size)
  generalize hAe : va_A (wX a cA x ru ma jo gv tk kV fV R.length fR Lo.length fO) s.heap.size = A at hD ⊢
  have hA : ∀ q : Nat, s.heap.size ≤ q → A q := fun q h => by rw [← hAe]; exact Or.inr h
  have hS : va_S A s.heap s.heap [] := va_S.rf
  have hl := lv_entry ([.ref (a 0), .int (nI i')]) (n := 3) (Nat.le_of_ble_eq_true rfl)
  rw [lg_entry_eq]
  generalize (lg_sl ([.ref (a 0), .int (nI i')]) ++ List.replicate (3 - (lg_sl ([.ref (a 0), .int (nI i')])).length) Slot.unset).toArray = ls at hl ⊢
  have hl : lv_has ls 3 [(0, .ref (a 0)), (1, .int (nI i'))] := hl
  have hP : va_P (dC, dI) vwCl (wX a cA x ru ma jo gv tk kV fV R.length fR Lo.length fO) s.heap := hP
  refine mk_start (A := A) hP (fun H locs hP hS => ?_)
  obtain ⟨hok, hlen, -, -, -⟩ := id hR
  refine lv_aload_n hx hb qd_X_takeJoin_0 rfl (lv_at hl 0 rfl) ?_
  refine mk_calli (va_runV (As := []) (rest := []) ⟨hx, hb, hml, hown, hts⟩ (c_X_isGivenByJoin l dC dI cA H.size a x ru ma jo gv tk kV fV R.length fR Lo.length fO n3 hn3 h3) (cwV 0 hts gc_X_166 rfl rfl rfl (by decide +kernel) ⟨Nat.le_of_ble_eq_true rfl, Nat.le_of_ble_eq_true rfl⟩) (mk_roV hP [0, 1, 2, 3, 4, 5, 6, 7, 8, 9, 10, 11, 12] rfl hK (va_recv hK hP (ci := 0) (q0 := 0) rfl rfl)) rfl rfl hl.1 rfl (lv_room (Nat.le_of_ble_eq_true rfl)) qd_X_takeJoin_1 ⟨(Nat.zero_le _), (Nat.zero_le _)⟩) hS hA hP (fun r_1 H locs hr_1 hP hS => ?_)
  obtain rfl : r_1 = (xg_b (ru 2) n3 jo) := hr_1
  refine lv_istore_n (lv' := [(2, .int (xg_b (ru 2) n3 jo)), (0, .ref (a 0)), (1, .int (nI i'))]) hx hb qd_X_takeJoin_4 rfl hl (by decide) rfl (fun ls hl => ?_)
  refine lv_aload_n hx hb qd_X_takeJoin_5 rfl (lv_at hl 1 rfl) ?_
  refine va_get (D := (dC, dI)) (ci := 0) (v := .ref (a 7)) (C := qR_X) (T := qT_X) (N := 13) hx hb hts qin_X hown hK hP 0 rfl rfl 3 (by decide) (hts _ mw_119) (fun _ h9 => h9) rfl qd_X_takeJoin_6 ?_
  refine lv_iload_n hx hb qd_X_takeJoin_9 rfl (lv_at hl 2 rfl) ?_
  refine lv_aload_n hx hb qd_X_takeJoin_10 rfl (lv_at hl 1 rfl) ?_
  refine va_get (D := (dC, dI)) (ci := 0) (v := .ref (a 3)) (C := qR_X) (T := qT_X) (N := 13) hx hb hts qin_X hown hK hP 0 rfl rfl 5 (by decide) (hts _ mw_121) (fun _ h9 => h9) rfl qd_X_takeJoin_11 ?_
  refine lv_iload_n hx hb qd_X_takeJoin_14 rfl (lv_at hl 0 rfl) ?_
  refine mk_mcallv (wr := [((a 0), .inr (0, [.ref (a 1), .ref (a 2), .ref (a 4), .ref (a 7), .ref (a 10), .ref (a 3), .int (x 6), .int (x 7), .int (x 8), .int (x 9), .int (x 10), .int (x 11), .int (x 12)])), ((a 1), .inl (cA, 4, .inl ru)), ((a 2), .inl (cA, 3, .inl ma)), ((a 4), .inr (5, [.ref (a 5)])), ((a 5), .inr (4, [.int (nI 3), .int (nI 160), .ref (a 6), .int (nI kV)])), ((a 6), .inl (cA, (3 * 160), .inl fV)), ((a 10), .inr (2, [.ref (a 11), .int gv, .int tk])), ((a 11), .inr (4, [.int (nI 11), .int (nI 192), .ref (a 12), .int (nI Lo.length)])), ((a 12), .inl (cA, (11 * 192), .inl fO))]) (wf := (fun u => (wX a cA x ru ma jo gv tk kV fV u.1.length u.2 Lo.length fO))) (va_runV (As := [.int (nI i'), .ref (a 3), .int (xg_b (ru 2) n3 jo)]) (rest := []) ⟨hx, hb, hml, hown, hts⟩ (c_R_setJoin l dC dI cA H.size (a 7) (a 8) (a 9) (a 3) fR jo R hR i' r0 hr0 (xg_b (ru 2) n3 jo) (xg_01 _ _ _)) (cwV 3 hts gc_X_170 rfl rfl rfl (by decide +kernel) ⟨Nat.le_of_ble_eq_true rfl, Nat.le_of_ble_eq_true rfl⟩) (mk_muP hP hD [7, 8, 9, 3] (by decide) rfl hK (va_recv hK hP (ci := 3) (q0 := 7) rfl rfl)) rfl rfl hl.1 rfl (lv_room (Nat.le_of_ble_eq_true rfl)) qd_X_takeJoin_15 ⟨(Nat.zero_le _), (Nat.zero_le _)⟩) hS hA hP hD [7, 8, 9, 3] [0, 1, 2, 4, 5, 6, 10, 11, 12] [0, 1, 2, 12, 3, 4, 5, 9, 10, 11, 6, 7, 8] rfl rfl (by decide) (by decide) (by decide) (fun _ => rfl) (fun u_3 H locs hu_3 hP hD hS => ?_)
  obtain ⟨R1, fR1⟩ := u_3
  obtain ⟨rfl, hokR⟩ : R1 = R.set i' (rs_jn r0 (xg_b (ru 2) n3 jo) jo 6) ∧ sh_ok 12 fR1 R1 := hu_3
  have hP : va_P (dC, dI) vwCl (wX a cA x ru ma jo gv tk kV fV ((R.set i' (rs_jn r0 (xg_b (ru 2) n3 jo) jo 6)).length) fR1 Lo.length fO) H := hP
  have hD : va_D A (wX a cA x ru ma jo gv tk kV fV ((R.set i' (rs_jn r0 (xg_b (ru 2) n3 jo) jo 6)).length) fR1 Lo.length fO) := hD
  refine lv_iload_n hx hb qd_X_takeJoin_18 rfl (lv_at hl 0 rfl) ?_
  refine lv_if_eq (tgt := 35) hx hb qd_X_takeJoin_19 (by decide) (fun c_4 => ?_) (fun c_4 => ?_)
  · have hg : ¬ (xg_b (ru 2) n3 jo) = 1 := by rw [c_4]; decide
    have hP : va_P (dC, dI) vwCl (wX a cA x ru ma jo (if (xg_b (ru 2) n3 jo) = 1 then gv + 1 else gv) tk kV fV ((R.set i' (rs_jn r0 (xg_b (ru 2) n3 jo) jo 6)).length) fR1 ((Lo ++ (if (xg_b (ru 2) n3 jo) = 1 then [ot_rec 1 (rs_jn r0 (xg_b (ru 2) n3 jo) jo 6)] else [])).length) fO) H := by rw [if_neg hg, if_neg hg, List.append_nil]; exact hP
    have hD : va_D A (wX a cA x ru ma jo (if (xg_b (ru 2) n3 jo) = 1 then gv + 1 else gv) tk kV fV ((R.set i' (rs_jn r0 (xg_b (ru 2) n3 jo) jo 6)).length) fR1 ((Lo ++ (if (xg_b (ru 2) n3 jo) = 1 then [ot_rec 1 (rs_jn r0 (xg_b (ru 2) n3 jo) jo 6)] else [])).length) fO) := by rw [if_neg hg, if_neg hg, List.append_nil]; exact hD
    exact mk_mvret (((R.set i' (rs_jn r0 (xg_b (ru 2) n3 jo) jo 6)), fR1), (Lo ++ (if (xg_b (ru 2) n3 jo) = 1 then [ot_rec 1 (rs_jn r0 (xg_b (ru 2) n3 jo) jo 6)] else []), fO), (if (xg_b (ru 2) n3 jo) = 1 then gv + 1 else gv)) hx hb hr hlocks hP hK hD hS qd_X_takeJoin_35 ⟨rfl, hokR, rfl, by rw [if_neg hg, List.append_nil]; exact hO.1, rfl⟩
  · refine lv_aload_n hx hb qd_X_takeJoin_22 rfl (lv_at hl 1 rfl) ?_
    refine va_get (D := (dC, dI)) (ci := 0) (v := .ref (a 10)) (C := qR_X) (T := qT_X) (N := 13) hx hb hts qin_X hown hK hP 0 rfl rfl 4 (by decide) (hts _ mw_120) (fun _ h9 => h9) rfl qd_X_takeJoin_23 ?_
    refine lv_iconst (v := 1) hx hb qd_X_takeJoin_26 (by decide) ?_
    refine lv_aload_n hx hb qd_X_takeJoin_27 rfl (lv_at hl 1 rfl) ?_
    refine va_get (D := (dC, dI)) (ci := 0) (v := .ref (a 7)) (C := qR_X) (T := qT_X) (N := 13) hx hb hts qin_X hown hK hP 0 rfl rfl 3 (by decide) (hts _ mw_119) (fun _ h9 => h9) rfl qd_X_takeJoin_28 ?_
    refine lv_iload_n hx hb qd_X_takeJoin_31 rfl (lv_at hl 2 rfl) ?_
    refine mk_mcallv (wr := [((a 0), .inr (0, [.ref (a 1), .ref (a 2), .ref (a 4), .ref (a 7), .ref (a 10), .ref (a 3), .int (x 6), .int (x 7), .int (x 8), .int (x 9), .int (x 10), .int (x 11), .int (x 12)])), ((a 1), .inl (cA, 4, .inl ru)), ((a 2), .inl (cA, 3, .inl ma)), ((a 3), .inl (cA, 6, .inl jo)), ((a 4), .inr (5, [.ref (a 5)])), ((a 5), .inr (4, [.int (nI 3), .int (nI 160), .ref (a 6), .int (nI kV)])), ((a 6), .inl (cA, (3 * 160), .inl fV))]) (wf := (fun u => (wX a cA x ru ma jo (if (1 : Int32) = 1 then gv + 1 else gv) (if (1 : Int32) = 1 then tk else tk + 1) kV fV ((R.set i' (rs_jn r0 (xg_b (ru 2) n3 jo) jo 6)).length) fR1 u.1.length u.2))) (va_runV (As := [.int 1, .ref (a 7), .int (nI i')]) (rest := []) ⟨hx, hb, hml, hown, hts⟩ (c_O_add l dC dI cA H.size (a 10) (a 11) (a 12) (a 7) (a 8) (a 9) gv tk fO fR1 Lo (R.set i' (rs_jn r0 (xg_b (ru 2) n3 jo) jo 6)) hO (⟨hokR, by rw [List.length_set]; exact hlen, by decide, by decide, by decide⟩) hroom 1 i' (rs_jn r0 (xg_b (ru 2) n3 jo) jo 6) (rs_set_at hr0)) (cwV 3 hts gc_X_174 rfl rfl rfl (by decide +kernel) ⟨Nat.le_of_ble_eq_true rfl, Nat.le_of_ble_eq_true rfl⟩) (mk_muP hP hD [10, 11, 12, 7, 8, 9] (by decide) rfl hK (va_recv hK hP (ci := 2) (q0 := 10) rfl rfl)) rfl rfl hl.1 rfl (lv_room (Nat.le_of_ble_eq_true rfl)) qd_X_takeJoin_32 ⟨(Nat.zero_le _), (Nat.zero_le _)⟩) hS hA hP hD [10, 11, 12, 7, 8, 9] [0, 1, 2, 3, 4, 5, 6] [0, 1, 2, 3, 4, 5, 6, 10, 11, 12, 7, 8, 9] rfl rfl (by decide) (by decide) (by decide) (fun _ => rfl) (fun u_6 H locs hu_6 hP hD hS => ?_)
    obtain ⟨O1, fO1⟩ := u_6
    obtain ⟨rfl, hokO⟩ : O1 = Lo ++ [ot_rec 1 (rs_jn r0 (xg_b (ru 2) n3 jo) jo 6)] ∧ sh_ok 11 fO1 O1 := hu_6
    rw [if_pos rfl, if_pos rfl] at hP hD
    have hP : va_P (dC, dI) vwCl (wX a cA x ru ma jo (gv + 1) tk kV fV ((R.set i' (rs_jn r0 (xg_b (ru 2) n3 jo) jo 6)).length) fR1 ((Lo ++ [ot_rec 1 (rs_jn r0 (xg_b (ru 2) n3 jo) jo 6)]).length) fO1) H := hP
    have hD : va_D A (wX a cA x ru ma jo (gv + 1) tk kV fV ((R.set i' (rs_jn r0 (xg_b (ru 2) n3 jo) jo 6)).length) fR1 ((Lo ++ [ot_rec 1 (rs_jn r0 (xg_b (ru 2) n3 jo) jo 6)]).length) fO1) := hD
    have hg : (xg_b (ru 2) n3 jo) = 1 := (xg_01 _ _ _).resolve_left c_4
    have hP : va_P (dC, dI) vwCl (wX a cA x ru ma jo (if (xg_b (ru 2) n3 jo) = 1 then gv + 1 else gv) tk kV fV ((R.set i' (rs_jn r0 (xg_b (ru 2) n3 jo) jo 6)).length) fR1 ((Lo ++ (if (xg_b (ru 2) n3 jo) = 1 then [ot_rec 1 (rs_jn r0 (xg_b (ru 2) n3 jo) jo 6)] else [])).length) fO1) H := by rw [if_pos hg, if_pos hg]; exact hP
    have hD : va_D A (wX a cA x ru ma jo (if (xg_b (ru 2) n3 jo) = 1 then gv + 1 else gv) tk kV fV ((R.set i' (rs_jn r0 (xg_b (ru 2) n3 jo) jo 6)).length) fR1 ((Lo ++ (if (xg_b (ru 2) n3 jo) = 1 then [ot_rec 1 (rs_jn r0 (xg_b (ru 2) n3 jo) jo 6)] else [])).length) fO1) := by rw [if_pos hg, if_pos hg]; exact hD
    exact mk_mvret (((R.set i' (rs_jn r0 (xg_b (ru 2) n3 jo) jo 6)), fR1), (Lo ++ (if (xg_b (ru 2) n3 jo) = 1 then [ot_rec 1 (rs_jn r0 (xg_b (ru 2) n3 jo) jo 6)] else []), fO1), (if (xg_b (ru 2) n3 jo) = 1 then gv + 1 else gv)) hx hb hr hlocks hP hK hD hS qd_X_takeJoin_35 ⟨rfl, hokR, rfl, by rw [if_pos hg]; exact hokO, rfl⟩
