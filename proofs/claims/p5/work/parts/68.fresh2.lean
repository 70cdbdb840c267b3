set_option maxHeartbeats 4000000 in
set_option maxRecDepth 100000 in
/-- count(what) on a new object -/
theorem c_X_count0 (l : Launch) (dC : Nat → ClassId) (dI : Nat → Nat → Nat) (cA : ClassId) (sz : Nat) (a : Nat → Nat) (x ru ma jo : Nat → Int32) (gv tk : Int32) (V : List (Nat → Int32)) (fV : Nat → Int32) (R : List (Nat → Int32)) (fR : Nat → Int32) (Lo : List (Nat → Int32)) (fO : Nat → Int32) (n3 : Nat) (hi : xi_ok x V fV R fR Lo fO n3) (wh : Int32) : Met l qy_X_count qw_X_count ({ frames := 2, cells := 0, slots := 0, locals := 44 }) (mk_roN [Cond.fieldLinkNest "AsOfJoins" 133 "AsOfJoins$Outs" "gives" "I" "AsOfJoins", Cond.fieldLinkNest "AsOfJoins" 136 "AsOfJoins$Outs" "takes" "I" "AsOfJoins"] [.ref (a 0), .int wh] sz (dC, dI) vwCl [(cA, .int)] (wX a cA x ru ma jo gv tk V.length fV R.length fR Lo.length fO)) (mk_roQ (fun r => x = (fun _ => 0) → ru = (fun _ => 0) → gv = 0 → tk = 0 → V = [] → R = [] → r = mc0 wh) sz) 0 0 (mk_new sz) := by
  refine Met.ofW (cc := qb_X_count) (maxL := 2) (ret := (some .int)) (by decide) rfl ?_
  intro p e s m args below meth c s₁ B hml hpre
  obtain ⟨rfl, hsz, hP, hK, hN⟩ := hpre
  have hx := B.exec
  have hb := B.bytes
  have hr := B.returns
  have hts0 := atoms_spec (ws := qw_X_count) B.pre
  have hts := fun w (h : w ∈ lw_gd) => hts0 w (List.mem_cons_of_mem _ h)
  have hown : s.vm.findClass qR_X = some m.cls := findClass_of_methodNamed B.named
  have hlocks := B.notSynchronized
  subst hsz
  have hA : ∀ q : Nat, s.heap.size ≤ q → mk_new s.heap.size q := fun _ h => h
  have hS : va_S (mk_new s.heap.size) s.heap s.heap [] := va_S.rf
  have hl := lv_entry ([.ref (a 0), .int wh]) (n := 2) (Nat.le_of_ble_eq_true rfl)
  rw [lg_entry_eq]
  generalize (lg_sl ([.ref (a 0), .int wh]) ++ List.replicate (2 - (lg_sl ([.ref (a 0), .int wh])).length) Slot.unset).toArray = ls at hl ⊢
  have hl : lv_has ls 2 [(0, .ref (a 0)), (1, .int wh)] := hl
  have hP : va_P (dC, dI) vwCl (wX a cA x ru ma jo gv tk V.length fV R.length fR Lo.length fO) s.heap := hP
  refine mk_start (A := (mk_new s.heap.size)) hP (fun H locs hP hS => ?_)
  obtain ⟨hV, hR, hO, hsort, hpl, hky, hn3, h3⟩ := id hi
  obtain ⟨hokV, hlenV, -, -, -⟩ := id hV
  obtain ⟨hokR, hlenR, -, -, -⟩ := id hR
  obtain ⟨hokO, hlenO, -, -, -⟩ := id hO
  refine lv_iload_n hx hb qd_X_count_0 rfl (lv_at hl 1 rfl) ?_
  rcases pk_ix wh (n := 18) (by decide) with hq | hq | ⟨j, hj, rfl⟩
  · refine lv_tableOut (tgt := 204) hx hb qd_X_count_1 (sw_out (n := 17) (by decide) (Or.inl hq)) (by decide) ?_
    refine lv_iconst (v := (-1)) hx hb qd_X_count_204 (by decide) ?_
    exact mk_iret hx hb hr hlocks hS qd_X_count_205 (fun _ _ _ _ _ _ => (mc0_out (Or.inl hq)).symm)
  · refine lv_tableOut (tgt := 204) hx hb qd_X_count_1 (sw_out (n := 17) (by decide) (Or.inr hq)) (by decide) ?_
    refine lv_iconst (v := (-1)) hx hb qd_X_count_204 (by decide) ?_
    exact mk_iret hx hb hr hlocks hS qd_X_count_205 (fun _ _ _ _ _ _ => (mc0_out (Or.inr hq)).symm)
  · rcases (show j = 0 ∨ j = 1 ∨ j = 2 ∨ j = 3 ∨ j = 4 ∨ j = 5 ∨ j = 6 ∨ j = 7 ∨ j = 8 ∨ j = 9 ∨ j = 10 ∨ j = 11 ∨ j = 12 ∨ j = 13 ∨ j = 14 ∨ j = 15 ∨ j = 16 ∨ j = 17 by omega) with rfl | rfl | rfl | rfl | rfl | rfl | rfl | rfl | rfl | rfl | rfl | rfl | rfl | rfl | rfl | rfl | rfl | rfl
    · refine lv_tableIn (off := 87) (tgt := 88) hx hb qd_X_count_1 (by decide) (by decide) (by decide) (by decide) ?_
      refine lv_aload_n hx hb qd_X_count_88 rfl (lv_at hl 0 rfl) ?_
      refine va_get (D := (dC, dI)) (ci := 0) (v := .int (x 6)) (C := qR_X) (T := qT_X) (N := 13) hx hb hts qin_X hown hK hP 0 rfl rfl 6 (by decide) (hts _ mw_122) (fun _ h9 => h9) rfl qd_X_count_89 ?_
      exact mk_iret hx hb hr hlocks hS qd_X_count_92 (fun h1 h2 h3 h4 h5 h6 => by subst h1; subst h2; subst h3; subst h4; subst h5; subst h6; rfl)
    · refine lv_tableIn (off := 92) (tgt := 93) hx hb qd_X_count_1 (by decide) (by decide) (by decide) (by decide) ?_
      refine lv_aload_n hx hb qd_X_count_93 rfl (lv_at hl 0 rfl) ?_
      refine va_get (D := (dC, dI)) (ci := 0) (v := .ref (a 4)) (C := qR_X) (T := qT_X) (N := 13) hx hb hts qin_X hown hK hP 0 rfl rfl 2 (by decide) (hts _ mw_118) (fun _ h9 => h9) rfl qd_X_count_94 ?_
      refine mk_calli (va_runV (As := []) (rest := []) ⟨hx, hb, hml, hown, hts⟩ (c_V_size l dC dI cA H.size (a 4) (a 5) (a 6) fV V hV) (cwV 0 hts gc_X_68 rfl rfl rfl (by decide +kernel) ⟨Nat.le_of_ble_eq_true rfl, Nat.le_of_ble_eq_true rfl⟩) (mk_roV hP [4, 5, 6] rfl hK (va_recv hK hP (ci := 5) (q0 := 4) rfl rfl)) rfl rfl hl.1 rfl (lv_room (Nat.le_of_ble_eq_true rfl)) qd_X_count_97 ⟨(Nat.zero_le _), (Nat.zero_le _)⟩) hS hA hP (fun r_1 H locs hr_1 hP hS => ?_)
      obtain rfl : r_1 = nI V.length := hr_1
      exact mk_iret hx hb hr hlocks hS qd_X_count_100 (fun h1 h2 h3 h4 h5 h6 => by subst h1; subst h2; subst h3; subst h4; subst h5; subst h6; rfl)
    · refine lv_tableIn (off := 100) (tgt := 101) hx hb qd_X_count_1 (by decide) (by decide) (by decide) (by decide) ?_
      refine lv_aload_n hx hb qd_X_count_101 rfl (lv_at hl 0 rfl) ?_
      refine va_get (D := (dC, dI)) (ci := 0) (v := .ref (a 7)) (C := qR_X) (T := qT_X) (N := 13) hx hb hts qin_X hown hK hP 0 rfl rfl 3 (by decide) (hts _ mw_119) (fun _ h9 => h9) rfl qd_X_count_102 ?_
      refine mk_calli (va_runV (As := []) (rest := []) ⟨hx, hb, hml, hown, hts⟩ (c_R_size l dC dI cA H.size (a 7) (a 8) (a 9) fR R hR) (cwV 0 hts gc_X_94 rfl rfl rfl (by decide +kernel) ⟨Nat.le_of_ble_eq_true rfl, Nat.le_of_ble_eq_true rfl⟩) (mk_roV hP [7, 8, 9] rfl hK (va_recv hK hP (ci := 3) (q0 := 7) rfl rfl)) rfl rfl hl.1 rfl (lv_room (Nat.le_of_ble_eq_true rfl)) qd_X_count_105 ⟨(Nat.zero_le _), (Nat.zero_le _)⟩) hS hA hP (fun r_2 H locs hr_2 hP hS => ?_)
      obtain rfl : r_2 = nI R.length := hr_2
      exact mk_iret hx hb hr hlocks hS qd_X_count_108 (fun h1 h2 h3 h4 h5 h6 => by subst h1; subst h2; subst h3; subst h4; subst h5; subst h6; rfl)
    · refine lv_tableIn (off := 108) (tgt := 109) hx hb qd_X_count_1 (by decide) (by decide) (by decide) (by decide) ?_
      refine lv_aload_n hx hb qd_X_count_109 rfl (lv_at hl 0 rfl) ?_
      refine va_get (D := (dC, dI)) (ci := 0) (v := .ref (a 7)) (C := qR_X) (T := qT_X) (N := 13) hx hb hts qin_X hown hK hP 0 rfl rfl 3 (by decide) (hts _ mw_119) (fun _ h9 => h9) rfl qd_X_count_110 ?_
      refine mk_calli (va_runV (As := []) (rest := []) ⟨hx, hb, hml, hown, hts⟩ (c_R_waiting l dC dI cA H.size (a 7) (a 8) (a 9) fR R hR) (cwV 0 hts gc_X_130 rfl rfl rfl (by decide +kernel) ⟨Nat.le_of_ble_eq_true rfl, Nat.le_of_ble_eq_true rfl⟩) (mk_roV hP [7, 8, 9] rfl hK (va_recv hK hP (ci := 3) (q0 := 7) rfl rfl)) rfl rfl hl.1 rfl (lv_room (Nat.le_of_ble_eq_true rfl)) qd_X_count_113 ⟨(Nat.zero_le _), (Nat.zero_le _)⟩) hS hA hP (fun r_3 H locs hr_3 hP hS => ?_)
      obtain rfl : r_3 = rs_wt R := hr_3
      exact mk_iret hx hb hr hlocks hS qd_X_count_116 (fun h1 h2 h3 h4 h5 h6 => by subst h1; subst h2; subst h3; subst h4; subst h5; subst h6; rfl)
    · refine lv_tableIn (off := 116) (tgt := 117) hx hb qd_X_count_1 (by decide) (by decide) (by decide) (by decide) ?_
      refine lv_aload_n hx hb qd_X_count_117 rfl (lv_at hl 0 rfl) ?_
      refine va_get (D := (dC, dI)) (ci := 0) (v := .int (x 8)) (C := qR_X) (T := qT_X) (N := 13) hx hb hts qin_X hown hK hP 0 rfl rfl 8 (by decide) (hts _ mw_124) (fun _ h9 => h9) rfl qd_X_count_118 ?_
      exact mk_iret hx hb hr hlocks hS qd_X_count_121 (fun h1 h2 h3 h4 h5 h6 => by subst h1; subst h2; subst h3; subst h4; subst h5; subst h6; rfl)
    · refine lv_tableIn (off := 121) (tgt := 122) hx hb qd_X_count_1 (by decide) (by decide) (by decide) (by decide) ?_
      refine lv_aload_n hx hb qd_X_count_122 rfl (lv_at hl 0 rfl) ?_
      refine va_get (D := (dC, dI)) (ci := 0) (v := .ref (a 10)) (C := qR_X) (T := qT_X) (N := 13) hx hb hts qin_X hown hK hP 0 rfl rfl 4 (by decide) (hts _ mw_120) (fun _ h9 => h9) rfl qd_X_count_123 ?_
      refine va_getN (host := "AsOfJoins") (D := (dC, dI)) (ci := 2) (v := .int gv) (C := qR_O) (T := qT_O) (N := 3) hx hb hts qin_O hown hK hP 10 rfl rfl 1 (by decide) (va_Nw.use rfl (hN _ (List.mem_of_getElem? (i := 0) rfl))) (fun _ h9 => h9) rfl qd_X_count_126 ?_
      exact mk_iret hx hb hr hlocks hS qd_X_count_129 (fun h1 h2 h3 h4 h5 h6 => by subst h1; subst h2; subst h3; subst h4; subst h5; subst h6; rfl)
    · refine lv_tableIn (off := 129) (tgt := 130) hx hb qd_X_count_1 (by decide) (by decide) (by decide) (by decide) ?_
      refine lv_aload_n hx hb qd_X_count_130 rfl (lv_at hl 0 rfl) ?_
      refine va_get (D := (dC, dI)) (ci := 0) (v := .ref (a 10)) (C := qR_X) (T := qT_X) (N := 13) hx hb hts qin_X hown hK hP 0 rfl rfl 4 (by decide) (hts _ mw_120) (fun _ h9 => h9) rfl qd_X_count_131 ?_
      refine va_getN (host := "AsOfJoins") (D := (dC, dI)) (ci := 2) (v := .int tk) (C := qR_O) (T := qT_O) (N := 3) hx hb hts qin_O hown hK hP 10 rfl rfl 2 (by decide) (va_Nw.use rfl (hN _ (List.mem_of_getElem? (i := 1) rfl))) (fun _ h9 => h9) rfl qd_X_count_134 ?_
      exact mk_iret hx hb hr hlocks hS qd_X_count_137 (fun h1 h2 h3 h4 h5 h6 => by subst h1; subst h2; subst h3; subst h4; subst h5; subst h6; rfl)
    · refine lv_tableIn (off := 137) (tgt := 138) hx hb qd_X_count_1 (by decide) (by decide) (by decide) (by decide) ?_
      refine lv_aload_n hx hb qd_X_count_138 rfl (lv_at hl 0 rfl) ?_
      refine va_get (D := (dC, dI)) (ci := 0) (v := .int (x 9)) (C := qR_X) (T := qT_X) (N := 13) hx hb hts qin_X hown hK hP 0 rfl rfl 9 (by decide) (hts _ mw_125) (fun _ h9 => h9) rfl qd_X_count_139 ?_
      exact mk_iret hx hb hr hlocks hS qd_X_count_142 (fun h1 h2 h3 h4 h5 h6 => by subst h1; subst h2; subst h3; subst h4; subst h5; subst h6; rfl)
    · refine lv_tableIn (off := 142) (tgt := 143) hx hb qd_X_count_1 (by decide) (by decide) (by decide) (by decide) ?_
      refine lv_aload_n hx hb qd_X_count_143 rfl (lv_at hl 0 rfl) ?_
      refine va_get (D := (dC, dI)) (ci := 0) (v := .int (x 10)) (C := qR_X) (T := qT_X) (N := 13) hx hb hts qin_X hown hK hP 0 rfl rfl 10 (by decide) (hts _ mw_126) (fun _ h9 => h9) rfl qd_X_count_144 ?_
      exact mk_iret hx hb hr hlocks hS qd_X_count_147 (fun h1 h2 h3 h4 h5 h6 => by subst h1; subst h2; subst h3; subst h4; subst h5; subst h6; rfl)
    · refine lv_tableIn (off := 147) (tgt := 148) hx hb qd_X_count_1 (by decide) (by decide) (by decide) (by decide) ?_
      refine lv_aload_n hx hb qd_X_count_148 rfl (lv_at hl 0 rfl) ?_
      refine va_get (D := (dC, dI)) (ci := 0) (v := .int (x 11)) (C := qR_X) (T := qT_X) (N := 13) hx hb hts qin_X hown hK hP 0 rfl rfl 11 (by decide) (hts _ mw_127) (fun _ h9 => h9) rfl qd_X_count_149 ?_
      exact mk_iret hx hb hr hlocks hS qd_X_count_152 (fun h1 h2 h3 h4 h5 h6 => by subst h1; subst h2; subst h3; subst h4; subst h5; subst h6; rfl)
    · refine lv_tableIn (off := 152) (tgt := 153) hx hb qd_X_count_1 (by decide) (by decide) (by decide) (by decide) ?_
      refine lv_aload_n hx hb qd_X_count_153 rfl (lv_at hl 0 rfl) ?_
      refine va_get (D := (dC, dI)) (ci := 0) (v := .int (x 7)) (C := qR_X) (T := qT_X) (N := 13) hx hb hts qin_X hown hK hP 0 rfl rfl 7 (by decide) (hts _ mw_123) (fun _ h9 => h9) rfl qd_X_count_154 ?_
      exact mk_iret hx hb hr hlocks hS qd_X_count_157 (fun h1 h2 h3 h4 h5 h6 => by subst h1; subst h2; subst h3; subst h4; subst h5; subst h6; rfl)
    · refine lv_tableIn (off := 157) (tgt := 158) hx hb qd_X_count_1 (by decide) (by decide) (by decide) (by decide) ?_
      refine lv_aload_n hx hb qd_X_count_158 rfl (lv_at hl 0 rfl) ?_
      refine lv_iconst (v := 0) hx hb qd_X_count_159 (by decide) ?_
      refine mk_calli (va_runV (As := [.int 0]) (rest := []) ⟨hx, hb, hml, hown, hts⟩ (c_X_markOrNone l dC dI cA H.size a x ru ma jo gv tk V.length fV R.length fR Lo.length fO 0) (cwV 1 hts gc_X_142 rfl rfl rfl (by decide +kernel) ⟨Nat.le_of_ble_eq_true rfl, Nat.le_of_ble_eq_true rfl⟩) (mk_roV hP [0, 1, 2, 3, 4, 5, 6, 7, 8, 9, 10, 11, 12] rfl hK (va_recv hK hP (ci := 0) (q0 := 0) rfl rfl)) rfl rfl hl.1 rfl (lv_room (Nat.le_of_ble_eq_true rfl)) qd_X_count_160 ⟨(Nat.zero_le _), (Nat.zero_le _)⟩) hS hA hP (fun r_4 H locs hr_4 hP hS => ?_)
      obtain rfl : r_4 = xmn (x 6) ma 0 := hr_4
      exact mk_iret hx hb hr hlocks hS qd_X_count_163 (fun h1 h2 h3 h4 h5 h6 => by subst h1; subst h2; subst h3; subst h4; subst h5; subst h6; rfl)
    · refine lv_tableIn (off := 163) (tgt := 164) hx hb qd_X_count_1 (by decide) (by decide) (by decide) (by decide) ?_
      refine lv_aload_n hx hb qd_X_count_164 rfl (lv_at hl 0 rfl) ?_
      refine lv_iconst (v := 1) hx hb qd_X_count_165 (by decide) ?_
      refine mk_calli (va_runV (As := [.int 1]) (rest := []) ⟨hx, hb, hml, hown, hts⟩ (c_X_markOrNone l dC dI cA H.size a x ru ma jo gv tk V.length fV R.length fR Lo.length fO 1) (cwV 1 hts gc_X_142 rfl rfl rfl (by decide +kernel) ⟨Nat.le_of_ble_eq_true rfl, Nat.le_of_ble_eq_true rfl⟩) (mk_roV hP [0, 1, 2, 3, 4, 5, 6, 7, 8, 9, 10, 11, 12] rfl hK (va_recv hK hP (ci := 0) (q0 := 0) rfl rfl)) rfl rfl hl.1 rfl (lv_room (Nat.le_of_ble_eq_true rfl)) qd_X_count_166 ⟨(Nat.zero_le _), (Nat.zero_le _)⟩) hS hA hP (fun r_5 H locs hr_5 hP hS => ?_)
      obtain rfl : r_5 = xmn (x 6) ma 1 := hr_5
      exact mk_iret hx hb hr hlocks hS qd_X_count_169 (fun h1 h2 h3 h4 h5 h6 => by subst h1; subst h2; subst h3; subst h4; subst h5; subst h6; rfl)
    · refine lv_tableIn (off := 169) (tgt := 170) hx hb qd_X_count_1 (by decide) (by decide) (by decide) (by decide) ?_
      refine lv_aload_n hx hb qd_X_count_170 rfl (lv_at hl 0 rfl) ?_
      refine lv_iconst (v := 2) hx hb qd_X_count_171 (by decide) ?_
      refine mk_calli (va_runV (As := [.int 2]) (rest := []) ⟨hx, hb, hml, hown, hts⟩ (c_X_markOrNone l dC dI cA H.size a x ru ma jo gv tk V.length fV R.length fR Lo.length fO 2) (cwV 1 hts gc_X_142 rfl rfl rfl (by decide +kernel) ⟨Nat.le_of_ble_eq_true rfl, Nat.le_of_ble_eq_true rfl⟩) (mk_roV hP [0, 1, 2, 3, 4, 5, 6, 7, 8, 9, 10, 11, 12] rfl hK (va_recv hK hP (ci := 0) (q0 := 0) rfl rfl)) rfl rfl hl.1 rfl (lv_room (Nat.le_of_ble_eq_true rfl)) qd_X_count_172 ⟨(Nat.zero_le _), (Nat.zero_le _)⟩) hS hA hP (fun r_6 H locs hr_6 hP hS => ?_)
      obtain rfl : r_6 = xmn (x 6) ma 2 := hr_6
      exact mk_iret hx hb hr hlocks hS qd_X_count_175 (fun h1 h2 h3 h4 h5 h6 => by subst h1; subst h2; subst h3; subst h4; subst h5; subst h6; rfl)
    · refine lv_tableIn (off := 175) (tgt := 176) hx hb qd_X_count_1 (by decide) (by decide) (by decide) (by decide) ?_
      refine lv_aload_n hx hb qd_X_count_176 rfl (lv_at hl 0 rfl) ?_
      refine va_get (D := (dC, dI)) (ci := 0) (v := .ref (a 1)) (C := qR_X) (T := qT_X) (N := 13) hx hb hts qin_X hown hK hP 0 rfl rfl 0 (by decide) (hts _ mw_116) (fun _ h9 => h9) rfl qd_X_count_177 ?_
      refine lv_iconst (v := 0) hx hb qd_X_count_180 (by decide) ?_
      refine va_iald (i := 0) hx hb hK hP 1 0 rfl rfl (show ¬ ((0 : Int32) < 0 ∨ 4 ≤ (0 : Int32).toNatClampNeg) from by decide) qd_X_count_181 ?_
      refine mk_rw (y := ru 0) (rfl) ?_
      exact mk_iret hx hb hr hlocks hS qd_X_count_182 (fun h1 h2 h3 h4 h5 h6 => by subst h1; subst h2; subst h3; subst h4; subst h5; subst h6; rfl)
    · refine lv_tableIn (off := 182) (tgt := 183) hx hb qd_X_count_1 (by decide) (by decide) (by decide) (by decide) ?_
      refine lv_aload_n hx hb qd_X_count_183 rfl (lv_at hl 0 rfl) ?_
      refine va_get (D := (dC, dI)) (ci := 0) (v := .ref (a 1)) (C := qR_X) (T := qT_X) (N := 13) hx hb hts qin_X hown hK hP 0 rfl rfl 0 (by decide) (hts _ mw_116) (fun _ h9 => h9) rfl qd_X_count_184 ?_
      refine lv_iconst (v := 1) hx hb qd_X_count_187 (by decide) ?_
      refine va_iald (i := 1) hx hb hK hP 1 0 rfl rfl (show ¬ ((1 : Int32) < 0 ∨ 4 ≤ (1 : Int32).toNatClampNeg) from by decide) qd_X_count_188 ?_
      refine mk_rw (y := ru 1) (rfl) ?_
      exact mk_iret hx hb hr hlocks hS qd_X_count_189 (fun h1 h2 h3 h4 h5 h6 => by subst h1; subst h2; subst h3; subst h4; subst h5; subst h6; rfl)
    · refine lv_tableIn (off := 189) (tgt := 190) hx hb qd_X_count_1 (by decide) (by decide) (by decide) (by decide) ?_
      refine lv_aload_n hx hb qd_X_count_190 rfl (lv_at hl 0 rfl) ?_
      refine va_get (D := (dC, dI)) (ci := 0) (v := .ref (a 1)) (C := qR_X) (T := qT_X) (N := 13) hx hb hts qin_X hown hK hP 0 rfl rfl 0 (by decide) (hts _ mw_116) (fun _ h9 => h9) rfl qd_X_count_191 ?_
      refine lv_iconst (v := 2) hx hb qd_X_count_194 (by decide) ?_
      refine va_iald (i := 2) hx hb hK hP 1 0 rfl rfl (show ¬ ((2 : Int32) < 0 ∨ 4 ≤ (2 : Int32).toNatClampNeg) from by decide) qd_X_count_195 ?_
      refine mk_rw (y := ru 2) (rfl) ?_
      exact mk_iret hx hb hr hlocks hS qd_X_count_196 (fun h1 h2 h3 h4 h5 h6 => by subst h1; subst h2; subst h3; subst h4; subst h5; subst h6; rfl)
    · refine lv_tableIn (off := 196) (tgt := 197) hx hb qd_X_count_1 (by decide) (by decide) (by decide) (by decide) ?_
      refine lv_aload_n hx hb qd_X_count_197 rfl (lv_at hl 0 rfl) ?_
      refine va_get (D := (dC, dI)) (ci := 0) (v := .ref (a 1)) (C := qR_X) (T := qT_X) (N := 13) hx hb hts qin_X hown hK hP 0 rfl rfl 0 (by decide) (hts _ mw_116) (fun _ h9 => h9) rfl qd_X_count_198 ?_
      refine lv_iconst (v := 3) hx hb qd_X_count_201 (by decide) ?_
      refine va_iald (i := 3) hx hb hK hP 1 0 rfl rfl (show ¬ ((3 : Int32) < 0 ∨ 4 ≤ (3 : Int32).toNatClampNeg) from by decide) qd_X_count_202 ?_
      refine mk_rw (y := ru 3) (rfl) ?_
      exact mk_iret hx hb hr hlocks hS qd_X_count_203 (fun h1 h2 h3 h4 h5 h6 => by subst h1; subst h2; subst h3; subst h4; subst h5; subst h6; rfl)
