set_option maxHeartbeats 4000000 in
set_option maxRecDepth 100000 in
/-- count(what) (that it answers) -/
theorem c_X_count (l : Launch) (dC : Nat → ClassId) (dI : Nat → Nat → Nat) (cA : ClassId) (sz : Nat) (a : Nat → Nat) (x ru ma jo : Nat → Int32) (gv tk : Int32) (V : List (Nat → Int32)) (fV : Nat → Int32) (R : List (Nat → Int32)) (fR : Nat → Int32) (Lo : List (Nat → Int32)) (fO : Nat → Int32) (n3 : Nat) (hi : xi_ok x V fV R fR Lo fO n3) (wh : Int32) : Met l qy_X_count qw_X_count ({ frames := 2, cells := 0, slots := 0, locals := 44 }) (mk_roN [Cond.fieldLinkNest "AsOfJoins" 133 "AsOfJoins$Outs" "gives" "I" "AsOfJoins", Cond.fieldLinkNest "AsOfJoins" 136 "AsOfJoins$Outs" "takes" "I" "AsOfJoins"] [.ref (a 0), .int wh] sz (dC, dI) vwCl [(cA, .int)] (wX a cA x ru ma jo gv tk V.length fV R.length fR Lo.length fO)) (mk_roQ (fun _ => True) sz) 0 0 (mk_new sz) := by
  refine Met.ofW (cc := qb_X_count) (maxL := 2) (ret := (some .int)) (by decide) rfl ?_
  intro p e s m args below meth c s₁ B hml hpre
  obtain ⟨rfl, hsz, hP, hK, hN⟩ := hpre
  have hx := B.exec
  have hb := B.bytes
  have hr := B.returns
  have hts0 := atoms_spec (ws := qw_X_count) B.pre
  have hts := fun w (h : w ∈ lw_gd) => hts0 w (List.mem_cons_of_mem _ h)
  have hown : s.vm.findClass qR_X = some m.cls := findClass_of_methodNamed B.named
  have hlocks := B.notSynchronized
  subst hsz
  have hA : ∀ q : Nat, s.heap.size ≤ q → mk_new s.heap.size q := fun _ h => h
  have hS : va_S (mk_new s.heap.size) s.heap s.heap [] := va_S.rf
  have hl := lv_entry ([.ref (a 0), .int wh]) (n := 2) (Nat.le_of_ble_eq_true rfl)
  rw [lg_entry_eq]
  generalize (lg_sl ([.ref (a 0), .int wh]) ++ List.replicate (2 - (lg_sl ([.ref (a 0), .int wh])).length) Slot.unset).toArray = ls at hl ⊢
  have hl : lv_has ls 2 [(0, .ref (a 0)), (1, .int wh)] := hl
  have hP : va_P (dC, dI) vwCl (wX a cA x ru ma jo gv tk V.length fV R.length fR Lo.length fO) s.heap := hP
  refine mk_start (A := (mk_new s.heap.size)) hP (fun H locs hP hS => ?_)
  obtain ⟨hV, hR, hO, hsort, hpl, hky, hn3, h3⟩ := id hi
  obtain ⟨hokV, hlenV, -, -, -⟩ := id hV
  obtain ⟨hokR, hlenR, -, -, -⟩ := id hR
  obtain ⟨hokO, hlenO, -, -, -⟩ := id hO
  refine lv_iload_n hx hb qd_X_count_0 rfl (lv_at hl 1 rfl) ?_
  rcases pk_ix wh (n := 18) (by decide) with hq | hq | ⟨j, hj, rfl⟩
  · refine lv_tableOut (tgt := 204) hx hb qd_X_count_1 (sw_out (n := 17) (by decide) (Or.inl hq)) (by decide) ?_
    refine lv_iconst (v := (-1)) hx hb qd_X_count_204 (by decide) ?_
    exact mk_iret hx hb hr hlocks hS qd_X_count_205 (trivial)
  · refine lv_tableOut (tgt := 204) hx hb qd_X_count_1 (sw_out (n := 17) (by decide) (Or.inr hq)) (by decide) ?_
    refine lv_iconst (v := (-1)) hx hb qd_X_count_204 (by decide) ?_
    exact mk_iret hx hb hr hlocks hS qd_X_count_205 (trivial)
  · rcases (show j = 0 ∨ j = 1 ∨ j = 2 ∨ j = 3 ∨ j = 4 ∨ j = 5 ∨ j = 6 ∨ j = 7 ∨ j = 8 ∨ j = 9 ∨ j = 10 ∨ j = 11 ∨ j = 12 ∨ j = 13 ∨ j = 14 ∨ j = 15 ∨ j = 16 ∨ j = 17 by omega) with rfl | rfl | rfl | rfl | rfl | rfl | rfl | rfl | rfl | rfl | rfl | rfl | rfl | rfl | rfl | rfl | rfl | rfl
    · refine lv_tableIn (off := 87) (tgt := 88) hx hb qd_X_count_1 (by decide) (by decide) (by decide) (by decide) ?_
      refine lv_aload_n hx hb qd_X_count_88 rfl (lv_at hl 0 rfl) ?_
      refine va_get (D := (dC, dI)) (ci := 0) (v := .int (x 6)) (C := qR_X) (T := qT_X) (N := 13) hx hb hts qin_X hown hK hP 0 rfl rfl 6 (by decide) (hts _ mw_122) (fun _ h9 => h9) rfl qd_X_count_89 ?_
      exact mk_iret hx hb hr hlocks hS qd_X_count_92 (trivial)
    · refine lv_tableIn (off := 92) (tgt := 93) hx hb qd_X_count_1 (by decide) (by decide) (by decide) (by decide) ?_
      refine lv_aload_n hx hb qd_X_count_93 rfl (lv_at hl 0 rfl) ?_
      refine va_get (D := (dC, dI)) (ci := 0) (v := .ref (a 4)) (C := qR_X) (T := qT_X) (N := 13) hx hb hts qin_X hown hK hP 0 rfl rfl 2 (by decide) (hts _ mw_118) (fun _ h9 => h9) rfl qd_X_count_94 ?_
      refine mk_calli (va_runV (As := []) (rest := []) ⟨hx, hb, hml, hown, hts⟩ (c_V_size l dC dI cA H.size (a 4) (a 5) (a 6) fV V hV) (cwV 0 hts gc_X_68 rfl rfl rfl (by decide +kernel) ⟨Nat.le_of_ble_eq_true rfl, Nat.le_of_ble_eq_true rfl⟩) (mk_roV hP [4, 5, 6] rfl hK (va_recv hK hP (ci := 5) (q0 := 4) rfl rfl)) rfl rfl hl.1 rfl (lv_room (Nat.le_of_ble_eq_true rfl)) qd_X_count_97 ⟨(Nat.zero_le _), (Nat.zero_le _)⟩) hS hA hP (fun r_1 H locs hr_1 hP hS => ?_)
      exact mk_iret hx hb hr hlocks hS qd_X_count_100 (trivial)
    · refine lv_tableIn (off := 100) (tgt := 101) hx hb qd_X_count_1 (by decide) (by decide) (by decide) (by decide) ?_
      refine lv_aload_n hx hb qd_X_count_101 rfl (lv_at hl 0 rfl) ?_
      refine va_get (D := (dC, dI)) (ci := 0) (v := .ref (a 7)) (C := qR_X) (T := qT_X) (N := 13) hx hb hts qin_X hown hK hP 0 rfl rfl 3 (by decide) (hts _ mw_119) (fun _ h9 => h9) rfl qd_X_count_102 ?_
      refine mk_calli (va_runV (As := []) (rest := []) ⟨hx, hb, hml, hown, hts⟩ (c_R_size l dC dI cA H.size (a 7) (a 8) (a 9) fR R hR) (cwV 0 hts gc_X_94 rfl rfl rfl (by decide +kernel) ⟨Nat.le_of_ble_eq_true rfl, Nat.le_of_ble_eq_true rfl⟩) (mk_roV hP [7, 8, 9] rfl hK (va_recv hK hP (ci := 3) (q0 := 7) rfl rfl)) rfl rfl hl.1 rfl (lv_room (Nat.le_of_ble_eq_true rfl)) qd_X_count_105 ⟨(Nat.zero_le _), (Nat.zero_le _)⟩) hS hA hP (fun r_2 H locs hr_2 hP hS => ?_)
      exact mk_iret hx hb hr hlocks hS qd_X_count_108 (trivial)
    · refine lv_tableIn (off := 108) (tgt := 109) hx hb qd_X_count_1 (by decide) (by decide) (by decide) (by decide) ?_
      refine lv_aload_n hx hb qd_X_count_109 rfl (lv_at hl 0 rfl) ?_
      refine va_get (D := (dC, dI)) (ci := 0) (v := .ref (a 7)) (C := qR_X) (T := qT_X) (N := 13) hx hb hts qin_X hown hK hP 0 rfl rfl 3 (by decide) (hts _ mw_119) (fun _ h9 => h9) rfl qd_X_count_110 ?_
      refine mk_calli (va_runV (As := []) (rest := []) ⟨hx, hb, hml, hown, hts⟩ (c_R_waiting l dC dI cA H.size (a 7) (a 8) (a 9) fR R hR) (cwV 0 hts gc_X_130 rfl rfl rfl (by decide +kernel) ⟨Nat.le_of_ble_eq_true rfl, Nat.le_of_ble_eq_true rfl⟩) (mk_roV hP [7, 8, 9] rfl hK (va_recv hK hP (ci := 3) (q0 := 7) rfl rfl)) rfl rfl hl.1 rfl (lv_room (Nat.le_of_ble_eq_true rfl)) qd_X_count_113 ⟨(Nat.zero_le _), (Nat.zero_le _)⟩) hS hA hP (fun r_3 H locs hr_3 hP hS => ?_)
      exact mk_iret hx hb hr hlocks hS qd_X_count_116 (trivial)
    · refine lv_tableIn (off := 116) (tgt := 117) hx hb qd_X_count_1 (by decide) (by decide) (by decide) (by decide) ?_
      refine lv_aload_n hx hb qd_X_count_117 rfl (lv_at hl 0 rfl) ?_
      refine va_get (D := (dC, dI)) (ci := 0) (v := .int (x 8)) (C := qR_X) (T := qT_X) (N := 13) hx hb hts qin_X hown hK hP 0 rfl rfl 8 (by decide) (hts _ mw_124) (fun _ h9 => h9) rfl qd_X_count_118 ?_
      exact mk_iret hx hb hr hlocks hS qd_X_count_121 (trivial)
    · refine lv_tableIn (off := 121) (tgt := 122) hx hb qd_X_count_1 (by decide) (by decide) (by decide) (by decide) ?_
      refine lv_aload_n hx hb qd_X_count_122 rfl (lv_at hl 0 rfl) ?_
      refine va_get (D := (dC, dI)) (ci := 0) (v := .ref (a 10)) (C := qR_X) (T := qT_X) (N := 13) hx hb hts qin_X hown hK hP 0 rfl rfl 4 (by decide) (hts _ mw_120) (fun _ h9 => h9) rfl qd_X_count_123 ?_
      refine va_getN (host := "AsOfJoins") (D := (dC, dI)) (ci := 2) (v := .int gv) (C := qR_O) (T := qT_O) (N := 3) hx hb hts qin_O hown hK hP 10 rfl rfl 1 (by decide) (va_Nw.use rfl (hN _ (List.mem_of_getElem? (i := 0) rfl))) (fun _ h9 => h9) rfl qd_X_count_126 ?_
      exact mk_iret hx hb hr hlocks hS qd_X_count_129 (trivial)
    · refine lv_tableIn (off := 129) (tgt := 130) hx hb qd_X_count_1 (by decide) (by decide) (by decide) (by decide) ?_
      refine lv_aload_n hx hb qd_X_count_130 rfl (lv_at hl 0 rfl) ?_
      refine va_get (D := (dC, dI)) (ci := 0) (v := .ref (a 10)) (C := qR_X) (T := qT_X) (N := 13) hx hb hts qin_X hown hK hP 0 rfl rfl 4 (by decide) (hts _ mw_120) (fun _ h9 => h9) rfl qd_X_count_131 ?_
      refine va_getN (host := "AsOfJoins") (D := (dC, dI)) (ci := 2) (v := .int tk) (C := qR_O) (T := qT_O) (N := 3) hx hb hts qin_O hown hK hP 10 rfl rfl 2 (by decide) (va_Nw.use rfl (hN _ (List.mem_of_getElem? (i := 1) rfl))) (fun _ h9 => h9) rfl qd_X_count_134 ?_
      exact mk_iret hx hb hr hlocks hS qd_X_count_137 (trivial)
    · refine lv_tableIn (off := 137) (tgt := 138) hx hb qd_X_count_1 (by decide) (by decide) (by decide) (by decide) ?_
      refine lv_aload_n hx hb qd_X_count_138 rfl (lv_at hl 0 rfl) ?_
      refine va_get (D := (dC, dI)) (ci := 0) (v := .int (x 9)) (C := qR_X) (T := qT_X) (N := 13) hx hb hts qin_X hown hK hP 0 rfl rfl 9 (by decide) (hts _ mw_125) (fun _ h9 => h9) rfl qd_X_count_139 ?_
      exact mk_iret hx hb hr hlocks hS qd_X_count_142 (trivial)
    · refine lv_tableIn (off := 142) (tgt := 143) hx hb qd_X_count_1 (by decide) (by decide) (by decide) (by decide) ?_
      refine lv_aload_n hx hb qd_X_count_143 rfl (lv_at hl 0 rfl) ?_
      refine va_get (D := (dC, dI)) (ci := 0) (v := .int (x 10)) (C := qR_X) (T := qT_X) (N := 13) hx hb hts qin_X hown hK hP 0 rfl rfl 10 (by decide) (hts _ mw_126) (fun _ h9 => h9) rfl qd_X_count_144 ?_
      exact mk_iret hx hb hr hlocks hS qd_X_count_147 (trivial)
    · refine lv_tableIn (off := 147) (tgt := 148) hx hb qd_X_count_1 (by decide) (by decide) (by decide) (by decide) ?_
      refine lv_aload_n hx hb qd_X_count_148 rfl (lv_at hl 0 rfl) ?_
      refine va_get (D := (dC, dI)) (ci := 0) (v := .int (x 11)) (C := qR_X) (T := qT_X) (N := 13) hx hb hts qin_X hown hK hP 0 rfl rfl 11 (by decide) (hts _ mw_127) (fun _ h9 => h9) rfl qd_X_count_149 ?_
      exact mk_iret hx hb hr hlocks hS qd_X_count_152 (trivial)
    · refine lv_tableIn (off := 152) (tgt := 153) hx hb qd_X_count_1 (by decide) (by decide) (by decide) (by decide) ?_
      refine lv_aload_n hx hb qd_X_count_153 rfl (lv_at hl 0 rfl) ?_
      refine va_get (D := (dC, dI)) (ci := 0) (v := .int (x 7)) (C := qR_X) (T := qT_X) (N := 13) hx hb hts qin_X hown hK hP 0 rfl rfl 7 (by decide) (hts _ mw_123) (fun _ h9 => h9) rfl qd_X_count_154 ?_
      exact mk_iret hx hb hr hlocks hS qd_X_count_157 (trivial)
    · refine lv_tableIn (off := 157) (tgt := 158) hx hb qd_X_count_1 (by decide) (by decide) (by decide) (by decide) ?_
      refine lv_aload_n hx hb qd_X_count_158 rfl (lv_at hl 0 rfl) ?_
      refine lv_iconst (v := 0) hx hb qd_X_count_159 (by decide) ?_
      refine mk_calli (va_runV (As := [.int 0]) (rest := []) ⟨hx, hb, hml, hown, hts⟩ (c_X_markOrNone l dC dI cA H.size a x ru ma jo gv tk V.length fV R.length fR Lo.length fO 0) (cwV 1 hts gc_X_142 rfl rfl rfl (by decide +kernel) ⟨Nat.le_of_ble_eq_true rfl, Nat.le_of_ble_eq_true rfl⟩) (mk_roV hP [0, 1, 2, 3, 4, 5, 6, 7, 8, 9, 10, 11, 12] rfl hK (va_recv hK hP (ci := 0) (q0 := 0) rfl rfl)) rfl rfl hl.1 rfl (lv_room (Nat.le_of_ble_eq_true rfl)) qd_X_count_160 ⟨(Nat.zero_le _), (Nat.zero_le _)⟩) hS hA hP (fun r_4 H locs hr_4 hP hS => ?_)
      exact mk_iret hx hb hr hlocks hS qd_X_count_163 (trivial)
    · refine lv_tableIn (off := 163) (tgt := 164) hx hb qd_X_count_1 (by decide) (by decide) (by decide) (by decide) ?_
      refine lv_aload_n hx hb qd_X_count_164 rfl (lv_at hl 0 rfl) ?_
      refine lv_iconst (v := 1) hx hb qd_X_count_165 (by decide) ?_
      refine mk_calli (va_runV (As := [.int 1]) (rest := []) ⟨hx, hb, hml, hown, hts⟩ (c_X_markOrNone l dC dI cA H.size a x ru ma jo gv tk V.length fV R.length fR Lo.length fO 1) (cwV 1 hts gc_X_142 rfl rfl rfl (by decide +kernel) ⟨Nat.le_of_ble_eq_true rfl, Nat.le_of_ble_eq_true rfl⟩) (mk_roV hP [0, 1, 2, 3, 4, 5, 6, 7, 8, 9, 10, 11, 12] rfl hK (va_recv hK hP (ci := 0) (q0 := 0) rfl rfl)) rfl rfl hl.1 rfl (lv_room (Nat.le_of_ble_eq_true rfl)) qd_X_count_166 ⟨(Nat.zero_le _), (Nat.zero_le _)⟩) hS hA hP (fun r_5 H locs hr_5 hP hS => ?_)
      exact mk_iret hx hb hr hlocks hS qd_X_count_169 (trivial)
    · refine lv_tableIn (off := 169) (tgt := 170) hx hb qd_X_count_1 (by decide) (by decide) (by decide) (by decide) ?_
      refine lv_aload_n hx hb qd_X_count_170 rfl (lv_at hl 0 rfl) ?_
      refine lv_iconst (v := 2) hx hb qd_X_count_171 (by decide) ?_
      refine mk_calli (va_runV (As := [.int 2]) (rest := []) ⟨hx, hb, hml, hown, hts⟩ (c_X_markOrNone l dC dI cA H.size a x ru ma jo gv tk V.length fV R.length fR Lo.length fO 2) (cwV 1 hts gc_X_142 rfl rfl rfl (by decide +kernel) ⟨Nat.le_of_ble_eq_true rfl, Nat.le_of_ble_eq_true rfl⟩) (mk_roV hP [0, 1, 2, 3, 4, 5, 6, 7, 8, 9, 10, 11, 12] rfl hK (va_recv hK hP (ci := 0) (q0 := 0) rfl rfl)) rfl rfl hl.1 rfl (lv_room (Nat.le_of_ble_eq_true rfl)) qd_X_count_172 ⟨(Nat.zero_le _), (Nat.zero_le _)⟩) hS hA hP (fun r_6 H locs hr_6 hP hS => ?_)
      exact mk_iret hx hb hr hlocks hS qd_X_count_175 (trivial)
    · refine lv_tableIn (off := 175) (tgt := 176) hx hb qd_X_count_1 (by decide) (by decide) (by decide) (by decide) ?_
      refine lv_aload_n hx hb qd_X_count_176 rfl (lv_at hl 0 rfl) ?_
      refine va_get (D := (dC, dI)) (ci := 0) (v := .ref (a 1)) (C := qR_X) (T := qT_X) (N := 13) hx hb hts qin_X hown hK hP 0 rfl rfl 0 (by decide) (hts _ mw_116) (fun _ h9 => h9) rfl qd_X_count_177 ?_
      refine lv_iconst (v := 0) hx hb qd_X_count_180 (by decide) ?_
      refine va_iald (i := 0) hx hb hK hP 1 0 rfl rfl (show ¬ ((0 : Int32) < 0 ∨ 4 ≤ (0 : Int32).toNatClampNeg) from by decide) qd_X_count_181 ?_
      refine mk_rw (y := ru 0) (rfl) ?_
      exact mk_iret hx hb hr hlocks hS qd_X_count_182 (trivial)
    · refine lv_tableIn (off := 182) (tgt := 183) hx hb qd_X_count_1 (by decide) (by decide) (by decide) (by decide) ?_
      refine lv_aload_n hx hb qd_X_count_183 rfl (lv_at hl 0 rfl) ?_
      refine va_get (D := (dC, dI)) (ci := 0) (v := .ref (a 1)) (C := qR_X) (T := qT_X) (N := 13) hx hb hts qin_X hown hK hP 0 rfl rfl 0 (by decide) (hts _ mw_116) (fun _ h9 => h9) rfl qd_X_count_184 ?_
      refine lv_iconst (v := 1) hx hb qd_X_count_187 (by decide) ?_
      refine va_iald (i := 1) hx hb hK hP 1 0 rfl rfl (show ¬ ((1 : Int32) < 0 ∨ 4 ≤ (1 : Int32).toNatClampNeg) from by decide) qd_X_count_188 ?_
      refine mk_rw (y := ru 1) (rfl) ?_
      exact mk_iret hx hb hr hlocks hS qd_X_count_189 (trivial)
    · refine lv_tableIn (off := 189) (tgt := 190) hx hb qd_X_count_1 (by decide) (by decide) (by decide) (by decide) ?_
      refine lv_aload_n hx hb qd_X_count_190 rfl (lv_at hl 0 rfl) ?_
      refine va_get (D := (dC, dI)) (ci := 0) (v := .ref (a 1)) (C := qR_X) (T := qT_X) (N := 13) hx hb hts qin_X hown hK hP 0 rfl rfl 0 (by decide) (hts _ mw_116) (fun _ h9 => h9) rfl qd_X_count_191 ?_
      refine lv_iconst (v := 2) hx hb qd_X_count_194 (by decide) ?_
      refine va_iald (i := 2) hx hb hK hP 1 0 rfl rfl (show ¬ ((2 : Int32) < 0 ∨ 4 ≤ (2 : Int32).toNatClampNeg) from by decide) qd_X_count_195 ?_
      refine mk_rw (y := ru 2) (rfl) ?_
      exact mk_iret hx hb hr hlocks hS qd_X_count_196 (trivial)
    · refine lv_tableIn (off := 196) (tgt := 197) hx hb qd_X_count_1 (by decide) (by decide) (by decide) (by decide) ?_
      refine lv_aload_n hx hb qd_X_count_197 rfl (lv_at hl 0 rfl) ?_
      refine va_get (D := (dC, dI)) (ci := 0) (v := .ref (a 1)) (C := qR_X) (T := qT_X) (N := 13) hx hb hts qin_X hown hK hP 0 rfl rfl 0 (by decide) (hts _ mw_116) (fun _ h9 => h9) rfl qd_X_count_198 ?_
      refine lv_iconst (v := 3) hx hb qd_X_count_201 (by decide) ?_
      refine va_iald (i := 3) hx hb hK hP 1 0 rfl rfl (show ¬ ((3 : Int32) < 0 ∨ 4 ≤ (3 : Int32).toNatClampNeg) from by decide) qd_X_count_202 ?_
      refine mk_rw (y := ru 3) (rfl) ?_
      exact mk_iret hx hb hr hlocks hS qd_X_count_203 (trivial)
set_option maxHeartbeats 4000000 in
set_option maxRecDepth 100000 in
/-- change(table, key, from, value) -/
theorem c_X_change (l : Launch) (dC : Nat → ClassId) (dI : Nat → Nat → Nat) (cA : ClassId) (sz : Nat) (a : Nat → Nat) (x ru ma jo : Nat → Int32) (gv tk : Int32) (V : List (Nat → Int32)) (fV : Nat → Int32) (R : List (Nat → Int32)) (fR : Nat → Int32) (Lo : List (Nat → Int32)) (fO : Nat → Int32) (n3 : Nat) (hi : xi_ok x V fV R fR Lo fO n3) (t ky fr vl : Int32) : Met l qy_X_change qw_X_change ({ frames := 6, cells := 0, slots := 0, locals := 172 }) (mk_mu [.ref (a 0), .int t, .int ky, .int fr, .int vl] sz (dC, dI) vwCl [(cA, .int)] (wX a cA x ru ma jo gv tk V.length fV R.length fR Lo.length fO)) (mk_muQ (S := (Nat → Int32) × (Nat → Int32) × Int32 × Int32 × (List (Nat → Int32) × (Nat → Int32)) × (List (Nat → Int32) × (Nat → Int32)) × (List (Nat → Int32) × (Nat → Int32))) (fun r u => xo_change n3 x ru ma gv tk V R Lo t ky fr vl r u.1 u.2.2.1 u.2.2.2.1 u.2.2.2.2.1.1 u.2.2.2.2.2.1.1 u.2.2.2.2.2.2.1 ∧ xi_ok u.1 u.2.2.2.2.1.1 u.2.2.2.2.1.2 u.2.2.2.2.2.1.1 u.2.2.2.2.2.1.2 u.2.2.2.2.2.2.1 u.2.2.2.2.2.2.2 n3) (fun u => (wX a cA u.1 ru ma u.2.1 u.2.2.1 u.2.2.2.1 u.2.2.2.2.1.1.length u.2.2.2.2.1.2 u.2.2.2.2.2.1.1.length u.2.2.2.2.2.1.2 u.2.2.2.2.2.2.1.length u.2.2.2.2.2.2.2)) (dC, dI) vwCl [(cA, .int)] (va_A (wX a cA x ru ma jo gv tk V.length fV R.length fR Lo.length fO) sz)) 0 0 (va_A (wX a cA x ru ma jo gv tk V.length fV R.length fR Lo.length fO) sz) := by
  refine Met.ofW (cc := qb_X_change) (maxL := 6) (ret := (some .int)) (by decide) rfl ?_
  intro p e s m args below meth c s₁ B hml hpre
  obtain ⟨rfl, hsz, hP, hK, hD0⟩ := hpre
  have hx := B.exec
  have hb := B.bytes
  have hr := B.returns
  have hts0 := atoms_spec (ws := qw_X_change) B.pre
  have hts := fun w (h : w ∈ lw_gd) => hts0 w (List.mem_cons_of_mem _ h)
  have hown : s.vm.findClass qR_X = some m.cls := findClass_of_methodNamed B.named
  have hlocks := B.notSynchronized
  subst hsz
  have hD := hD0.self (sz := s.heap.size)
  generalize hAe : va_A (wX a cA x ru ma jo gv tk V.length fV R.length fR Lo.length fO) s.heap.size = A at hD ⊢
  have hA : ∀ q : Nat, s.heap.size ≤ q → A q := fun q h => by rw [← hAe]; exact Or.inr h
  have hS : va_S A s.heap s.heap [] := va_S.rf
  have hl := lv_entry ([.ref (a 0), .int t, .int ky, .int fr, .int vl]) (n := 6) (Nat.le_of_ble_eq_true rfl)
  rw [lg_entry_eq]
  generalize (lg_sl ([.ref (a 0), .int t, .int ky, .int fr, .int vl]) ++ List.replicate (6 - (lg_sl ([.ref (a 0), .int t, .int ky, .int fr, .int vl])).length) Slot.unset).toArray = ls at hl ⊢
  have hl : lv_has ls 6 [(0, .ref (a 0)), (1, .int t), (2, .int ky), (3, .int fr), (4, .int vl)] := hl
  have hP : va_P (dC, dI) vwCl (wX a cA x ru ma jo gv tk V.length fV R.length fR Lo.length fO) s.heap := hP
  refine mk_start (A := A) hP (fun H locs hP hS => ?_)
  obtain ⟨hV, hR, hO, hsort, hpl, hky, hn3, h3⟩ := id hi
  obtain ⟨hokV, hlenV, -, -, -⟩ := id hV
  obtain ⟨hokR, hlenR, -, -, -⟩ := id hR
  obtain ⟨hokO, hlenO, -, -, -⟩ := id hO
  refine lv_aload_n hx hb qd_X_change_0 rfl (lv_at hl 0 rfl) ?_
  refine lv_iload_n hx hb qd_X_change_1 rfl (lv_at hl 1 rfl) ?_
  refine mk_calli (va_runV (As := [.int t]) (rest := []) ⟨hx, hb, hml, hown, hts⟩ (c_X_isTable l dC dI cA H.size a x ru ma jo gv tk V.length fV R.length fR Lo.length fO t) (cwV 1 hts gc_X_48 rfl rfl rfl (by decide +kernel) ⟨Nat.le_of_ble_eq_true rfl, Nat.le_of_ble_eq_true rfl⟩) (mk_roV hP [0, 1, 2, 3, 4, 5, 6, 7, 8, 9, 10, 11, 12] rfl hK (va_recv hK hP (ci := 0) (q0 := 0) rfl rfl)) rfl rfl hl.1 rfl (lv_room (Nat.le_of_ble_eq_true rfl)) qd_X_change_2 ⟨(Nat.zero_le _), (Nat.zero_le _)⟩) hS hA hP (fun r_1 H locs hr_1 hP hS => ?_)
  obtain rfl : r_1 = xt_b (x 6) t := hr_1
  refine lv_if_eq (tgt := 36) hx hb qd_X_change_5 (by decide) (fun c_2 => ?_) (fun c_2 => ?_)
  · refine lv_iconst (v := (-1)) hx hb qd_X_change_36 (by decide) ?_
    exact mk_miret (x, jo, gv, tk, (V, fV), (R, fR), (Lo, fO)) hx hb hr hlocks hP hK hD hS qd_X_change_37 ⟨Or.inl ⟨Or.inl c_2, rfl, rfl, rfl, rfl, rfl, rfl, rfl⟩, hi⟩
  · refine lv_iload_n hx hb qd_X_change_8 rfl (lv_at hl 2 rfl) ?_
    refine mk_calli (va_runS (As := [.int ky]) (rest := []) ⟨hx, hb, hml, hown, hts⟩ (c_X_isKey l dC dI cA H.size ky) (va_cwS 1 hts gc_X_52 rfl rfl rfl (by decide +kernel) ⟨Nat.le_of_ble_eq_true rfl, Nat.le_of_ble_eq_true rfl⟩) (mk_roS hP [] rfl hK) rfl rfl hl.1 rfl (lv_room (Nat.le_of_ble_eq_true rfl)) qd_X_change_9 ⟨(Nat.zero_le _), (Nat.zero_le _)⟩) hS hA hP (fun r_3 H locs hr_3 hP hS => ?_)
    obtain rfl : r_3 = xk_b ky := hr_3
    refine lv_if_eq (tgt := 36) hx hb qd_X_change_12 (by decide) (fun c_4 => ?_) (fun c_4 => ?_)
    · refine lv_iconst (v := (-1)) hx hb qd_X_change_36 (by decide) ?_
      exact mk_miret (x, jo, gv, tk, (V, fV), (R, fR), (Lo, fO)) hx hb hr hlocks hP hK hD hS qd_X_change_37 ⟨Or.inl ⟨Or.inr (Or.inl c_4), rfl, rfl, rfl, rfl, rfl, rfl, rfl⟩, hi⟩
    · refine lv_iload_n hx hb qd_X_change_15 rfl (lv_at hl 3 rfl) ?_
      refine mk_calli (va_runS (As := [.int fr]) (rest := []) ⟨hx, hb, hml, hown, hts⟩ (c_X_isTime l dC dI cA H.size fr) (va_cwS 1 hts gc_X_55 rfl rfl rfl (by decide +kernel) ⟨Nat.le_of_ble_eq_true rfl, Nat.le_of_ble_eq_true rfl⟩) (mk_roS hP [] rfl hK) rfl rfl hl.1 rfl (lv_room (Nat.le_of_ble_eq_true rfl)) qd_X_change_16 ⟨(Nat.zero_le _), (Nat.zero_le _)⟩) hS hA hP (fun r_5 H locs hr_5 hP hS => ?_)
      obtain rfl : r_5 = xm_b fr := hr_5
      refine lv_if_eq (tgt := 36) hx hb qd_X_change_19 (by decide) (fun c_6 => ?_) (fun c_6 => ?_)
      · refine lv_iconst (v := (-1)) hx hb qd_X_change_36 (by decide) ?_
        exact mk_miret (x, jo, gv, tk, (V, fV), (R, fR), (Lo, fO)) hx hb hr hlocks hP hK hD hS qd_X_change_37 ⟨Or.inl ⟨Or.inr (Or.inr (Or.inl c_6)), rfl, rfl, rfl, rfl, rfl, rfl, rfl⟩, hi⟩
      · refine mk_after (σ := Unit) (fun y9 H locs ls => (¬ xt_b (x 6) t = 0 ∧ ¬ xk_b ky = 0 ∧ ¬ xm_b fr = 0 ∧ (vl = -1 ∨ ¬ xv_b vl = 0)) ∧ va_P (dC, dI) vwCl (wX a cA x ru ma jo gv tk V.length fV R.length fR Lo.length fO) H ∧ va_D A (wX a cA x ru ma jo gv tk V.length fV R.length fR Lo.length fO) ∧ va_S A s.heap H locs ∧ lv_has ls 6 [(0, .ref (a 0)), (1, .int t), (2, .int ky), (3, .int fr), (4, .int vl)]) (fun ls => F0 m 38 ls []) (fun y9 H locs ls hI => ?_) (fun J_7 => ?_)
        · obtain ⟨z9, rfl⟩ : ∃ z, z = y9 := ⟨_, rfl⟩
          obtain ⟨hinv, hP, hD, hS, hl⟩ := hI
          have hinv : ¬ xt_b (x 6) t = 0 ∧ ¬ xk_b ky = 0 ∧ ¬ xm_b fr = 0 ∧ (vl = -1 ∨ ¬ xv_b vl = 0) := hinv
          have hP : va_P (dC, dI) vwCl (wX a cA x ru ma jo gv tk V.length fV R.length fR Lo.length fO) H := hP
          have hD : va_D A (wX a cA x ru ma jo gv tk V.length fV R.length fR Lo.length fO) := hD
          have hl : lv_has ls 6 [(0, .ref (a 0)), (1, .int t), (2, .int ky), (3, .int fr), (4, .int vl)] := hl
          obtain ⟨t', ht', et, -⟩ := xt_nat hinv.1
          obtain ⟨kn, hkn, ek⟩ := xk_nat hinv.2.1
          have htb : xt_b (x 6) t = 1 := xt_one hinv.1
          refine lv_aload_n hx hb qd_X_change_38 rfl (lv_at hl 0 rfl) ?_
          refine lv_iload_n hx hb qd_X_change_39 rfl (lv_at hl 1 rfl) ?_
          refine lv_iload_n hx hb qd_X_change_40 rfl (lv_at hl 3 rfl) ?_
          refine mk_calli (va_runV (As := [.int t, .int fr]) (rest := []) ⟨hx, hb, hml, hown, hts⟩ (c_X_isLateChange l dC dI cA H.size a x ru ma jo gv tk V.length fV R.length fR Lo.length fO t fr htb) (cwV 2 hts gc_X_61 rfl rfl rfl (by decide +kernel) ⟨Nat.le_of_ble_eq_true rfl, Nat.le_of_ble_eq_true rfl⟩) (mk_roV hP [0, 1, 2, 3, 4, 5, 6, 7, 8, 9, 10, 11, 12] rfl hK (va_recv hK hP (ci := 0) (q0 := 0) rfl rfl)) rfl rfl hl.1 rfl (lv_room (Nat.le_of_ble_eq_true rfl)) qd_X_change_41 ⟨(Nat.zero_le _), (Nat.zero_le _)⟩) hS hA hP (fun r_8 H locs hr_8 hP hS => ?_)
          obtain rfl : r_8 = xl_b ma ru (x 7) t fr := hr_8
          refine lv_if_eq (tgt := 60) hx hb qd_X_change_44 (by decide) (fun c_9 => ?_) (fun c_9 => ?_)
          · refine lv_aload_n hx hb qd_X_change_60 rfl (lv_at hl 0 rfl) ?_
            refine va_get (D := (dC, dI)) (ci := 0) (v := .ref (a 4)) (C := qR_X) (T := qT_X) (N := 13) hx hb hts qin_X hown hK hP 0 rfl rfl 2 (by decide) (hts _ mw_118) (fun _ h9 => h9) rfl qd_X_change_61 ?_
            refine mk_calli (va_runV (As := []) (rest := []) ⟨hx, hb, hml, hown, hts⟩ (c_V_size l dC dI cA H.size (a 4) (a 5) (a 6) fV V hV) (cwV 0 hts gc_X_68 rfl rfl rfl (by decide +kernel) ⟨Nat.le_of_ble_eq_true rfl, Nat.le_of_ble_eq_true rfl⟩) (mk_roV hP [4, 5, 6] rfl hK (va_recv hK hP (ci := 5) (q0 := 4) rfl rfl)) rfl rfl hl.1 rfl (lv_room (Nat.le_of_ble_eq_true rfl)) qd_X_change_64 ⟨(Nat.zero_le _), (Nat.zero_le _)⟩) hS hA hP (fun r_10 H locs hr_10 hP hS => ?_)
            obtain rfl : r_10 = nI V.length := hr_10
            refine lv_sipush (v := 160) hx hb qd_X_change_67 (by decide) ?_
            refine lv_icmp_lt (tgt := 76) hx hb qd_X_change_70 (by decide) (fun c_11 => ?_) (fun c_11 => ?_)
            · have hroom : V.length < 160 := (nI_ltI (by omega) (by decide)).mp c_11
              refine lv_aload_n hx hb qd_X_change_76 rfl (lv_at hl 0 rfl) ?_
              refine mk_mcallv (wr := []) (wf := (fun u => (wX a cA (upd x 12 1) ru ma jo gv tk V.length fV R.length fR u.1.length u.2))) (va_runV (As := []) (rest := []) ⟨hx, hb, hml, hown, hts⟩ (c_X_begin l dC dI cA H.size a x ru ma jo gv tk V.length fV R.length fR fO Lo hO) (cwV 0 hts gc_X_72 rfl rfl rfl (by decide +kernel) ⟨Nat.le_of_ble_eq_true rfl, Nat.le_of_ble_eq_true rfl⟩) (mk_muP hP hD [0, 1, 2, 3, 4, 5, 6, 7, 8, 9, 10, 11, 12] (by decide) rfl hK (va_recv hK hP (ci := 0) (q0 := 0) rfl rfl)) rfl rfl hl.1 rfl (lv_room (Nat.le_of_ble_eq_true rfl)) qd_X_change_77 ⟨(Nat.zero_le _), (Nat.zero_le _)⟩) hS hA hP hD [0, 1, 2, 3, 4, 5, 6, 7, 8, 9, 10, 11, 12] [] [0, 1, 2, 3, 4, 5, 6, 7, 8, 9, 10, 11, 12] rfl rfl (by decide) (by decide) (by decide) (fun _ => rfl) (fun u_13 H locs hu_13 hP hD hS => ?_)
              obtain ⟨Q1, f1⟩ := u_13
              obtain ⟨rfl, hok1⟩ : Q1 = [] ∧ sh_ok 11 f1 Q1 := hu_13
              have hO1 : sh_wf 11 192 f1 [] := ⟨hok1, by decide, by decide, by decide, by decide⟩
              have hP : va_P (dC, dI) vwCl (wX a cA (upd x 12 1) ru ma jo gv tk V.length fV R.length fR (([] : List (Nat → Int32)).length) f1) H := hP
              have hD : va_D A (wX a cA (upd x 12 1) ru ma jo gv tk V.length fV R.length fR (([] : List (Nat → Int32)).length) f1) := hD
              refine lv_iload_n hx hb qd_X_change_80 rfl (lv_at hl 1 rfl) ?_
              refine lv_iload_n hx hb qd_X_change_81 rfl (lv_at hl 2 rfl) ?_
              refine mk_calli (va_runS (As := [.int t, .int ky]) (rest := []) ⟨hx, hb, hml, hown, hts⟩ (c_X_placeOf l dC dI cA H.size t ky) (va_cwS 2 hts gc_X_75 rfl rfl rfl (by decide +kernel) ⟨Nat.le_of_ble_eq_true rfl, Nat.le_of_ble_eq_true rfl⟩) (mk_roS hP [] rfl hK) rfl rfl hl.1 rfl (lv_room (Nat.le_of_ble_eq_true rfl)) qd_X_change_82 ⟨(Nat.zero_le _), (Nat.zero_le _)⟩) hS hA hP (fun r_14 H locs hr_14 hP hS => ?_)
              obtain rfl : r_14 = t * 16 + ky := hr_14
              refine mk_rw (y := nI (t' * 16 + kn)) (by rw [et, ek, show (16 : Int32) = nI 16 from rfl, pk_mul, nI_add]) ?_
              obtain ⟨k0, hk0⟩ := vs_cuts hsort (nI (t' * 16 + kn)) fr
              refine lv_istore (lv' := [(5, .int (nI (t' * 16 + kn))), (0, .ref (a 0)), (1, .int t), (2, .int ky), (3, .int fr), (4, .int vl)]) hx hb qd_X_change_85 hl (by decide) rfl (fun ls hl => ?_)
              refine lv_aload_n hx hb qd_X_change_87 rfl (lv_at hl 1 rfl) ?_
              refine va_get (D := (dC, dI)) (ci := 0) (v := .ref (a 4)) (C := qR_X) (T := qT_X) (N := 13) hx hb hts qin_X hown hK hP 0 rfl rfl 2 (by decide) (hts _ mw_118) (fun _ h9 => h9) rfl qd_X_change_88 ?_
              refine lv_iload hx hb qd_X_change_91 (lv_at hl 0 rfl) ?_
              refine lv_iload_n hx hb qd_X_change_93 rfl (lv_at hl 4 rfl) ?_
              refine lv_iload hx hb qd_X_change_94 (lv_at hl 5 rfl) ?_
              refine mk_mcallv (wr := [((a 0), .inr (0, [.ref (a 1), .ref (a 2), .ref (a 4), .ref (a 7), .ref (a 10), .ref (a 3), .int (x 6), .int (x 7), .int (x 8), .int (x 9), .int (x 10), .int (x 11), .int 1])), ((a 1), .inl (cA, 4, .inl ru)), ((a 2), .inl (cA, 3, .inl ma)), ((a 3), .inl (cA, 6, .inl jo)), ((a 7), .inr (3, [.ref (a 8)])), ((a 8), .inr (4, [.int (nI 12), .int (nI 96), .ref (a 9), .int (nI R.length)])), ((a 9), .inl (cA, (12 * 96), .inl fR)), ((a 10), .inr (2, [.ref (a 11), .int gv, .int tk])), ((a 11), .inr (4, [.int (nI 11), .int (nI 192), .ref (a 12), .int (nI (([] : List (Nat → Int32)).length))])), ((a 12), .inl (cA, (11 * 192), .inl f1))]) (wf := (fun u => (wX a cA (upd x 12 1) ru ma jo gv tk u.1.length u.2 R.length fR (([] : List (Nat → Int32)).length) f1))) (va_runV (As := [.int (nI (t' * 16 + kn)), .int fr, .int vl]) (rest := []) ⟨hx, hb, hml, hown, hts⟩ (c_V_put l dC dI cA H.size (a 4) (a 5) (a 6) fV V hV (nI (t' * 16 + kn)) fr vl k0 hk0 (nI_nm2 (by omega)) hroom) (cwV 3 hts gc_X_79 rfl rfl rfl (by decide +kernel) ⟨Nat.le_of_ble_eq_true rfl, Nat.le_of_ble_eq_true rfl⟩) (mk_muP hP hD [4, 5, 6] (by decide) rfl hK (va_recv hK hP (ci := 5) (q0 := 4) rfl rfl)) rfl rfl hl.1 rfl (lv_room (Nat.le_of_ble_eq_true rfl)) qd_X_change_96 ⟨(Nat.zero_le _), (Nat.zero_le _)⟩) hS hA hP hD [4, 5, 6] [0, 1, 2, 3, 7, 8, 9, 10, 11, 12] [0, 1, 2, 3, 10, 11, 12, 4, 5, 6, 7, 8, 9] rfl rfl (by decide) (by decide) (by decide) (fun _ => rfl) (fun u_16 H locs hu_16 hP hD hS => ?_)
              obtain ⟨V1, fV1⟩ := u_16
              obtain ⟨hput, hokV1⟩ : vs_put V (nI (t' * 16 + kn)) fr vl k0 V1 ∧ sh_ok 3 fV1 V1 := hu_16
              have hlp := vs_put_len hk0.1 hput
              have hV1 : sh_wf 3 160 fV1 V1 := ⟨hokV1, by omega, by decide, by decide, by decide⟩
              have hsort1 := vs_put_sorted hsort hk0 hput
              have hpl1 : vs_all vs_pl V1 := vs_put_pl hpl (by omega) hput
              have hP : va_P (dC, dI) vwCl (wX a cA (upd x 12 1) ru ma jo gv tk V1.length fV1 R.length fR (([] : List (Nat → Int32)).length) f1) H := hP
              have hD : va_D A (wX a cA (upd x 12 1) ru ma jo gv tk V1.length fV1 R.length fR (([] : List (Nat → Int32)).length) f1) := hD
              refine lv_aload_n hx hb qd_X_change_99 rfl (lv_at hl 1 rfl) ?_
              refine lv_iload_n hx hb qd_X_change_100 rfl (lv_at hl 3 rfl) ?_
              refine mk_mcallv (wr := []) (wf := (fun u => (wX a cA (upd x 12 1) ru ma u.1 u.2.2.2.1 u.2.2.2.2 V1.length fV1 u.2.1.1.length u.2.1.2 u.2.2.1.1.length u.2.2.1.2))) (va_runV (As := [.int ky]) (rest := []) ⟨hx, hb, hml, hown, hts⟩ (c_X_correctRows l dC dI cA H.size a (upd x 12 1) ru ma jo gv tk fV1 fR f1 V1 R ([]) hV1 hR hO1 (vs_cuts hsort1) n3 hn3 h3 hky ky (by simp only [List.length_nil]; omega)) (cwV 1 hts gc_X_83 rfl rfl rfl (by decide +kernel) ⟨Nat.le_of_ble_eq_true rfl, Nat.le_of_ble_eq_true rfl⟩) (mk_muP hP hD [0, 1, 2, 3, 4, 5, 6, 7, 8, 9, 10, 11, 12] (by decide) rfl hK (va_recv hK hP (ci := 0) (q0 := 0) rfl rfl)) rfl rfl hl.1 rfl (lv_room (Nat.le_of_ble_eq_true rfl)) qd_X_change_101 ⟨(Nat.zero_le _), (Nat.zero_le _)⟩) hS hA hP hD [0, 1, 2, 3, 4, 5, 6, 7, 8, 9, 10, 11, 12] [] [0, 1, 2, 3, 4, 5, 6, 7, 8, 9, 10, 11, 12] rfl rfl (by decide) (by decide) (by decide) (fun _ => rfl) (fun u_18 H locs hu_18 hP hD hS => ?_)
              obtain ⟨j3, ⟨R1, f3⟩, ⟨Q1, f4⟩, g1, k9⟩ := u_18
              obtain ⟨rfl, hok3, rfl, hok4, rfl, rfl⟩ : R1 = R.map (cw_row V1 ru n3 ky) ∧ sh_ok 12 f3 R1 ∧ Q1 = [] ++ R.flatMap (cw_o V1 ru n3 ky) ∧ sh_ok 11 f4 Q1 ∧ g1 = gv + nI (sw_n (cw_dg V1 ru n3 ky) R R.length) ∧ k9 = tk + nI (sw_n (cw_dt V1 ru ky) R R.length) := hu_18
              have hR1 : sh_wf 12 96 f3 (R.map (cw_row V1 ru n3 ky)) := ⟨hok3, by rw [List.length_map]; exact hlenR, by decide, by decide, by decide⟩
              have hky1 : vs_all rs_ky (R.map (cw_row V1 ru n3 ky)) := vs_all_map hky cw_ky
              obtain ⟨k1, hk1⟩ := vs_cuts hsort1 (nI (t' * 16 + kn)) 0
              obtain ⟨k2, hk2⟩ := vs_cuts hsort1 (nI (t' * 16 + kn)) 100000
              have hkk := vs_cut_mono hk1 hk2 (by decide)
              have hP : va_P (dC, dI) vwCl (wX a cA (upd x 12 1) ru ma j3 (gv + nI (sw_n (cw_dg V1 ru n3 ky) R R.length)) (tk + nI (sw_n (cw_dt V1 ru ky) R R.length)) V1.length fV1 ((R.map (cw_row V1 ru n3 ky)).length) f3 (([] ++ R.flatMap (cw_o V1 ru n3 ky)).length) f4) H := hP
              have hD : va_D A (wX a cA (upd x 12 1) ru ma j3 (gv + nI (sw_n (cw_dg V1 ru n3 ky) R R.length)) (tk + nI (sw_n (cw_dt V1 ru ky) R R.length)) V1.length fV1 ((R.map (cw_row V1 ru n3 ky)).length) f3 (([] ++ R.flatMap (cw_o V1 ru n3 ky)).length) f4) := hD
              refine lv_aload_n hx hb qd_X_change_104 rfl (lv_at hl 1 rfl) ?_
              refine va_get (D := (dC, dI)) (ci := 0) (v := .ref (a 4)) (C := qR_X) (T := qT_X) (N := 13) hx hb hts qin_X hown hK hP 0 rfl rfl 2 (by decide) (hts _ mw_118) (fun _ h9 => h9) rfl qd_X_change_105 ?_
              refine lv_iload hx hb qd_X_change_108 (lv_at hl 0 rfl) ?_
              refine mk_calli (va_runV (As := [.int (nI (t' * 16 + kn))]) (rest := []) ⟨hx, hb, hml, hown, hts⟩ (c_V_sizeAt l dC dI cA H.size (a 4) (a 5) (a 6) fV1 V1 hV1 (nI (t' * 16 + kn)) k1 k2 hk1 hk2 hkk) (cwV 1 hts gc_X_87 rfl rfl rfl (by decide +kernel) ⟨Nat.le_of_ble_eq_true rfl, Nat.le_of_ble_eq_true rfl⟩) (mk_roV hP [4, 5, 6] rfl hK (va_recv hK hP (ci := 5) (q0 := 4) rfl rfl)) rfl rfl hl.1 rfl (lv_room (Nat.le_of_ble_eq_true rfl)) qd_X_change_110 ⟨(Nat.zero_le _), (Nat.zero_le _)⟩) hS hA hP (fun r_19 H locs hr_19 hP hS => ?_)
              obtain rfl : r_19 = nI (k2 - k1) := hr_19
              exact mk_miret (upd x 12 1, j3, (gv + nI (sw_n (cw_dg V1 ru n3 ky) R R.length)), (tk + nI (sw_n (cw_dt V1 ru ky) R R.length)), (V1, fV1), (R.map (cw_row V1 ru n3 ky), f3), ([] ++ R.flatMap (cw_o V1 ru n3 ky), f4)) hx hb hr hlocks hP hK hD hS qd_X_change_113 ⟨Or.inr ⟨hinv.1, hinv.2.1, hinv.2.2.1, hinv.2.2.2, Or.inr (Or.inr ⟨c_9, hroom, rfl, t', kn, k0, k1, k2, ht', et, hkn, ek, hk0, hput, rfl, rfl, rfl, rfl, hk1, hk2, hkk, rfl⟩)⟩, hV1, hR1, ⟨hok4, by have := cw_flen V1 ru n3 ky R; simp only [List.nil_append]; omega, by decide, by decide, by decide⟩, hsort1, hpl1, hky1, hn3, h3⟩
            · refine lv_bipush (v := (-3)) hx hb qd_X_change_73 (by decide) ?_
              have hfull : 160 ≤ V.length := by rcases Nat.lt_or_ge V.length 160 with q | q; exact absurd (nI_lt q (by decide)) c_11; exact q
              exact mk_miret (x, jo, gv, tk, (V, fV), (R, fR), (Lo, fO)) hx hb hr hlocks hP hK hD hS qd_X_change_75 ⟨Or.inr ⟨hinv.1, hinv.2.1, hinv.2.2.1, hinv.2.2.2, Or.inr (Or.inl ⟨c_9, hfull, rfl, rfl, rfl, rfl, rfl, rfl, rfl⟩)⟩, hi⟩
          · refine lv_aload_n hx hb qd_X_change_47 rfl (lv_at hl 0 rfl) ?_
            refine lv_dup hx hb qd_X_change_48 rfl ?_
            refine va_get (D := (dC, dI)) (ci := 0) (v := .int (x 11)) (C := qR_X) (T := qT_X) (N := 13) hx hb hts qin_X hown hK hP 0 rfl rfl 11 (by decide) (hts _ mw_127) (fun _ h9 => h9) rfl qd_X_change_49 ?_
            refine lv_iconst (v := 1) hx hb qd_X_change_52 (by decide) ?_
            refine lv_iadd hx hb qd_X_change_53 ?_
            refine va_put (D := (dC, dI)) (ci := 0) (v := .int ((x 11) + 1)) (ty := .int) (C := qR_X) (T := qT_X) (N := 13) hx hb hts qin_X qty_X qtyok_X qnm_X hown hK hP hD hS 0 rfl rfl 11 (by decide) (hts _ mw_127) (fun _ h9 => h9) rfl (by decide +kernel) rfl rfl (Nat.le_of_ble_eq_true rfl) qd_X_change_54 (fun H locs hP hD hS => ?_)
            have hP : va_P (dC, dI) vwCl (wX a cA (upd x 11 ((x 11) + 1)) ru ma jo gv tk V.length fV R.length fR Lo.length fO) H := hP
            have hD : va_D A (wX a cA (upd x 11 ((x 11) + 1)) ru ma jo gv tk V.length fV R.length fR Lo.length fO) := hD
            refine lv_bipush (v := (-4)) hx hb qd_X_change_57 (by decide) ?_
            exact mk_miret (upd x 11 (x 11 + 1), jo, gv, tk, (V, fV), (R, fR), (Lo, fO)) hx hb hr hlocks hP hK hD hS qd_X_change_59 ⟨Or.inr ⟨hinv.1, hinv.2.1, hinv.2.2.1, hinv.2.2.2, Or.inl ⟨c_9, rfl, rfl, rfl, rfl, rfl, rfl, rfl⟩⟩, hi⟩
        · refine lv_iload hx hb qd_X_change_22 (lv_at hl 4 rfl) ?_
          refine lv_iconst (v := (-1)) hx hb qd_X_change_24 (by decide) ?_
          refine lv_icmp_eq (tgt := 38) hx hb qd_X_change_25 (by decide) (fun c_20 => ?_) (fun c_20 => ?_)
          · exact J_7 () H locs ls ⟨⟨c_2, c_4, c_6, Or.inl c_20⟩, hP, hD, hS, lv_sub hl [0, 1, 2, 3, 4] rfl⟩
          · refine lv_iload hx hb qd_X_change_28 (lv_at hl 4 rfl) ?_
            refine mk_calli (va_runS (As := [.int vl]) (rest := []) ⟨hx, hb, hml, hown, hts⟩ (c_X_isValue l dC dI cA H.size vl) (va_cwS 1 hts gc_X_58 rfl rfl rfl (by decide +kernel) ⟨Nat.le_of_ble_eq_true rfl, Nat.le_of_ble_eq_true rfl⟩) (mk_roS hP [] rfl hK) rfl rfl hl.1 rfl (lv_room (Nat.le_of_ble_eq_true rfl)) qd_X_change_30 ⟨(Nat.zero_le _), (Nat.zero_le _)⟩) hS hA hP (fun r_21 H locs hr_21 hP hS => ?_)
            obtain rfl : r_21 = xv_b vl := hr_21
            refine lv_if_ne (tgt := 38) hx hb qd_X_change_33 (by decide) (fun c_22 => ?_) (fun c_22 => ?_)
            · exact J_7 () H locs ls ⟨⟨c_2, c_4, c_6, Or.inr c_22⟩, hP, hD, hS, lv_sub hl [0, 1, 2, 3, 4] rfl⟩
            · refine lv_iconst (v := (-1)) hx hb qd_X_change_36 (by decide) ?_
              exact mk_miret (x, jo, gv, tk, (V, fV), (R, fR), (Lo, fO)) hx hb hr hlocks hP hK hD hS qd_X_change_37 ⟨Or.inl ⟨Or.inr (Or.inr (Or.inr ⟨c_20, c_22⟩)), rfl, rfl, rfl, rfl, rfl, rfl, rfl⟩, hi⟩
