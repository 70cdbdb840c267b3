set_option maxHeartbeats 4000000 in
set_option maxRecDepth 100000 in
/-- isNeedless(line) -/
theorem c_X_isNeedless (l : Launch) (dC : Nat → ClassId) (dI : Nat → Nat → Nat) (cA : ClassId) (sz : Nat) (a : Nat → Nat) (x ru ma jo : Nat → Int32) (gv tk : Int32) (fV : Nat → Int32) (fR : Nat → Int32) (kO : Nat) (fO : Nat → Int32) (V R : List (Nat → Int32)) (hV : sh_wf 3 160 fV V) (hR : sh_wf 12 96 fR R) (i' : Nat) (r0 : Nat → Int32) (hr0 : V[i']? = some r0) (p9 : Nat) (hp : p9 < 48) (ep : r0 2 = nI p9) : Met l qy_X_isNeedless qw_X_isNeedless ({ frames := 3, cells := 0, slots := 0, locals := 70 }) (mk_ro [.ref (a 0), .int (nI i')] sz (dC, dI) vwCl [(cA, .int)] (wX a cA x ru ma jo gv tk V.length fV R.length fR kO fO)) (mk_roQ (fun r => r = if nd_b (ru 0) (x 7 - ru 3) R r0 V[i' + 1]? = true then 1 else 0) sz) 0 0 (mk_new sz) := by
  refine Met.ofW (cc := qb_X_isNeedless) (maxL := 5) (ret := (some .boolean)) (by decide) rfl ?_
  intro p e s m args below meth c s₁ B hml hpre
  obtain ⟨rfl, hsz, hP, hK⟩ := hpre
  have hx := B.exec
  have hb := B.bytes
  have hr := B.returns
  have hts0 := atoms_spec (ws := qw_X_isNeedless) B.pre
  have hts := fun w (h : w ∈ lw_gd) => hts0 w (List.mem_cons_of_mem _ h)
  have hown : s.vm.findClass qR_X = some m.cls := findClass_of_methodNamed B.named
  have hlocks := B.notSynchronized
  subst hsz
  have hA : ∀ q : Nat, s.heap.size ≤ q → mk_new s.heap.size q := fun _ h => h
  have hS : va_S (mk_new s.heap.size) s.heap s.heap [] := va_S.rf
  have hl := lv_entry ([.ref (a 0), .int (nI i')]) (n := 5) (Nat.le_of_ble_eq_true rfl)
  rw [lg_entry_eq]
  generalize (lg_sl ([.ref (a 0), .int (nI i')]) ++ List.replicate (5 - (lg_sl ([.ref (a 0), .int (nI i')])).length) Slot.unset).toArray = ls at hl ⊢
  have hl : lv_has ls 5 [(0, .ref (a 0)), (1, .int (nI i'))] := hl
  have hP : va_P (dC, dI) vwCl (wX a cA x ru ma jo gv tk V.length fV R.length fR kO fO) s.heap := hP
  refine mk_start (A := (mk_new s.heap.size)) hP (fun H locs hP hS => ?_)
  obtain ⟨hok, hlen, -, -, -⟩ := id hV
  obtain ⟨hokr, hlenr, -, -, -⟩ := id hR
  have hi' : i' < V.length := (List.getElem?_eq_some_iff.mp hr0).1
  refine lv_aload_n hx hb qd_X_isNeedless_0 rfl (lv_at hl 0 rfl) ?_
  refine va_get (D := (dC, dI)) (ci := 0) (v := .ref (a 4)) (C := qR_X) (T := qT_X) (N := 13) hx hb hts qin_X hown hK hP 0 rfl rfl 2 (by decide) (hts _ mw_118) (fun _ h9 => h9) rfl qd_X_isNeedless_1 ?_
  refine lv_iload_n hx hb qd_X_isNeedless_4 rfl (lv_at hl 1 rfl) ?_
  refine lv_iconst (v := 2) hx hb qd_X_isNeedless_5 (by decide) ?_
  refine mk_calli (va_runV (As := [.int (nI i'), .int 2]) (rest := []) ⟨hx, hb, hml, hown, hts⟩ (c_V_get l dC dI cA H.size (a 4) (a 5) (a 6) fV V hV (nI i') 2) (cwV 2 hts gc_X_125 rfl rfl rfl (by decide +kernel) ⟨Nat.le_of_ble_eq_true rfl, Nat.le_of_ble_eq_true rfl⟩) (mk_roV hP [4, 5, 6] rfl hK (va_recv hK hP (ci := 5) (q0 := 4) rfl rfl)) rfl rfl hl.1 rfl (lv_room (Nat.le_of_ble_eq_true rfl)) qd_X_isNeedless_6 ⟨(Nat.zero_le _), (Nat.zero_le _)⟩) hS hA hP (fun r_1 H locs hr_1 hP hS => ?_)
  obtain rfl : r_1 = r0 2 := Eq.trans hr_1 (sh_get_in (by omega) (by decide) hr0 (by decide))
  refine mk_rw (y := nI p9) (ep) ?_
  refine lv_istore_n (lv' := [(2, .int (nI p9)), (0, .ref (a 0)), (1, .int (nI i'))]) hx hb qd_X_isNeedless_9 rfl hl (by decide) rfl (fun ls hl => ?_)
  refine lv_aload_n hx hb qd_X_isNeedless_10 rfl (lv_at hl 1 rfl) ?_
  refine va_get (D := (dC, dI)) (ci := 0) (v := .ref (a 4)) (C := qR_X) (T := qT_X) (N := 13) hx hb hts qin_X hown hK hP 0 rfl rfl 2 (by decide) (hts _ mw_118) (fun _ h9 => h9) rfl qd_X_isNeedless_11 ?_
  refine lv_iload_n hx hb qd_X_isNeedless_14 rfl (lv_at hl 2 rfl) ?_
  refine lv_iconst (v := 1) hx hb qd_X_isNeedless_15 (by decide) ?_
  refine lv_iadd hx hb qd_X_isNeedless_16 ?_
  refine mk_rw (y := nI (i' + 1)) (nI_1 _) ?_
  refine lv_iconst (v := 2) hx hb qd_X_isNeedless_17 (by decide) ?_
  refine mk_calli (va_runV (As := [.int (nI (i' + 1)), .int 2]) (rest := []) ⟨hx, hb, hml, hown, hts⟩ (c_V_get l dC dI cA H.size (a 4) (a 5) (a 6) fV V hV (nI (i' + 1)) 2) (cwV 2 hts gc_X_125 rfl rfl rfl (by decide +kernel) ⟨Nat.le_of_ble_eq_true rfl, Nat.le_of_ble_eq_true rfl⟩) (mk_roV hP [4, 5, 6] rfl hK (va_recv hK hP (ci := 5) (q0 := 4) rfl rfl)) rfl rfl hl.1 rfl (lv_room (Nat.le_of_ble_eq_true rfl)) qd_X_isNeedless_18 ⟨(Nat.zero_le _), (Nat.zero_le _)⟩) hS hA hP (fun r_2 H locs hr_2 hP hS => ?_)
  have hr_2 : r_2 = sh_get 3 V (nI (i' + 1)) 2 := hr_2
  refine lv_iload_n hx hb qd_X_isNeedless_21 rfl (lv_at hl 0 rfl) ?_
  refine lv_icmp_eq (tgt := 27) hx hb qd_X_isNeedless_22 (by decide) (fun c_3 => ?_) (fun c_3 => ?_)
  · obtain ⟨r1, hnx, e12⟩ := nd_s (by omega) hi' (by omega) hr_2 c_3
    refine lv_aload_n hx hb qd_X_isNeedless_27 rfl (lv_at hl 1 rfl) ?_
    refine va_get (D := (dC, dI)) (ci := 0) (v := .ref (a 4)) (C := qR_X) (T := qT_X) (N := 13) hx hb hts qin_X hown hK hP 0 rfl rfl 2 (by decide) (hts _ mw_118) (fun _ h9 => h9) rfl qd_X_isNeedless_28 ?_
    refine lv_iload_n hx hb qd_X_isNeedless_31 rfl (lv_at hl 2 rfl) ?_
    refine lv_iconst (v := 0) hx hb qd_X_isNeedless_32 (by decide) ?_
    refine mk_calli (va_runV (As := [.int (nI i'), .int 0]) (rest := []) ⟨hx, hb, hml, hown, hts⟩ (c_V_get l dC dI cA H.size (a 4) (a 5) (a 6) fV V hV (nI i') 0) (cwV 2 hts gc_X_125 rfl rfl rfl (by decide +kernel) ⟨Nat.le_of_ble_eq_true rfl, Nat.le_of_ble_eq_true rfl⟩) (mk_roV hP [4, 5, 6] rfl hK (va_recv hK hP (ci := 5) (q0 := 4) rfl rfl)) rfl rfl hl.1 rfl (lv_room (Nat.le_of_ble_eq_true rfl)) qd_X_isNeedless_33 ⟨(Nat.zero_le _), (Nat.zero_le _)⟩) hS hA hP (fun r_4 H locs hr_4 hP hS => ?_)
    obtain rfl : r_4 = r0 0 := Eq.trans hr_4 (sh_get_in (by omega) (by decide) hr0 (by decide))
    refine lv_aload_n hx hb qd_X_isNeedless_36 rfl (lv_at hl 1 rfl) ?_
    refine va_get (D := (dC, dI)) (ci := 0) (v := .ref (a 1)) (C := qR_X) (T := qT_X) (N := 13) hx hb hts qin_X hown hK hP 0 rfl rfl 0 (by decide) (hts _ mw_116) (fun _ h9 => h9) rfl qd_X_isNeedless_37 ?_
    refine lv_iconst (v := 0) hx hb qd_X_isNeedless_40 (by decide) ?_
    refine va_iald (i := 0) hx hb hK hP 1 0 rfl rfl (show ¬ ((0 : Int32) < 0 ∨ 4 ≤ (0 : Int32).toNatClampNeg) from by decide) qd_X_isNeedless_41 ?_
    refine mk_rw (y := ru 0) (rfl) ?_
    refine lv_iadd hx hb qd_X_isNeedless_42 ?_
    refine lv_istore_n (lv' := [(3, .int ((r0 0) + (ru 0))), (2, .int (nI p9)), (0, .ref (a 0)), (1, .int (nI i'))]) hx hb qd_X_isNeedless_43 rfl hl (by decide) rfl (fun ls hl => ?_)
    refine lv_aload_n hx hb qd_X_isNeedless_44 rfl (lv_at hl 2 rfl) ?_
    refine va_get (D := (dC, dI)) (ci := 0) (v := .ref (a 4)) (C := qR_X) (T := qT_X) (N := 13) hx hb hts qin_X hown hK hP 0 rfl rfl 2 (by decide) (hts _ mw_118) (fun _ h9 => h9) rfl qd_X_isNeedless_45 ?_
    refine lv_iload_n hx hb qd_X_isNeedless_48 rfl (lv_at hl 3 rfl) ?_
    refine lv_iconst (v := 1) hx hb qd_X_isNeedless_49 (by decide) ?_
    refine lv_iadd hx hb qd_X_isNeedless_50 ?_
    refine mk_rw (y := nI (i' + 1)) (nI_1 _) ?_
    refine lv_iconst (v := 0) hx hb qd_X_isNeedless_51 (by decide) ?_
    refine mk_calli (va_runV (As := [.int (nI (i' + 1)), .int 0]) (rest := []) ⟨hx, hb, hml, hown, hts⟩ (c_V_get l dC dI cA H.size (a 4) (a 5) (a 6) fV V hV (nI (i' + 1)) 0) (cwV 2 hts gc_X_125 rfl rfl rfl (by decide +kernel) ⟨Nat.le_of_ble_eq_true rfl, Nat.le_of_ble_eq_true rfl⟩) (mk_roV hP [4, 5, 6] rfl hK (va_recv hK hP (ci := 5) (q0 := 4) rfl rfl)) rfl rfl hl.1 rfl (lv_room (Nat.le_of_ble_eq_true rfl)) qd_X_isNeedless_52 ⟨(Nat.zero_le _), (Nat.zero_le _)⟩) hS hA hP (fun r_5 H locs hr_5 hP hS => ?_)
    obtain rfl : r_5 = r1 0 := Eq.trans hr_5 (sh_get_in (by omega) (by decide) hnx (by decide))
    refine lv_iconst (v := 1) hx hb qd_X_isNeedless_55 (by decide) ?_
    refine lv_isub hx hb qd_X_isNeedless_56 ?_
    refine lv_aload_n hx hb qd_X_isNeedless_57 rfl (lv_at hl 2 rfl) ?_
    refine va_get (D := (dC, dI)) (ci := 0) (v := .ref (a 1)) (C := qR_X) (T := qT_X) (N := 13) hx hb hts qin_X hown hK hP 0 rfl rfl 0 (by decide) (hts _ mw_116) (fun _ h9 => h9) rfl qd_X_isNeedless_58 ?_
    refine lv_iconst (v := 0) hx hb qd_X_isNeedless_61 (by decide) ?_
    refine va_iald (i := 0) hx hb hK hP 1 0 rfl rfl (show ¬ ((0 : Int32) < 0 ∨ 4 ≤ (0 : Int32).toNatClampNeg) from by decide) qd_X_isNeedless_62 ?_
    refine mk_rw (y := ru 0) (rfl) ?_
    refine lv_iadd hx hb qd_X_isNeedless_63 ?_
    refine lv_istore (lv' := [(4, .int (((r1 0) - 1) + (ru 0))), (3, .int ((r0 0) + (ru 0))), (2, .int (nI p9)), (0, .ref (a 0)), (1, .int (nI i'))]) hx hb qd_X_isNeedless_64 hl (by decide) rfl (fun ls hl => ?_)
    refine lv_iload hx hb qd_X_isNeedless_66 (lv_at hl 0 rfl) ?_
    refine lv_aload_n hx hb qd_X_isNeedless_68 rfl (lv_at hl 3 rfl) ?_
    refine mk_calli (va_runV (As := []) (rest := [.int (((r1 0) - 1) + (ru 0))]) ⟨hx, hb, hml, hown, hts⟩ (c_X_horizon l dC dI cA H.size a x ru ma jo gv tk V.length fV R.length fR kO fO) (cwV 0 hts gc_X_109 rfl rfl rfl (by decide +kernel) ⟨Nat.le_of_ble_eq_true rfl, Nat.le_of_ble_eq_true rfl⟩) (mk_roV hP [0, 1, 2, 3, 4, 5, 6, 7, 8, 9, 10, 11, 12] rfl hK (va_recv hK hP (ci := 0) (q0 := 0) rfl rfl)) rfl rfl hl.1 rfl (lv_room (Nat.le_of_ble_eq_true rfl)) qd_X_isNeedless_69 ⟨(Nat.zero_le _), (Nat.zero_le _)⟩) hS hA hP (fun r_6 H locs hr_6 hP hS => ?_)
    obtain rfl : r_6 = x 7 - ru 3 := hr_6
    refine lv_icmp_gt (tgt := 96) hx hb qd_X_isNeedless_72 (by decide) (fun c_7 => ?_) (fun c_7 => ?_)
    · refine lv_iconst (v := 0) hx hb qd_X_isNeedless_96 (by decide) ?_
      exact mk_zret hx hb hr hlocks hS qd_X_isNeedless_97 (by decide) ((if_neg (nd_f2 hnx c_7)).symm)
    · refine lv_aload_n hx hb qd_X_isNeedless_75 rfl (lv_at hl 3 rfl) ?_
      refine va_get (D := (dC, dI)) (ci := 0) (v := .ref (a 7)) (C := qR_X) (T := qT_X) (N := 13) hx hb hts qin_X hown hK hP 0 rfl rfl 3 (by decide) (hts _ mw_119) (fun _ h9 => h9) rfl qd_X_isNeedless_76 ?_
      refine lv_iload_n hx hb qd_X_isNeedless_79 rfl (lv_at hl 2 rfl) ?_
      refine lv_bipush (v := 16) hx hb qd_X_isNeedless_80 (by decide) ?_
      refine lv_irem hx hb qd_X_isNeedless_82 (by decide) ?_
      refine mk_rw (y := nI (p9 % 16)) (pk_rem (by omega) (by decide) (by decide)) ?_
      refine lv_iload_n hx hb qd_X_isNeedless_83 rfl (lv_at hl 1 rfl) ?_
      refine lv_iload hx hb qd_X_isNeedless_84 (lv_at hl 0 rfl) ?_
      refine mk_calli (va_runV (As := [.int (nI (p9 % 16)), .int ((r0 0) + (ru 0)), .int (((r1 0) - 1) + (ru 0))]) (rest := []) ⟨hx, hb, hml, hown, hts⟩ (c_R_anyWaits l dC dI cA H.size (a 7) (a 8) (a 9) fR R hR (nI (p9 % 16)) ((r0 0) + (ru 0)) (((r1 0) - 1) + (ru 0))) (cwV 3 hts gc_X_193 rfl rfl rfl (by decide +kernel) ⟨Nat.le_of_ble_eq_true rfl, Nat.le_of_ble_eq_true rfl⟩) (mk_roV hP [7, 8, 9] rfl hK (va_recv hK hP (ci := 3) (q0 := 7) rfl rfl)) rfl rfl hl.1 rfl (lv_room (Nat.le_of_ble_eq_true rfl)) qd_X_isNeedless_86 ⟨(Nat.zero_le _), (Nat.zero_le _)⟩) hS hA hP (fun r_8 H locs hr_8 hP hS => ?_)
      have hr_8 : (r_8 = 1 ∧ ∃ (i : Nat) (rr : Nat → Int32), R[i]? = some rr ∧ rs_any (nI (p9 % 16)) (r0 0 + ru 0) (r1 0 - 1 + ru 0) rr) ∨ (r_8 = 0 ∧ ∀ (i : Nat) (rr : Nat → Int32), R[i]? = some rr → ¬ rs_any (nI (p9 % 16)) (r0 0 + ru 0) (r1 0 - 1 + ru 0) rr) := hr_8
      refine lv_if_ne (tgt := 96) hx hb qd_X_isNeedless_89 (by decide) (fun c_9 => ?_) (fun c_9 => ?_)
      · refine lv_iconst (v := 0) hx hb qd_X_isNeedless_96 (by decide) ?_
        exact mk_zret hx hb hr hlocks hS qd_X_isNeedless_97 (by decide) ((if_neg (nd_f3 (by omega) ep hnx (hr_8.elim (fun q => q.2) (fun q => absurd q.1 c_9)))).symm)
      · refine lv_iconst (v := 1) hx hb qd_X_isNeedless_92 (by decide) ?_
        refine lv_goto (tgt := 97) hx hb qd_X_isNeedless_93 (by decide) ?_
        exact mk_zret hx hb hr hlocks hS qd_X_isNeedless_97 (by decide) ((if_pos (nd_t (by omega) ep hnx e12 (sh_le_of c_7) (hr_8.elim (fun q => absurd (q.1.symm.trans c_9) (by decide)) (fun q => q.2)))).symm)
  · refine lv_iconst (v := 0) hx hb qd_X_isNeedless_25 (by decide) ?_
    exact mk_zret hx hb hr hlocks hS qd_X_isNeedless_26 (by decide) ((if_neg (nd_f1 (by omega) ep hr_2 c_3)).symm)
set_option maxHeartbeats 4000000 in
set_option maxRecDepth 100000 in
/-- dropVersions() -/
theorem c_X_dropVersions (l : Launch) (dC : Nat → ClassId) (dI : Nat → Nat → Nat) (cA : ClassId) (sz : Nat) (a : Nat → Nat) (x ru ma jo : Nat → Int32) (gv tk : Int32) (fV : Nat → Int32) (fR : Nat → Int32) (kO : Nat) (fO : Nat → Int32) (V R : List (Nat → Int32)) (hV : sh_wf 3 160 fV V) (hR : sh_wf 12 96 fR R) (hpl : ∀ (i : Nat) (r : Nat → Int32), V[i]? = some r → ∃ p9, p9 < 48 ∧ r 2 = nI p9) : Met l qy_X_dropVersions qw_X_dropVersions ({ frames := 4, cells := 0, slots := 0, locals := 103 }) (mk_mu [.ref (a 0)] sz (dC, dI) vwCl [(cA, .int)] (wX a cA x ru ma jo gv tk V.length fV R.length fR kO fO)) (mk_muV (S := (List (Nat → Int32) × (Nat → Int32))) (fun u => u.1 = dv (nd_b (ru 0) (x 7 - ru 3) R) V ∧ sh_ok 3 u.2 u.1) (fun u => (wX a cA (upd x 10 (x 10 + nI (V.length - u.1.length))) ru ma jo gv tk u.1.length u.2 R.length fR kO fO)) (dC, dI) vwCl [(cA, .int)] (va_A (wX a cA x ru ma jo gv tk V.length fV R.length fR kO fO) sz)) 0 0 (va_A (wX a cA x ru ma jo gv tk V.length fV R.length fR kO fO) sz) := by
  refine Met.ofW (cc := qb_X_dropVersions) (maxL := 3) (ret := none) (by decide) rfl ?_
  intro p e s m args below meth c s₁ B hml hpre
  obtain ⟨rfl, hsz, hP, hK, hD0⟩ := hpre
  have hx := B.exec
  have hb := B.bytes
  have hr := B.returns
  have hts0 := atoms_spec (ws := qw_X_dropVersions) B.pre
  have hts := fun w (h : w ∈ lw_gd) => hts0 w (List.mem_cons_of_mem _ h)
  have hown : s.vm.findClass qR_X = some m.cls := findClass_of_methodNamed B.named
  have hlocks := B.notSynchronized
  subst hsz
  have hD := hD0.self (sz := s.heap.size)
  generalize hAe : va_A (wX a cA x ru ma jo gv tk V.length fV R.length fR kO fO) s.heap.size = A at hD ⊢
  have hA : ∀ q : Nat, s.heap.size ≤ q → A q := fun q h => by rw [← hAe]; exact Or.inr h
  have hS : va_S A s.heap s.heap [] := va_S.rf
  have hl := lv_entry ([.ref (a 0)]) (n := 3) (Nat.le_of_ble_eq_true rfl)
  rw [lg_entry_eq]
  generalize (lg_sl ([.ref (a 0)]) ++ List.replicate (3 - (lg_sl ([.ref (a 0)])).length) Slot.unset).toArray = ls at hl ⊢
  have hl : lv_has ls 3 [(0, .ref (a 0))] := hl
  have hP : va_P (dC, dI) vwCl (wX a cA x ru ma jo gv tk V.length fV R.length fR kO fO) s.heap := hP
  refine mk_start (A := A) hP (fun H locs hP hS => ?_)
  obtain ⟨hok, hlen, -, -, -⟩ := id hV
  refine lv_iconst (v := 0) hx hb qd_X_dropVersions_0 (by decide) ?_
  refine mk_rw (y := nI ([] : List (Nat → Int32)).length) (rfl) ?_
  refine lv_istore_n (lv' := [(1, .int (nI ([] : List (Nat → Int32)).length)), (0, .ref (a 0))]) hx hb qd_X_dropVersions_1 rfl hl (by decide) rfl (fun ls hl => ?_)
  refine lv_aload_n hx hb qd_X_dropVersions_2 rfl (lv_at hl 1 rfl) ?_
  refine va_get (D := (dC, dI)) (ci := 0) (v := .ref (a 4)) (C := qR_X) (T := qT_X) (N := 13) hx hb hts qin_X hown hK hP 0 rfl rfl 2 (by decide) (hts _ mw_118) (fun _ h9 => h9) rfl qd_X_dropVersions_3 ?_
  refine mk_calli (va_runV (As := []) (rest := []) ⟨hx, hb, hml, hown, hts⟩ (c_V_size l dC dI cA H.size (a 4) (a 5) (a 6) fV V hV) (cwV 0 hts gc_X_68 rfl rfl rfl (by decide +kernel) ⟨Nat.le_of_ble_eq_true rfl, Nat.le_of_ble_eq_true rfl⟩) (mk_roV hP [4, 5, 6] rfl hK (va_recv hK hP (ci := 5) (q0 := 4) rfl rfl)) rfl rfl hl.1 rfl (lv_room (Nat.le_of_ble_eq_true rfl)) qd_X_dropVersions_6 ⟨(Nat.zero_le _), (Nat.zero_le _)⟩) hS hA hP (fun r_1 H locs hr_1 hP hS => ?_)
  obtain rfl : r_1 = nI V.length := hr_1
  refine lv_istore_n (lv' := [(2, .int (nI V.length)), (1, .int (nI ([] : List (Nat → Int32)).length)), (0, .ref (a 0))]) hx hb qd_X_dropVersions_9 rfl hl (by decide) rfl (fun ls hl => ?_)
  have hP : va_P (dC, dI) vwCl (wX a cA (upd x 10 (x 10 + nI (V.length - V.length - ([] : List (Nat → Int32)).length))) ru ma jo gv tk ((([] : List (Nat → Int32)) ++ V.drop (V.length - V.length)).length) fV R.length fR kO fO) H := by rw [Nat.sub_self, dv_x0]; exact hP
  have hD : va_D A (wX a cA (upd x 10 (x 10 + nI (V.length - V.length - ([] : List (Nat → Int32)).length))) ru ma jo gv tk ((([] : List (Nat → Int32)) ++ V.drop (V.length - V.length)).length) fV R.length fR kO fO) := by rw [Nat.sub_self, dv_x0]; exact hD
  refine mk_loop (σ := List (Nat → Int32) × (Nat → Int32)) (fun n y9 H locs ls => (n ≤ V.length ∧ y9.1.length + n ≤ V.length ∧ y9.1 ++ dv (nd_b (ru 0) (x 7 - ru 3) R) (V.drop (V.length - n)) = dv (nd_b (ru 0) (x 7 - ru 3) R) V ∧ sh_ok 3 y9.2 (y9.1 ++ V.drop (V.length - n))) ∧ va_P (dC, dI) vwCl (wX a cA (upd x 10 (x 10 + nI (V.length - n - y9.1.length))) ru ma jo gv tk ((y9.1 ++ V.drop (V.length - n)).length) y9.2 R.length fR kO fO) H ∧ va_D A (wX a cA (upd x 10 (x 10 + nI (V.length - n - y9.1.length))) ru ma jo gv tk ((y9.1 ++ V.drop (V.length - n)).length) y9.2 R.length fR kO fO) ∧ va_S A s.heap H locs ∧ lv_has ls 3 [(0, .ref (a 0)), (1, .int (nI y9.1.length)), (2, .int (nI n))]) (fun ls => F0 m 10 ls []) (fun n y9 H locs ls hI ih_2 => ?_) (fun y9 H locs ls hI => ?_) V.length ([], fV) H locs ls ⟨⟨Nat.le_refl _, Nat.le_of_eq (Nat.zero_add _), by rw [Nat.sub_self]; rfl, by rw [Nat.sub_self]; exact hV.1⟩, hP, hD, hS, lv_sub hl [2, 1, 0] rfl⟩
  · obtain ⟨K, f1⟩ := y9
    obtain ⟨hinv, hP, hD, hS, hl⟩ := hI
    have hinv : (n + 1) ≤ V.length ∧ K.length + (n + 1) ≤ V.length ∧ K ++ dv (nd_b (ru 0) (x 7 - ru 3) R) (V.drop (V.length - (n + 1))) = dv (nd_b (ru 0) (x 7 - ru 3) R) V ∧ sh_ok 3 f1 (K ++ V.drop (V.length - (n + 1))) := hinv
    have hP : va_P (dC, dI) vwCl (wX a cA (upd x 10 (x 10 + nI (V.length - (n + 1) - K.length))) ru ma jo gv tk ((K ++ V.drop (V.length - (n + 1))).length) f1 R.length fR kO fO) H := hP
    have hD : va_D A (wX a cA (upd x 10 (x 10 + nI (V.length - (n + 1) - K.length))) ru ma jo gv tk ((K ++ V.drop (V.length - (n + 1))).length) f1 R.length fR kO fO) := hD
    have hl : lv_has ls 3 [(0, .ref (a 0)), (1, .int (nI K.length)), (2, .int (nI (n + 1)))] := hl
    obtain ⟨hn1, hn2, hdv, hok1⟩ := hinv
    have hlt : V.length - (n + 1) < V.length := by omega
    have hlv : (K ++ V.drop (V.length - (n + 1))).length ≤ V.length := by rw [List.length_append, List.length_drop]; omega
    have hwv : sh_wf 3 160 f1 (K ++ V.drop (V.length - (n + 1))) := ⟨hok1, by omega, by decide, by decide, by decide⟩
    have hat := dv_at (K := K) hlt
    obtain ⟨p9, hp9, ep⟩ := hpl _ _ (List.getElem?_eq_getElem hlt)
    refine lv_iload_n hx hb qd_X_dropVersions_10 rfl (lv_at hl 2 rfl) ?_
    refine lv_if_le (tgt := 52) hx hb qd_X_dropVersions_11 (by decide) (fun c_3 => ?_) (fun c_3 => ?_)
    · exact absurd c_3 (nI_nle (Nat.succ_pos _) (by omega))
    · refine lv_aload_n hx hb qd_X_dropVersions_14 rfl (lv_at hl 0 rfl) ?_
      refine lv_iload_n hx hb qd_X_dropVersions_15 rfl (lv_at hl 1 rfl) ?_
      refine mk_calli (va_runV (As := [.int (nI K.length)]) (rest := []) ⟨hx, hb, hml, hown, hts⟩ (c_X_isNeedless l dC dI cA H.size a (upd x 10 (x 10 + nI (V.length - (n + 1) - K.length))) ru ma jo gv tk f1 fR kO fO (K ++ V.drop (V.length - (n + 1))) R hwv hR K.length (V[V.length - (n + 1)]'hlt) hat p9 hp9 ep) (cwV 1 hts gc_X_187 rfl rfl rfl (by decide +kernel) ⟨Nat.le_of_ble_eq_true rfl, Nat.le_of_ble_eq_true rfl⟩) (mk_roV hP [0, 1, 2, 3, 4, 5, 6, 7, 8, 9, 10, 11, 12] rfl hK (va_recv hK hP (ci := 0) (q0 := 0) rfl rfl)) rfl rfl hl.1 rfl (lv_room (Nat.le_of_ble_eq_true rfl)) qd_X_dropVersions_16 ⟨(Nat.zero_le _), (Nat.zero_le _)⟩) hS hA hP (fun r_4 H locs hr_4 hP hS => ?_)
      obtain rfl : r_4 = if (nd_b (ru 0) (x 7 - ru 3) R) (V[V.length - (n + 1)]'hlt) (K ++ V.drop (V.length - (n + 1)))[K.length + 1]? = true then 1 else 0 := hr_4
      refine lv_if_eq (tgt := 43) hx hb qd_X_dropVersions_19 (by decide) (fun c_5 => ?_) (fun c_5 => ?_)
      · refine lv_iinc (v := nI (K.length + 1)) (lv' := [(1, .int (nI (K.length + 1))), (0, .ref (a 0)), (2, .int (nI (n + 1)))]) hx hb qd_X_dropVersions_43 hl (k := 1) rfl (mk_inc K.length) (by decide) rfl (fun ls hl => ?_)
        refine lv_iinc (v := nI n) (lv' := [(2, .int (nI n)), (1, .int (nI (K.length + 1))), (0, .ref (a 0))]) hx hb qd_X_dropVersions_46 hl (k := 2) rfl (mk_dec n) (by decide) rfl (fun ls hl => ?_)
        refine lv_goto (tgt := 10) hx hb qd_X_dropVersions_49 (by decide) ?_
        have hnd := rs_n1 c_5
        rw [dv_nx] at hnd
        have ev := dv_keep (K := K) hlt
        rw [show V.length - (n + 1) + 1 = V.length - n by omega] at ev hnd
        have ed := dv_s2 (nd := (nd_b (ru 0) (x 7 - ru 3) R)) hlt (by rw [show V.length - (n + 1) + 1 = V.length - n by omega]; exact hnd)
        rw [show V.length - (n + 1) + 1 = V.length - n by omega] at ed
        have ek : K ++ [V[V.length - (n + 1)]'hlt] ++ dv (nd_b (ru 0) (x 7 - ru 3) R) (V.drop (V.length - n)) = dv (nd_b (ru 0) (x 7 - ru 3) R) V := by rw [← hdv, ed, List.append_assoc]; rfl
        have el : (K ++ [V[V.length - (n + 1)]'hlt]).length = K.length + 1 := by rw [List.length_append]; rfl
        rw [ev] at hok1
        have ew : V.length - (n + 1) - K.length = V.length - n - (K ++ [V[V.length - (n + 1)]'hlt]).length := by omega
        rw [ev, ew] at hP hD
        rw [← el] at hl
        exact ih_2 ((K ++ [V[V.length - (n + 1)]'hlt]), f1) H locs ls ⟨⟨by omega, (show (K ++ [V[V.length - (n + 1)]'hlt]).length + n ≤ V.length by omega), ek, hok1⟩, hP, hD, hS, lv_sub hl [2, 1, 0] rfl⟩
      · refine lv_aload_n hx hb qd_X_dropVersions_22 rfl (lv_at hl 0 rfl) ?_
        refine va_get (D := (dC, dI)) (ci := 0) (v := .ref (a 4)) (C := qR_X) (T := qT_X) (N := 13) hx hb hts qin_X hown hK hP 0 rfl rfl 2 (by decide) (hts _ mw_118) (fun _ h9 => h9) rfl qd_X_dropVersions_23 ?_
        refine lv_iload_n hx hb qd_X_dropVersions_26 rfl (lv_at hl 1 rfl) ?_
        refine mk_mcallv (wr := [((a 0), .inr (0, [.ref (a 1), .ref (a 2), .ref (a 4), .ref (a 7), .ref (a 10), .ref (a 3), .int (x 6), .int (x 7), .int (x 8), .int (x 9), .int (x 10 + nI (V.length - (n + 1) - K.length)), .int (x 11), .int (x 12)])), ((a 1), .inl (cA, 4, .inl ru)), ((a 2), .inl (cA, 3, .inl ma)), ((a 3), .inl (cA, 6, .inl jo)), ((a 7), .inr (3, [.ref (a 8)])), ((a 8), .inr (4, [.int (nI 12), .int (nI 96), .ref (a 9), .int (nI R.length)])), ((a 9), .inl (cA, (12 * 96), .inl fR)), ((a 10), .inr (2, [.ref (a 11), .int gv, .int tk])), ((a 11), .inr (4, [.int (nI 11), .int (nI 192), .ref (a 12), .int (nI kO)])), ((a 12), .inl (cA, (11 * 192), .inl fO))]) (wf := (fun u => (wX a cA (upd x 10 (x 10 + nI (V.length - (n + 1) - K.length))) ru ma jo gv tk u.1.length u.2 R.length fR kO fO))) (va_runV (As := [.int (nI K.length)]) (rest := []) ⟨hx, hb, hml, hown, hts⟩ (c_V_drop l dC dI cA H.size (a 4) (a 5) (a 6) f1 (K ++ V.drop (V.length - (n + 1))) hwv K.length ((List.getElem?_eq_some_iff.mp hat).1)) (cwV 1 hts gc_X_190 rfl rfl rfl (by decide +kernel) ⟨Nat.le_of_ble_eq_true rfl, Nat.le_of_ble_eq_true rfl⟩) (mk_muP hP hD [4, 5, 6] (by decide) rfl hK (va_recv hK hP (ci := 5) (q0 := 4) rfl rfl)) rfl rfl hl.1 rfl (lv_room (Nat.le_of_ble_eq_true rfl)) qd_X_dropVersions_27 ⟨(Nat.zero_le _), (Nat.zero_le _)⟩) hS hA hP hD [4, 5, 6] [0, 1, 2, 3, 7, 8, 9, 10, 11, 12] [0, 1, 2, 3, 10, 11, 12, 4, 5, 6, 7, 8, 9] rfl rfl (by decide) (by decide) (by decide) (fun _ => rfl) (fun u_7 H locs hu_7 hP hD hS => ?_)
        obtain ⟨V1, f2⟩ := u_7
        have hu_7 : V1 = (K ++ V.drop (V.length - (n + 1))).eraseIdx K.length ∧ sh_ok 3 f2 V1 := hu_7
        rw [dv_go hlt, show V.length - (n + 1) + 1 = V.length - n by omega] at hu_7
        obtain ⟨rfl, hok2⟩ := hu_7
        have hnd := rs_n2 c_5
        rw [dv_nx] at hnd
        have ek : K ++ dv (nd_b (ru 0) (x 7 - ru 3) R) (V.drop (V.length - n)) = dv (nd_b (ru 0) (x 7 - ru 3) R) V := by rw [← hdv, dv_s1 hlt hnd, show V.length - (n + 1) + 1 = V.length - n by omega]
        have hP : va_P (dC, dI) vwCl (wX a cA (upd x 10 (x 10 + nI (V.length - (n + 1) - K.length))) ru ma jo gv tk ((K ++ V.drop (V.length - n)).length) f2 R.length fR kO fO) H := hP
        have hD : va_D A (wX a cA (upd x 10 (x 10 + nI (V.length - (n + 1) - K.length))) ru ma jo gv tk ((K ++ V.drop (V.length - n)).length) f2 R.length fR kO fO) := hD
        refine lv_aload_n hx hb qd_X_dropVersions_30 rfl (lv_at hl 0 rfl) ?_
        refine lv_dup hx hb qd_X_dropVersions_31 rfl ?_
        refine va_get (D := (dC, dI)) (ci := 0) (v := .int (x 10 + nI (V.length - (n + 1) - K.length))) (C := qR_X) (T := qT_X) (N := 13) hx hb hts qin_X hown hK hP 0 rfl rfl 10 (by decide) (hts _ mw_126) (fun _ h9 => h9) rfl qd_X_dropVersions_32 ?_
        refine lv_iconst (v := 1) hx hb qd_X_dropVersions_35 (by decide) ?_
        refine lv_iadd hx hb qd_X_dropVersions_36 ?_
        refine mk_rw (y := x 10 + nI (V.length - n - K.length)) (by show x 10 + nI (V.length - (n + 1) - K.length) + nI 1 = _; rw [Int32.add_assoc, nI_add]; congr 2; omega) ?_
        refine va_put (D := (dC, dI)) (ci := 0) (v := .int (x 10 + nI (V.length - n - K.length))) (ty := .int) (C := qR_X) (T := qT_X) (N := 13) hx hb hts qin_X qty_X qtyok_X qnm_X hown hK hP hD hS 0 rfl rfl 10 (by decide) (hts _ mw_126) (fun _ h9 => h9) rfl (by decide +kernel) rfl rfl (Nat.le_of_ble_eq_true rfl) qd_X_dropVersions_37 (fun H locs hP hD hS => ?_)
        have hP : va_P (dC, dI) vwCl (wX a cA (upd (upd x 10 (x 10 + nI (V.length - (n + 1) - K.length))) 10 (x 10 + nI (V.length - n - K.length))) ru ma jo gv tk ((K ++ V.drop (V.length - n)).length) f2 R.length fR kO fO) H := hP
        have hD : va_D A (wX a cA (upd (upd x 10 (x 10 + nI (V.length - (n + 1) - K.length))) 10 (x 10 + nI (V.length - n - K.length))) ru ma jo gv tk ((K ++ V.drop (V.length - n)).length) f2 R.length fR kO fO) := hD
        rw [dv_xx] at hP hD
        refine lv_goto (tgt := 46) hx hb qd_X_dropVersions_40 (by decide) ?_
        refine lv_iinc (v := nI n) (lv' := [(2, .int (nI n)), (0, .ref (a 0)), (1, .int (nI K.length))]) hx hb qd_X_dropVersions_46 hl (k := 2) rfl (mk_dec n) (by decide) rfl (fun ls hl => ?_)
        refine lv_goto (tgt := 10) hx hb qd_X_dropVersions_49 (by decide) ?_
        exact ih_2 (K, f2) H locs ls ⟨⟨by omega, (show K.length + n ≤ V.length by omega), ek, hok2⟩, hP, hD, hS, lv_sub hl [1, 2, 0] rfl⟩
  · obtain ⟨K, f1⟩ := y9
    obtain ⟨hinv, hP, hD, hS, hl⟩ := hI
    have hinv : 0 ≤ V.length ∧ K.length + 0 ≤ V.length ∧ K ++ dv (nd_b (ru 0) (x 7 - ru 3) R) (V.drop (V.length - 0)) = dv (nd_b (ru 0) (x 7 - ru 3) R) V ∧ sh_ok 3 f1 (K ++ V.drop (V.length - 0)) := hinv
    have hP : va_P (dC, dI) vwCl (wX a cA (upd x 10 (x 10 + nI (V.length - 0 - K.length))) ru ma jo gv tk ((K ++ V.drop (V.length - 0)).length) f1 R.length fR kO fO) H := hP
    have hD : va_D A (wX a cA (upd x 10 (x 10 + nI (V.length - 0 - K.length))) ru ma jo gv tk ((K ++ V.drop (V.length - 0)).length) f1 R.length fR kO fO) := hD
    have hl : lv_has ls 3 [(0, .ref (a 0)), (1, .int (nI K.length)), (2, .int (nI 0))] := hl
    obtain ⟨hn1, hn2, hdv, hok1⟩ := hinv
    refine lv_iload_n hx hb qd_X_dropVersions_10 rfl (lv_at hl 2 rfl) ?_
    refine lv_if_le (tgt := 52) hx hb qd_X_dropVersions_11 (by decide) (fun c_8 => ?_) (fun c_8 => ?_)
    · rw [show V.length - 0 = V.length from rfl, List.drop_length, show dv (nd_b (ru 0) (x 7 - ru 3) R) [] = [] from rfl, List.append_nil] at hdv
      rw [show V.length - 0 = V.length from rfl, List.drop_length, List.append_nil] at hok1 hP hD
      subst hdv
      exact mk_mvret (dv (nd_b (ru 0) (x 7 - ru 3) R) V, f1) hx hb hr hlocks hP hK hD hS qd_X_dropVersions_52 ⟨rfl, hok1⟩
    · exact absurd (show nI 0 ≤ 0 from by decide) c_8
