set_option maxHeartbeats 4000000 in
set_option maxRecDepth 100000 in
/-- the law's loop -/
theorem law_loop {p : Program} {e : Env} {s : State} {m : MethodId} {below : List Frame} {meth : Method} {c : Code} (l : Launch) {dC : Nat → ClassId} {dI : Nat → Nat → Nat} {b0 L : Nat} {xs : Nat → Int32} {k9 n9 : Nat} (hk9 : k9 ≤ 600000) (hn9 : n9 ≤ 7302250) (hL : L ≤ 2560) (C0 : lw_At p s m meth c b0 L xs) (cA cB : ClassId) (hK : va_K (dC, dI) vwCl [(cA, .int), (cB, .boolean)] s) (a b : Nat → Nat) (x : (Nat → Int32)) (ru : (Nat → Int32)) (ma : (Nat → Int32)) (jo : (Nat → Int32)) (gv : Int32) (tk : Int32) (V : (List (Nat → Int32))) (fV : (Nat → Int32)) (R : (List (Nat → Int32))) (fR : (Nat → Int32)) (Lo : (List (Nat → Int32))) (fO : (Nat → Int32)) (n3 : Nat) (y : (Nat → Int32)) (mm : (Nat → Int32)) (ve : (Nat → Int32)) (rw : (Nat → Int32)) (jn : (Nat → Int32)) (ou : (Nat → Int32)) (fo : (Nat → Int32)) (go : (Nat → Int32)) (hsr : sr x ru ma V R y mm) (hxi : xi_ok x V fV R fR Lo fO n3) (hmi : mi_ok y ve rw) (hsq : sq x R y rw) (H : Heap) (locs : List Loc) (hP : va_P (dC, dI) vwCl ((wX a cA x ru ma jo gv tk V.length fV R.length fR Lo.length fO) ++ (wM b cA cB y mm ve rw jn ou fo go)) H) (hD : va_D (fun q : Nat => s.heap.size ≤ q) ((wX a cA x ru ma jo gv tk V.length fV R.length fR Lo.length fO) ++ (wM b cA cB y mm ve rw jn ou fo go))) (hS : va_S (fun q : Nat => s.heap.size ≤ q) s.heap H locs) (ls : Array Slot) (hl : lv_has ls 4 [(0, .ref b0), (1, .ref (a 0)), (2, .ref (b 0)), (3, .int (nI 0))]) : W p l e room_1 s m #[Value.ref b0] below meth c H locs k9 n9 (lw_Z below #[Value.ref b0] s) (F0 m 18 ls []) := by
  obtain ⟨hx, hb, hr, hml, hown, hts0, hX, hbl, hlocks, hgv⟩ := C0
  have hts := fun w (h : w ∈ lw_gd) => hts0 w (List.mem_filter.mp h).1
  obtain ⟨A, hAe⟩ : ∃ A : Nat → Prop, A = fun q => s.heap.size ≤ q := ⟨_, rfl⟩
  have hA : ∀ q : Nat, s.heap.size ≤ q → A q := fun q h => by rw [hAe]; exact h
  have hbA : ¬ A b0 := by rw [hAe]; exact Nat.not_le.mpr hbl
  have hKX : va_K (dC, dI) vwCl [(cA, .int)] s := hK.sub (tys' := [(cA, .int)]) [0] rfl
  have hn1 : va_Nw (Cond.fieldLinkNest "AsOfJoins" 133 "AsOfJoins$Outs" "gives" "I" "AsOfJoins") s := va_Nw.of rfl (hts0 _ (by decide +kernel))
  have hn2 : va_Nw (Cond.fieldLinkNest "AsOfJoins" 136 "AsOfJoins$Outs" "takes" "I" "AsOfJoins") s := va_Nw.of rfl (hts0 _ (by decide +kernel))
  have hZ9 : ∀ U : State, s.WarmedH U.vm → ∀ w ∈ [Cond.fieldLinkNest "AsOfJoins" 133 "AsOfJoins$Outs" "gives" "I" "AsOfJoins", Cond.fieldLinkNest "AsOfJoins" 136 "AsOfJoins$Outs" "takes" "I" "AsOfJoins"], va_Nw w U := fun U hW w hw => by rcases List.mem_cons.mp hw with e | hw; (rw [e]; exact va_Nw.warmF hW hn1); rcases List.mem_cons.mp hw with e | hw; (rw [e]; exact va_Nw.warmF hW hn2); cases hw
  rw [← hAe] at hD hS
  refine mk_loop (σ := Nat × (Nat → Int32) × (Nat → Int32) × (Nat → Int32) × (Nat → Int32) × Int32 × Int32 × (List (Nat → Int32)) × (Nat → Int32) × (List (Nat → Int32)) × (Nat → Int32) × (List (Nat → Int32)) × (Nat → Int32) × Nat × (Nat → Int32) × (Nat → Int32) × (Nat → Int32) × (Nat → Int32) × (Nat → Int32) × (Nat → Int32) × (Nat → Int32) × (Nat → Int32)) (fun n y9 H locs ls => (y9.1 ≤ L + 5 ∧ L < y9.1 + 5 * n + 5 ∧ sr y9.2.1 y9.2.2.1 y9.2.2.2.1 y9.2.2.2.2.2.2.2.1 y9.2.2.2.2.2.2.2.2.2.1 y9.2.2.2.2.2.2.2.2.2.2.2.2.2.2.1 y9.2.2.2.2.2.2.2.2.2.2.2.2.2.2.2.1 ∧ xi_ok y9.2.1 y9.2.2.2.2.2.2.2.1 y9.2.2.2.2.2.2.2.2.1 y9.2.2.2.2.2.2.2.2.2.1 y9.2.2.2.2.2.2.2.2.2.2.1 y9.2.2.2.2.2.2.2.2.2.2.2.1 y9.2.2.2.2.2.2.2.2.2.2.2.2.1 y9.2.2.2.2.2.2.2.2.2.2.2.2.2.1 ∧ mi_ok y9.2.2.2.2.2.2.2.2.2.2.2.2.2.2.1 y9.2.2.2.2.2.2.2.2.2.2.2.2.2.2.2.2.1 y9.2.2.2.2.2.2.2.2.2.2.2.2.2.2.2.2.2.1 ∧ sq y9.2.1 y9.2.2.2.2.2.2.2.2.2.1 y9.2.2.2.2.2.2.2.2.2.2.2.2.2.2.1 y9.2.2.2.2.2.2.2.2.2.2.2.2.2.2.2.2.2.1) ∧ va_P (dC, dI) vwCl ((wX a cA y9.2.1 y9.2.2.1 y9.2.2.2.1 y9.2.2.2.2.1 y9.2.2.2.2.2.1 y9.2.2.2.2.2.2.1 y9.2.2.2.2.2.2.2.1.length y9.2.2.2.2.2.2.2.2.1 y9.2.2.2.2.2.2.2.2.2.1.length y9.2.2.2.2.2.2.2.2.2.2.1 y9.2.2.2.2.2.2.2.2.2.2.2.1.length y9.2.2.2.2.2.2.2.2.2.2.2.2.1) ++ (wM b cA cB y9.2.2.2.2.2.2.2.2.2.2.2.2.2.2.1 y9.2.2.2.2.2.2.2.2.2.2.2.2.2.2.2.1 y9.2.2.2.2.2.2.2.2.2.2.2.2.2.2.2.2.1 y9.2.2.2.2.2.2.2.2.2.2.2.2.2.2.2.2.2.1 y9.2.2.2.2.2.2.2.2.2.2.2.2.2.2.2.2.2.2.1 y9.2.2.2.2.2.2.2.2.2.2.2.2.2.2.2.2.2.2.2.1 y9.2.2.2.2.2.2.2.2.2.2.2.2.2.2.2.2.2.2.2.2.1 y9.2.2.2.2.2.2.2.2.2.2.2.2.2.2.2.2.2.2.2.2.2)) H ∧ va_D A ((wX a cA y9.2.1 y9.2.2.1 y9.2.2.2.1 y9.2.2.2.2.1 y9.2.2.2.2.2.1 y9.2.2.2.2.2.2.1 y9.2.2.2.2.2.2.2.1.length y9.2.2.2.2.2.2.2.2.1 y9.2.2.2.2.2.2.2.2.2.1.length y9.2.2.2.2.2.2.2.2.2.2.1 y9.2.2.2.2.2.2.2.2.2.2.2.1.length y9.2.2.2.2.2.2.2.2.2.2.2.2.1) ++ (wM b cA cB y9.2.2.2.2.2.2.2.2.2.2.2.2.2.2.1 y9.2.2.2.2.2.2.2.2.2.2.2.2.2.2.2.1 y9.2.2.2.2.2.2.2.2.2.2.2.2.2.2.2.2.1 y9.2.2.2.2.2.2.2.2.2.2.2.2.2.2.2.2.2.1 y9.2.2.2.2.2.2.2.2.2.2.2.2.2.2.2.2.2.2.1 y9.2.2.2.2.2.2.2.2.2.2.2.2.2.2.2.2.2.2.2.1 y9.2.2.2.2.2.2.2.2.2.2.2.2.2.2.2.2.2.2.2.2.1 y9.2.2.2.2.2.2.2.2.2.2.2.2.2.2.2.2.2.2.2.2.2)) ∧ va_S A s.heap H locs ∧ lv_has ls 4 [(0, .ref b0), (1, .ref (a 0)), (2, .ref (b 0)), (3, .int (nI y9.1))]) (fun ls => F0 m 18 ls []) (fun n y9 H locs ls hI ih_1 => ?_) (fun y9 H locs ls hI => ?_) L (0, x, ru, ma, jo, gv, tk, V, fV, R, fR, Lo, fO, n3, y, mm, ve, rw, jn, ou, fo, go) H locs ls ⟨⟨Nat.zero_le _, by omega, hsr, hxi, hmi, hsq⟩, hP, hD, hS, lv_sub hl [0, 1, 2, 3] rfl⟩
  · obtain ⟨i, x, ru, ma, jo, gv, tk, V, fV, R, fR, Lo, fO, n3, y, mm, ve, rw, jn, ou, fo, go⟩ := y9
    obtain ⟨hinv, hP, hD, hS, hl⟩ := hI
    have hinv : i ≤ L + 5 ∧ L < i + 5 * (n + 1) + 5 ∧ sr x ru ma V R y mm ∧ xi_ok x V fV R fR Lo fO n3 ∧ mi_ok y ve rw ∧ sq x R y rw := hinv
    have hP : va_P (dC, dI) vwCl ((wX a cA x ru ma jo gv tk V.length fV R.length fR Lo.length fO) ++ (wM b cA cB y mm ve rw jn ou fo go)) H := hP
    have hD : va_D A ((wX a cA x ru ma jo gv tk V.length fV R.length fR Lo.length fO) ++ (wM b cA cB y mm ve rw jn ou fo go)) := hD
    have hl : lv_has ls 4 [(0, .ref b0), (1, .ref (a 0)), (2, .ref (b 0)), (3, .int (nI i))] := hl
    obtain ⟨hi1, hi2, hsr, hxi, hmi, hsq⟩ := hinv
    have h6 := hxi.2.2.2.2.2.2.1
    have h3 := hxi.2.2.2.2.2.2.2
    refine lv_iload_n hx hb qd_L_law_18 rfl (lv_at hl 3 rfl) ?_
    refine lv_aload_n hx hb qd_L_law_19 rfl (lv_at hl 0 rfl) ?_
    refine va_slen hx hb hX hbl hbA hS qd_L_law_20 ?_
    refine mk_rw (y := nI L) rfl ?_
    refine lv_iconst (v := 5) hx hb qd_L_law_21 (by decide) ?_
    refine lv_isub hx hb qd_L_law_22 ?_
    refine lv_icmp_gt (tgt := 454) hx hb qd_L_law_23 (by decide) (fun c_2 => ?_) (fun c_2 => ?_)
    · refine lv_iconst (v := 1) hx hb qd_L_law_454 (by decide) ?_
      refine va_forget (fun q hq => by have := hS.2.2 q hq; rw [hAe] at this; exact this) ?_
      refine W.widen (k := 600000) (n := 7302250) hk9 hn9 ?_
      exact lw_ret hx hb hr hlocks qd_L_law_455
    · have h5 : i + 5 ≤ L := lw_stay (by omega) (by omega) c_2
      refine lv_aload_n hx hb qd_L_law_26 rfl (lv_at hl 0 rfl) ?_
      refine lv_iload_n hx hb qd_L_law_27 rfl (lv_at hl 3 rfl) ?_
      refine va_sld hx hb hX hbl hbA hS (vp_in_nI (show i + 0 < L by omega) (by omega)) qd_L_law_28 ?_
      refine lv_bipush (v := 15) hx hb qd_L_law_29 (by decide) ?_
      refine lv_iand hx hb qd_L_law_31 ?_
      refine lv_topi (fun wh ewh => ?_)
      rcases pk_ix wh (n := 10) (by decide) with hq | hq | ⟨j, hj, rfl⟩
      · refine lv_tableOut (tgt := 448) hx hb qd_L_law_32 (sw_out (n := 9) (by decide) (Or.inl hq)) (by decide) ?_
        refine lv_iinc (v := nI (i + 5)) (lv' := [(3, .int (nI (i + 5))), (0, .ref b0), (1, .ref (a 0)), (2, .ref (b 0))]) hx hb qd_L_law_448 hl (k := 3) rfl (by rw [show Int32.ofInt 5 = nI 5 from rfl]; first | exact nI_add i 5 | exact (nI_add i 5).symm) (by decide) rfl (fun ls hl => ?_)
        refine lv_goto (tgt := 18) hx hb qd_L_law_451 (by decide) ?_
        exact ih_1 ((i + 5), x, ru, ma, jo, gv, tk, V, fV, R, fR, Lo, fO, n3, y, mm, ve, rw, jn, ou, fo, go) H locs ls ⟨⟨by omega, by omega, hsr, hxi, hmi, hsq⟩, hP, hD, hS, lv_sub hl [1, 2, 3, 0] rfl⟩
      · refine lv_tableOut (tgt := 448) hx hb qd_L_law_32 (sw_out (n := 9) (by decide) (Or.inr hq)) (by decide) ?_
        refine lv_iinc (v := nI (i + 5)) (lv' := [(3, .int (nI (i + 5))), (0, .ref b0), (1, .ref (a 0)), (2, .ref (b 0))]) hx hb qd_L_law_448 hl (k := 3) rfl (by rw [show Int32.ofInt 5 = nI 5 from rfl]; first | exact nI_add i 5 | exact (nI_add i 5).symm) (by decide) rfl (fun ls hl => ?_)
        refine lv_goto (tgt := 18) hx hb qd_L_law_451 (by decide) ?_
        exact ih_1 ((i + 5), x, ru, ma, jo, gv, tk, V, fV, R, fR, Lo, fO, n3, y, mm, ve, rw, jn, ou, fo, go) H locs ls ⟨⟨by omega, by omega, hsr, hxi, hmi, hsq⟩, hP, hD, hS, lv_sub hl [1, 2, 3, 0] rfl⟩
      · rcases (show j = 0 ∨ j = 1 ∨ j = 2 ∨ j = 3 ∨ j = 4 ∨ j = 5 ∨ j = 6 ∨ j = 7 ∨ j = 8 ∨ j = 9 by omega) with rfl | rfl | rfl | rfl | rfl | rfl | rfl | rfl | rfl | rfl
        · refine lv_tableIn (off := 56) (tgt := 88) hx hb qd_L_law_32 (by decide) (by decide) (by decide) (by decide) ?_
          refine lv_aload_n hx hb qd_L_law_88 rfl (lv_at hl 1 rfl) ?_
          refine mk_mcalli (wr := [((b 0), .inr (1, [.int (y 0), .int (y 1), .int (y 2), .int (y 3), .int (y 4), .int (y 5), .int (y 6), .ref (b 1), .int (y 8), .ref (b 2), .int (y 10), .ref (b 3), .ref (b 4), .int (y 13), .int (y 14), .int (y 15), .int (y 16), .int (y 17), .int (y 18), .int (y 19), .ref (b 5), .int (y 21), .ref (b 6), .ref (b 7)])), ((b 1), .inl (cA, 3, .inl mm)), ((b 2), .inl (cA, 640, .inl ve)), ((b 3), .inl (cA, 576, .inl rw)), ((b 4), .inl (cA, 576, .inl jn)), ((b 5), .inl (cA, 2200, .inl ou)), ((b 6), .inl (cA, 6, .inl fo)), ((b 7), .inl (cB, 160, .inl go))]) (wf := (fun u => ((wX a cA u ru ma jo gv tk V.length fV R.length fR Lo.length fO) ++ (wM b cA cB y mm ve rw jn ou fo go)))) (va_runV (As := []) (rest := []) ⟨hx, hb, hml, hown, hts⟩ (c_X_table l dC dI cA H.size a x ru ma jo gv tk V.length fV R.length fR Lo.length fO) (cwV 0 hts gc_L_13 rfl rfl rfl (by decide +kernel) ⟨Nat.le_of_ble_eq_true rfl, Nat.le_of_ble_eq_true rfl⟩) (mk_muP hP hD [0, 1, 2, 3, 4, 5, 6, 7, 8, 9, 10, 11, 12] (by decide) rfl hKX (va_recv hKX hP (ci := 0) (q0 := 0) rfl rfl)) rfl rfl hl.1 rfl (lv_room (Nat.le_of_ble_eq_true rfl)) qd_L_law_89 ⟨hk9, hn9⟩) hS hA hP hD [0, 1, 2, 3, 4, 5, 6, 7, 8, 9, 10, 11, 12] [13, 14, 15, 16, 17, 18, 19, 20] [8, 9, 10, 11, 12, 13, 14, 15, 16, 17, 18, 19, 20, 0, 1, 2, 3, 4, 5, 6, 7] rfl rfl (by decide) (by decide) (by decide) (fun _ => rfl) (fun r_3 u_4 H locs hr_3 hP hD hS => ?_)
          obtain ⟨x2, rfl⟩ : ∃ z, z = u_4 := ⟨_, rfl⟩
          have hP : va_P (dC, dI) vwCl ((wX a cA x2 ru ma jo gv tk V.length fV R.length fR Lo.length fO) ++ (wM b cA cB y mm ve rw jn ou fo go)) H := hP
          have hD : va_D A ((wX a cA x2 ru ma jo gv tk V.length fV R.length fR Lo.length fO) ++ (wM b cA cB y mm ve rw jn ou fo go)) := hD
          refine lv_pop hx hb qd_L_law_92 rfl ?_
          refine lv_aload_n hx hb qd_L_law_93 rfl (lv_at hl 2 rfl) ?_
          refine mk_mcalli (wr := [((a 0), .inr (0, [.ref (a 1), .ref (a 2), .ref (a 4), .ref (a 7), .ref (a 10), .ref (a 3), .int (x2 6), .int (x2 7), .int (x2 8), .int (x2 9), .int (x2 10), .int (x2 11), .int (x2 12)])), ((a 1), .inl (cA, 4, .inl ru)), ((a 2), .inl (cA, 3, .inl ma)), ((a 3), .inl (cA, 6, .inl jo)), ((a 4), .inr (5, [.ref (a 5)])), ((a 5), .inr (4, [.int (nI 3), .int (nI 160), .ref (a 6), .int (nI V.length)])), ((a 6), .inl (cA, (3 * 160), .inl fV)), ((a 7), .inr (3, [.ref (a 8)])), ((a 8), .inr (4, [.int (nI 12), .int (nI 96), .ref (a 9), .int (nI R.length)])), ((a 9), .inl (cA, (12 * 96), .inl fR)), ((a 10), .inr (2, [.ref (a 11), .int gv, .int tk])), ((a 11), .inr (4, [.int (nI 11), .int (nI 192), .ref (a 12), .int (nI Lo.length)])), ((a 12), .inl (cA, (11 * 192), .inl fO))]) (wf := (fun u => ((wX a cA x2 ru ma jo gv tk V.length fV R.length fR Lo.length fO) ++ (wM b cA cB u mm ve rw jn ou fo go)))) (va_runV (As := []) (rest := []) ⟨hx, hb, hml, hown, hts⟩ (c_M_table l dC dI cA H.size cB b y mm ve rw jn ou fo go) (cwV 0 hts gc_L_17 rfl rfl rfl (by decide +kernel) ⟨Nat.le_of_ble_eq_true rfl, Nat.le_of_ble_eq_true rfl⟩) (mk_muP hP hD [13, 14, 15, 16, 17, 18, 19, 20] (by decide) rfl hK (va_recv hK hP (ci := 1) (q0 := 13) rfl rfl)) rfl rfl hl.1 rfl (lv_room (Nat.le_of_ble_eq_true rfl)) qd_L_law_94 ⟨hk9, hn9⟩) hS hA hP hD [13, 14, 15, 16, 17, 18, 19, 20] [0, 1, 2, 3, 4, 5, 6, 7, 8, 9, 10, 11, 12] [0, 1, 2, 3, 4, 5, 6, 7, 8, 9, 10, 11, 12, 13, 14, 15, 16, 17, 18, 19, 20] rfl rfl (by decide) (by decide) (by decide) (fun _ => rfl) (fun r_5 u_6 H locs hr_5 hP hD hS => ?_)
          obtain ⟨y2, rfl⟩ : ∃ z, z = u_6 := ⟨_, rfl⟩
          obtain ⟨er, hsr2, hmi2, n4, hn4, h64⟩ := sr_table hsr h6 h3 hmi hr_3 hr_5
          have hP : va_P (dC, dI) vwCl ((wX a cA x2 ru ma jo gv tk V.length fV R.length fR Lo.length fO) ++ (wM b cA cB y2 mm ve rw jn ou fo go)) H := hP
          have hD : va_D A ((wX a cA x2 ru ma jo gv tk V.length fV R.length fR Lo.length fO) ++ (wM b cA cB y2 mm ve rw jn ou fo go)) := hD
          refine lv_pop hx hb qd_L_law_97 rfl ?_
          refine lv_goto (tgt := 448) hx hb qd_L_law_98 (by decide) ?_
          refine lv_iinc (v := nI (i + 5)) (lv' := [(3, .int (nI (i + 5))), (0, .ref b0), (1, .ref (a 0)), (2, .ref (b 0))]) hx hb qd_L_law_448 hl (k := 3) rfl (by rw [show Int32.ofInt 5 = nI 5 from rfl]; first | exact nI_add i 5 | exact (nI_add i 5).symm) (by decide) rfl (fun ls hl => ?_)
          refine lv_goto (tgt := 18) hx hb qd_L_law_451 (by decide) ?_
          exact ih_1 ((i + 5), x2, ru, ma, jo, gv, tk, V, fV, R, fR, Lo, fO, n4, y2, mm, ve, rw, jn, ou, fo, go) H locs ls ⟨⟨by omega, by omega, hsr2, ⟨hxi.1, hxi.2.1, hxi.2.2.1, hxi.2.2.2.1, hxi.2.2.2.2.1, hxi.2.2.2.2.2.1, h64, hn4⟩, hmi2, sq_table hsq hr_3 hr_5⟩, hP, hD, hS, lv_sub hl [1, 2, 3, 0] rfl⟩
        · refine lv_tableIn (off := 69) (tgt := 101) hx hb qd_L_law_32 (by decide) (by decide) (by decide) (by decide) ?_
          refine lv_aload_n hx hb qd_L_law_101 rfl (lv_at hl 1 rfl) ?_
          refine lv_aload_n hx hb qd_L_law_102 rfl (lv_at hl 0 rfl) ?_
          refine lv_iload_n hx hb qd_L_law_103 rfl (lv_at hl 3 rfl) ?_
          refine lv_iconst (v := 1) hx hb qd_L_law_104 (by decide) ?_
          refine lv_iadd hx hb qd_L_law_105 ?_
          refine mk_rw (y := nI (i + 1)) (nI_add i 1) ?_
          refine va_sld hx hb hX hbl hbA hS (vp_in_nI (show i + 1 < L by omega) (by omega)) qd_L_law_106 ?_
          refine lv_aload_n hx hb qd_L_law_107 rfl (lv_at hl 0 rfl) ?_
          refine lv_iload_n hx hb qd_L_law_108 rfl (lv_at hl 3 rfl) ?_
          refine lv_iconst (v := 2) hx hb qd_L_law_109 (by decide) ?_
          refine lv_iadd hx hb qd_L_law_110 ?_
          refine mk_rw (y := nI (i + 2)) (nI_add i 2) ?_
          refine va_sld hx hb hX hbl hbA hS (vp_in_nI (show i + 2 < L by omega) (by omega)) qd_L_law_111 ?_
          refine mk_mcalli (wr := [((b 0), .inr (1, [.int (y 0), .int (y 1), .int (y 2), .int (y 3), .int (y 4), .int (y 5), .int (y 6), .ref (b 1), .int (y 8), .ref (b 2), .int (y 10), .ref (b 3), .ref (b 4), .int (y 13), .int (y 14), .int (y 15), .int (y 16), .int (y 17), .int (y 18), .int (y 19), .ref (b 5), .int (y 21), .ref (b 6), .ref (b 7)])), ((b 1), .inl (cA, 3, .inl mm)), ((b 2), .inl (cA, 640, .inl ve)), ((b 3), .inl (cA, 576, .inl rw)), ((b 4), .inl (cA, 576, .inl jn)), ((b 5), .inl (cA, 2200, .inl ou)), ((b 6), .inl (cA, 6, .inl fo)), ((b 7), .inl (cB, 160, .inl go))]) (wf := (fun u => ((wX a cA x u ma jo gv tk V.length fV R.length fR Lo.length fO) ++ (wM b cA cB y mm ve rw jn ou fo go)))) (va_runV (As := [.int (xs (nI (i + 1)).toNatClampNeg), .int (xs (nI (i + 2)).toNatClampNeg)]) (rest := []) ⟨hx, hb, hml, hown, hts⟩ (c_X_rule l dC dI cA H.size a x ru ma jo gv tk V.length fV R.length fR Lo.length fO (xs (nI (i + 1)).toNatClampNeg) (xs (nI (i + 2)).toNatClampNeg)) (cwV 2 hts gc_L_18 rfl rfl rfl (by decide +kernel) ⟨Nat.le_of_ble_eq_true rfl, Nat.le_of_ble_eq_true rfl⟩) (mk_muP hP hD [0, 1, 2, 3, 4, 5, 6, 7, 8, 9, 10, 11, 12] (by decide) rfl hKX (va_recv hKX hP (ci := 0) (q0 := 0) rfl rfl)) rfl rfl hl.1 rfl (lv_room (Nat.le_of_ble_eq_true rfl)) qd_L_law_112 ⟨hk9, hn9⟩) hS hA hP hD [0, 1, 2, 3, 4, 5, 6, 7, 8, 9, 10, 11, 12] [13, 14, 15, 16, 17, 18, 19, 20] [8, 9, 10, 11, 12, 13, 14, 15, 16, 17, 18, 19, 20, 0, 1, 2, 3, 4, 5, 6, 7] rfl rfl (by decide) (by decide) (by decide) (fun _ => rfl) (fun r_7 u_8 H locs hr_7 hP hD hS => ?_)
          obtain ⟨ru2, rfl⟩ : ∃ z, z = u_8 := ⟨_, rfl⟩
          have hP : va_P (dC, dI) vwCl ((wX a cA x ru2 ma jo gv tk V.length fV R.length fR Lo.length fO) ++ (wM b cA cB y mm ve rw jn ou fo go)) H := hP
          have hD : va_D A ((wX a cA x ru2 ma jo gv tk V.length fV R.length fR Lo.length fO) ++ (wM b cA cB y mm ve rw jn ou fo go)) := hD
          refine lv_pop hx hb qd_L_law_115 rfl ?_
          refine lv_aload_n hx hb qd_L_law_116 rfl (lv_at hl 2 rfl) ?_
          refine lv_aload_n hx hb qd_L_law_117 rfl (lv_at hl 0 rfl) ?_
          refine lv_iload_n hx hb qd_L_law_118 rfl (lv_at hl 3 rfl) ?_
          refine lv_iconst (v := 1) hx hb qd_L_law_119 (by decide) ?_
          refine lv_iadd hx hb qd_L_law_120 ?_
          refine mk_rw (y := nI (i + 1)) (nI_add i 1) ?_
          refine va_sld hx hb hX hbl hbA hS (vp_in_nI (show i + 1 < L by omega) (by omega)) qd_L_law_121 ?_
          refine lv_aload_n hx hb qd_L_law_122 rfl (lv_at hl 0 rfl) ?_
          refine lv_iload_n hx hb qd_L_law_123 rfl (lv_at hl 3 rfl) ?_
          refine lv_iconst (v := 2) hx hb qd_L_law_124 (by decide) ?_
          refine lv_iadd hx hb qd_L_law_125 ?_
          refine mk_rw (y := nI (i + 2)) (nI_add i 2) ?_
          refine va_sld hx hb hX hbl hbA hS (vp_in_nI (show i + 2 < L by omega) (by omega)) qd_L_law_126 ?_
          refine mk_mcalli (wr := [((a 0), .inr (0, [.ref (a 1), .ref (a 2), .ref (a 4), .ref (a 7), .ref (a 10), .ref (a 3), .int (x 6), .int (x 7), .int (x 8), .int (x 9), .int (x 10), .int (x 11), .int (x 12)])), ((a 1), .inl (cA, 4, .inl ru2)), ((a 2), .inl (cA, 3, .inl ma)), ((a 3), .inl (cA, 6, .inl jo)), ((a 4), .inr (5, [.ref (a 5)])), ((a 5), .inr (4, [.int (nI 3), .int (nI 160), .ref (a 6), .int (nI V.length)])), ((a 6), .inl (cA, (3 * 160), .inl fV)), ((a 7), .inr (3, [.ref (a 8)])), ((a 8), .inr (4, [.int (nI 12), .int (nI 96), .ref (a 9), .int (nI R.length)])), ((a 9), .inl (cA, (12 * 96), .inl fR)), ((a 10), .inr (2, [.ref (a 11), .int gv, .int tk])), ((a 11), .inr (4, [.int (nI 11), .int (nI 192), .ref (a 12), .int (nI Lo.length)])), ((a 12), .inl (cA, (11 * 192), .inl fO))]) (wf := (fun u => ((wX a cA x ru2 ma jo gv tk V.length fV R.length fR Lo.length fO) ++ (wM b cA cB u mm ve rw jn ou fo go)))) (va_runV (As := [.int (xs (nI (i + 1)).toNatClampNeg), .int (xs (nI (i + 2)).toNatClampNeg)]) (rest := []) ⟨hx, hb, hml, hown, hts⟩ (c_M_rule l dC dI cA H.size cB b y mm ve rw jn ou fo go (xs (nI (i + 1)).toNatClampNeg) (xs (nI (i + 2)).toNatClampNeg)) (cwV 2 hts gc_L_22 rfl rfl rfl (by decide +kernel) ⟨Nat.le_of_ble_eq_true rfl, Nat.le_of_ble_eq_true rfl⟩) (mk_muP hP hD [13, 14, 15, 16, 17, 18, 19, 20] (by decide) rfl hK (va_recv hK hP (ci := 1) (q0 := 13) rfl rfl)) rfl rfl hl.1 rfl (lv_room (Nat.le_of_ble_eq_true rfl)) qd_L_law_127 ⟨hk9, hn9⟩) hS hA hP hD [13, 14, 15, 16, 17, 18, 19, 20] [0, 1, 2, 3, 4, 5, 6, 7, 8, 9, 10, 11, 12] [0, 1, 2, 3, 4, 5, 6, 7, 8, 9, 10, 11, 12, 13, 14, 15, 16, 17, 18, 19, 20] rfl rfl (by decide) (by decide) (by decide) (fun _ => rfl) (fun r_9 u_10 H locs hr_9 hP hD hS => ?_)
          obtain ⟨y2, rfl⟩ : ∃ z, z = u_10 := ⟨_, rfl⟩
          obtain ⟨er, hsr2, hmi2⟩ := sr_rule hsr hmi hr_7 hr_9
          have hP : va_P (dC, dI) vwCl ((wX a cA x ru2 ma jo gv tk V.length fV R.length fR Lo.length fO) ++ (wM b cA cB y2 mm ve rw jn ou fo go)) H := hP
          have hD : va_D A ((wX a cA x ru2 ma jo gv tk V.length fV R.length fR Lo.length fO) ++ (wM b cA cB y2 mm ve rw jn ou fo go)) := hD
          refine lv_pop hx hb qd_L_law_130 rfl ?_
          refine lv_goto (tgt := 448) hx hb qd_L_law_131 (by decide) ?_
          refine lv_iinc (v := nI (i + 5)) (lv' := [(3, .int (nI (i + 5))), (0, .ref b0), (1, .ref (a 0)), (2, .ref (b 0))]) hx hb qd_L_law_448 hl (k := 3) rfl (by rw [show Int32.ofInt 5 = nI 5 from rfl]; first | exact nI_add i 5 | exact (nI_add i 5).symm) (by decide) rfl (fun ls hl => ?_)
          refine lv_goto (tgt := 18) hx hb qd_L_law_451 (by decide) ?_
          exact ih_1 ((i + 5), x, ru2, ma, jo, gv, tk, V, fV, R, fR, Lo, fO, n3, y2, mm, ve, rw, jn, ou, fo, go) H locs ls ⟨⟨by omega, by omega, hsr2, hxi, hmi2, sq_rule hsq hr_9⟩, hP, hD, hS, lv_sub hl [1, 2, 3, 0] rfl⟩
        · refine lv_tableIn (off := 102) (tgt := 134) hx hb qd_L_law_32 (by decide) (by decide) (by decide) (by decide) ?_
          refine lv_aload_n hx hb qd_L_law_134 rfl (lv_at hl 1 rfl) ?_
          refine lv_aload_n hx hb qd_L_law_135 rfl (lv_at hl 0 rfl) ?_
          refine lv_iload_n hx hb qd_L_law_136 rfl (lv_at hl 3 rfl) ?_
          refine lv_iconst (v := 1) hx hb qd_L_law_137 (by decide) ?_
          refine lv_iadd hx hb qd_L_law_138 ?_
          refine mk_rw (y := nI (i + 1)) (nI_add i 1) ?_
          refine va_sld hx hb hX hbl hbA hS (vp_in_nI (show i + 1 < L by omega) (by omega)) qd_L_law_139 ?_
          refine lv_aload_n hx hb qd_L_law_140 rfl (lv_at hl 0 rfl) ?_
          refine lv_iload_n hx hb qd_L_law_141 rfl (lv_at hl 3 rfl) ?_
          refine lv_iconst (v := 2) hx hb qd_L_law_142 (by decide) ?_
          refine lv_iadd hx hb qd_L_law_143 ?_
          refine mk_rw (y := nI (i + 2)) (nI_add i 2) ?_
          refine va_sld hx hb hX hbl hbA hS (vp_in_nI (show i + 2 < L by omega) (by omega)) qd_L_law_144 ?_
          refine lv_aload_n hx hb qd_L_law_145 rfl (lv_at hl 0 rfl) ?_
          refine lv_iload_n hx hb qd_L_law_146 rfl (lv_at hl 3 rfl) ?_
          refine lv_iconst (v := 3) hx hb qd_L_law_147 (by decide) ?_
          refine lv_iadd hx hb qd_L_law_148 ?_
          refine mk_rw (y := nI (i + 3)) (nI_add i 3) ?_
          refine va_sld hx hb hX hbl hbA hS (vp_in_nI (show i + 3 < L by omega) (by omega)) qd_L_law_149 ?_
          refine lv_aload_n hx hb qd_L_law_150 rfl (lv_at hl 0 rfl) ?_
          refine lv_iload_n hx hb qd_L_law_151 rfl (lv_at hl 3 rfl) ?_
          refine lv_iconst (v := 4) hx hb qd_L_law_152 (by decide) ?_
          refine lv_iadd hx hb qd_L_law_153 ?_
          refine mk_rw (y := nI (i + 4)) (nI_add i 4) ?_
          refine va_sld hx hb hX hbl hbA hS (vp_in_nI (show i + 4 < L by omega) (by omega)) qd_L_law_154 ?_
          refine mk_mcalli (wr := [((b 0), .inr (1, [.int (y 0), .int (y 1), .int (y 2), .int (y 3), .int (y 4), .int (y 5), .int (y 6), .ref (b 1), .int (y 8), .ref (b 2), .int (y 10), .ref (b 3), .ref (b 4), .int (y 13), .int (y 14), .int (y 15), .int (y 16), .int (y 17), .int (y 18), .int (y 19), .ref (b 5), .int (y 21), .ref (b 6), .ref (b 7)])), ((b 1), .inl (cA, 3, .inl mm)), ((b 2), .inl (cA, 640, .inl ve)), ((b 3), .inl (cA, 576, .inl rw)), ((b 4), .inl (cA, 576, .inl jn)), ((b 5), .inl (cA, 2200, .inl ou)), ((b 6), .inl (cA, 6, .inl fo)), ((b 7), .inl (cB, 160, .inl go))]) (wf := (fun u => ((wX a cA u.1 ru ma u.2.1 u.2.2.1 u.2.2.2.1 u.2.2.2.2.1.1.length u.2.2.2.2.1.2 u.2.2.2.2.2.1.1.length u.2.2.2.2.2.1.2 u.2.2.2.2.2.2.1.length u.2.2.2.2.2.2.2) ++ (wM b cA cB y mm ve rw jn ou fo go)))) (va_runV (As := [.int (xs (nI (i + 1)).toNatClampNeg), .int (xs (nI (i + 2)).toNatClampNeg), .int (xs (nI (i + 3)).toNatClampNeg), .int (xs (nI (i + 4)).toNatClampNeg)]) (rest := []) ⟨hx, hb, hml, hown, hts⟩ (c_X_change l dC dI cA H.size a x ru ma jo gv tk V fV R fR Lo fO n3 hxi (xs (nI (i + 1)).toNatClampNeg) (xs (nI (i + 2)).toNatClampNeg) (xs (nI (i + 3)).toNatClampNeg) (xs (nI (i + 4)).toNatClampNeg)) (cwV 4 hts gc_L_23 rfl rfl rfl (by decide +kernel) ⟨Nat.le_of_ble_eq_true rfl, Nat.le_of_ble_eq_true rfl⟩) (mk_muP hP hD [0, 1, 2, 3, 4, 5, 6, 7, 8, 9, 10, 11, 12] (by decide) rfl hKX (va_recv hKX hP (ci := 0) (q0 := 0) rfl rfl)) rfl rfl hl.1 rfl (lv_room (Nat.le_of_ble_eq_true rfl)) qd_L_law_155 ⟨hk9, hn9⟩) hS hA hP hD [0, 1, 2, 3, 4, 5, 6, 7, 8, 9, 10, 11, 12] [13, 14, 15, 16, 17, 18, 19, 20] [8, 9, 10, 11, 12, 13, 14, 15, 16, 17, 18, 19, 20, 0, 1, 2, 3, 4, 5, 6, 7] rfl rfl (by decide) (by decide) (by decide) (fun _ => rfl) (fun r_11 u_12 H locs hr_11 hP hD hS => ?_)
          obtain ⟨x2, jo2, gv2, tk2, ⟨V2, fV2⟩, ⟨R2, fR2⟩, ⟨Lo2, fO2⟩⟩ := u_12
          have hP : va_P (dC, dI) vwCl ((wX a cA x2 ru ma jo2 gv2 tk2 V2.length fV2 R2.length fR2 Lo2.length fO2) ++ (wM b cA cB y mm ve rw jn ou fo go)) H := hP
          have hD : va_D A ((wX a cA x2 ru ma jo2 gv2 tk2 V2.length fV2 R2.length fR2 Lo2.length fO2) ++ (wM b cA cB y mm ve rw jn ou fo go)) := hD
          refine lv_pop hx hb qd_L_law_158 rfl ?_
          refine lv_aload_n hx hb qd_L_law_159 rfl (lv_at hl 2 rfl) ?_
          refine lv_aload_n hx hb qd_L_law_160 rfl (lv_at hl 0 rfl) ?_
          refine lv_iload_n hx hb qd_L_law_161 rfl (lv_at hl 3 rfl) ?_
          refine lv_iconst (v := 1) hx hb qd_L_law_162 (by decide) ?_
          refine lv_iadd hx hb qd_L_law_163 ?_
          refine mk_rw (y := nI (i + 1)) (nI_add i 1) ?_
          refine va_sld hx hb hX hbl hbA hS (vp_in_nI (show i + 1 < L by omega) (by omega)) qd_L_law_164 ?_
          refine lv_aload_n hx hb qd_L_law_165 rfl (lv_at hl 0 rfl) ?_
          refine lv_iload_n hx hb qd_L_law_166 rfl (lv_at hl 3 rfl) ?_
          refine lv_iconst (v := 2) hx hb qd_L_law_167 (by decide) ?_
          refine lv_iadd hx hb qd_L_law_168 ?_
          refine mk_rw (y := nI (i + 2)) (nI_add i 2) ?_
          refine va_sld hx hb hX hbl hbA hS (vp_in_nI (show i + 2 < L by omega) (by omega)) qd_L_law_169 ?_
          refine lv_aload_n hx hb qd_L_law_170 rfl (lv_at hl 0 rfl) ?_
          refine lv_iload_n hx hb qd_L_law_171 rfl (lv_at hl 3 rfl) ?_
          refine lv_iconst (v := 3) hx hb qd_L_law_172 (by decide) ?_
          refine lv_iadd hx hb qd_L_law_173 ?_
          refine mk_rw (y := nI (i + 3)) (nI_add i 3) ?_
          refine va_sld hx hb hX hbl hbA hS (vp_in_nI (show i + 3 < L by omega) (by omega)) qd_L_law_174 ?_
          refine lv_aload_n hx hb qd_L_law_175 rfl (lv_at hl 0 rfl) ?_
          refine lv_iload_n hx hb qd_L_law_176 rfl (lv_at hl 3 rfl) ?_
          refine lv_iconst (v := 4) hx hb qd_L_law_177 (by decide) ?_
          refine lv_iadd hx hb qd_L_law_178 ?_
          refine mk_rw (y := nI (i + 4)) (nI_add i 4) ?_
          refine va_sld hx hb hX hbl hbA hS (vp_in_nI (show i + 4 < L by omega) (by omega)) qd_L_law_179 ?_
          refine mk_mcalli (wr := [((a 0), .inr (0, [.ref (a 1), .ref (a 2), .ref (a 4), .ref (a 7), .ref (a 10), .ref (a 3), .int (x2 6), .int (x2 7), .int (x2 8), .int (x2 9), .int (x2 10), .int (x2 11), .int (x2 12)])), ((a 1), .inl (cA, 4, .inl ru)), ((a 2), .inl (cA, 3, .inl ma)), ((a 3), .inl (cA, 6, .inl jo2)), ((a 4), .inr (5, [.ref (a 5)])), ((a 5), .inr (4, [.int (nI 3), .int (nI 160), .ref (a 6), .int (nI V2.length)])), ((a 6), .inl (cA, (3 * 160), .inl fV2)), ((a 7), .inr (3, [.ref (a 8)])), ((a 8), .inr (4, [.int (nI 12), .int (nI 96), .ref (a 9), .int (nI R2.length)])), ((a 9), .inl (cA, (12 * 96), .inl fR2)), ((a 10), .inr (2, [.ref (a 11), .int gv2, .int tk2])), ((a 11), .inr (4, [.int (nI 11), .int (nI 192), .ref (a 12), .int (nI Lo2.length)])), ((a 12), .inl (cA, (11 * 192), .inl fO2))]) (wf := (fun u => ((wX a cA x2 ru ma jo2 gv2 tk2 V2.length fV2 R2.length fR2 Lo2.length fO2) ++ (wM b cA cB u.1 mm u.2.1 u.2.2.1 u.2.2.2.1 u.2.2.2.2.1 u.2.2.2.2.2 go)))) (va_runV (As := [.int (xs (nI (i + 1)).toNatClampNeg), .int (xs (nI (i + 2)).toNatClampNeg), .int (xs (nI (i + 3)).toNatClampNeg), .int (xs (nI (i + 4)).toNatClampNeg)]) (rest := []) ⟨hx, hb, hml, hown, hts⟩ (c_M_change l dC dI cA H.size cB b y mm ve rw jn ou fo go hmi (xs (nI (i + 1)).toNatClampNeg) (xs (nI (i + 2)).toNatClampNeg) (xs (nI (i + 3)).toNatClampNeg) (xs (nI (i + 4)).toNatClampNeg)) (cwV 4 hts gc_L_27 rfl rfl rfl (by decide +kernel) ⟨Nat.le_of_ble_eq_true rfl, Nat.le_of_ble_eq_true rfl⟩) (mk_muP hP hD [13, 14, 15, 16, 17, 18, 19, 20] (by decide) rfl hK (va_recv hK hP (ci := 1) (q0 := 13) rfl rfl)) rfl rfl hl.1 rfl (lv_room (Nat.le_of_ble_eq_true rfl)) qd_L_law_180 ⟨hk9, hn9⟩) hS hA hP hD [13, 14, 15, 16, 17, 18, 19, 20] [0, 1, 2, 3, 4, 5, 6, 7, 8, 9, 10, 11, 12] [0, 1, 2, 3, 4, 5, 6, 7, 8, 9, 10, 11, 12, 13, 14, 15, 16, 17, 18, 19, 20] rfl rfl (by decide) (by decide) (by decide) (fun _ => rfl) (fun r_13 u_14 H locs hr_13 hP hD hS => ?_)
          obtain ⟨y2, ve2, rw2, jn2, ou2, fo2⟩ := u_14
          have hsr2 := sr_change h3 hsr h6 hmi hr_11.1 hr_13.1
          have hsq2 := sq_change hsq hr_11.1 hr_13.2.2
          have hP : va_P (dC, dI) vwCl ((wX a cA x2 ru ma jo2 gv2 tk2 V2.length fV2 R2.length fR2 Lo2.length fO2) ++ (wM b cA cB y2 mm ve2 rw2 jn2 ou2 fo2 go)) H := hP
          have hD : va_D A ((wX a cA x2 ru ma jo2 gv2 tk2 V2.length fV2 R2.length fR2 Lo2.length fO2) ++ (wM b cA cB y2 mm ve2 rw2 jn2 ou2 fo2 go)) := hD
          refine lv_pop hx hb qd_L_law_183 rfl ?_
          refine lv_goto (tgt := 448) hx hb qd_L_law_184 (by decide) ?_
          refine lv_iinc (v := nI (i + 5)) (lv' := [(3, .int (nI (i + 5))), (0, .ref b0), (1, .ref (a 0)), (2, .ref (b 0))]) hx hb qd_L_law_448 hl (k := 3) rfl (by rw [show Int32.ofInt 5 = nI 5 from rfl]; first | exact nI_add i 5 | exact (nI_add i 5).symm) (by decide) rfl (fun ls hl => ?_)
          refine lv_goto (tgt := 18) hx hb qd_L_law_451 (by decide) ?_
          exact ih_1 ((i + 5), x2, ru, ma, jo2, gv2, tk2, V2, fV2, R2, fR2, Lo2, fO2, n3, y2, mm, ve2, rw2, jn2, ou2, fo2, go) H locs ls ⟨⟨by omega, by omega, hsr2, hr_11.2, hr_13.2.1, hsq2⟩, hP, hD, hS, lv_sub hl [1, 2, 3, 0] rfl⟩
        · refine lv_tableIn (off := 155) (tgt := 187) hx hb qd_L_law_32 (by decide) (by decide) (by decide) (by decide) ?_
          refine lv_aload_n hx hb qd_L_law_187 rfl (lv_at hl 1 rfl) ?_
          refine lv_aload_n hx hb qd_L_law_188 rfl (lv_at hl 0 rfl) ?_
          refine lv_iload_n hx hb qd_L_law_189 rfl (lv_at hl 3 rfl) ?_
          refine lv_iconst (v := 1) hx hb qd_L_law_190 (by decide) ?_
          refine lv_iadd hx hb qd_L_law_191 ?_
          refine mk_rw (y := nI (i + 1)) (nI_add i 1) ?_
          refine va_sld hx hb hX hbl hbA hS (vp_in_nI (show i + 1 < L by omega) (by omega)) qd_L_law_192 ?_
          refine lv_aload_n hx hb qd_L_law_193 rfl (lv_at hl 0 rfl) ?_
          refine lv_iload_n hx hb qd_L_law_194 rfl (lv_at hl 3 rfl) ?_
          refine lv_iconst (v := 2) hx hb qd_L_law_195 (by decide) ?_
          refine lv_iadd hx hb qd_L_law_196 ?_
          refine mk_rw (y := nI (i + 2)) (nI_add i 2) ?_
          refine va_sld hx hb hX hbl hbA hS (vp_in_nI (show i + 2 < L by omega) (by omega)) qd_L_law_197 ?_
          refine lv_aload_n hx hb qd_L_law_198 rfl (lv_at hl 0 rfl) ?_
          refine lv_iload_n hx hb qd_L_law_199 rfl (lv_at hl 3 rfl) ?_
          refine lv_iconst (v := 3) hx hb qd_L_law_200 (by decide) ?_
          refine lv_iadd hx hb qd_L_law_201 ?_
          refine mk_rw (y := nI (i + 3)) (nI_add i 3) ?_
          refine va_sld hx hb hX hbl hbA hS (vp_in_nI (show i + 3 < L by omega) (by omega)) qd_L_law_202 ?_
          refine mk_mcalli (wr := [((b 0), .inr (1, [.int (y 0), .int (y 1), .int (y 2), .int (y 3), .int (y 4), .int (y 5), .int (y 6), .ref (b 1), .int (y 8), .ref (b 2), .int (y 10), .ref (b 3), .ref (b 4), .int (y 13), .int (y 14), .int (y 15), .int (y 16), .int (y 17), .int (y 18), .int (y 19), .ref (b 5), .int (y 21), .ref (b 6), .ref (b 7)])), ((b 1), .inl (cA, 3, .inl mm)), ((b 2), .inl (cA, 640, .inl ve)), ((b 3), .inl (cA, 576, .inl rw)), ((b 4), .inl (cA, 576, .inl jn)), ((b 5), .inl (cA, 2200, .inl ou)), ((b 6), .inl (cA, 6, .inl fo)), ((b 7), .inl (cB, 160, .inl go))]) (wf := (fun u => ((wX a cA u.1 ru ma u.2.1 u.2.2.1 tk V.length fV u.2.2.2.1.1.length u.2.2.2.1.2 u.2.2.2.2.1.length u.2.2.2.2.2) ++ (wM b cA cB y mm ve rw jn ou fo go)))) (va_runV (As := [.int (xs (nI (i + 1)).toNatClampNeg), .int (xs (nI (i + 2)).toNatClampNeg), .int (xs (nI (i + 3)).toNatClampNeg)]) (rest := []) ⟨hx, hb, hml, hown, hts⟩ (c_X_row l dC dI cA H.size a x ru ma jo gv tk V fV R fR Lo fO n3 hxi (xs (nI (i + 1)).toNatClampNeg) (xs (nI (i + 2)).toNatClampNeg) (xs (nI (i + 3)).toNatClampNeg)) (cwV 3 hts gc_L_28 rfl rfl rfl (by decide +kernel) ⟨Nat.le_of_ble_eq_true rfl, Nat.le_of_ble_eq_true rfl⟩) (mk_muP hP hD [0, 1, 2, 3, 4, 5, 6, 7, 8, 9, 10, 11, 12] (by decide) rfl hKX (va_recv hKX hP (ci := 0) (q0 := 0) rfl rfl)) rfl rfl hl.1 rfl (lv_room (Nat.le_of_ble_eq_true rfl)) qd_L_law_203 ⟨hk9, hn9⟩) hS hA hP hD [0, 1, 2, 3, 4, 5, 6, 7, 8, 9, 10, 11, 12] [13, 14, 15, 16, 17, 18, 19, 20] [8, 9, 10, 11, 12, 13, 14, 15, 16, 17, 18, 19, 20, 0, 1, 2, 3, 4, 5, 6, 7] rfl rfl (by decide) (by decide) (by decide) (fun _ => rfl) (fun r_15 u_16 H locs hr_15 hP hD hS => ?_)
          obtain ⟨x2, jo2, gv2, ⟨R2, fR2⟩, ⟨Lo2, fO2⟩⟩ := u_16
          have hP : va_P (dC, dI) vwCl ((wX a cA x2 ru ma jo2 gv2 tk V.length fV R2.length fR2 Lo2.length fO2) ++ (wM b cA cB y mm ve rw jn ou fo go)) H := hP
          have hD : va_D A ((wX a cA x2 ru ma jo2 gv2 tk V.length fV R2.length fR2 Lo2.length fO2) ++ (wM b cA cB y mm ve rw jn ou fo go)) := hD
          refine lv_aload_n hx hb qd_L_law_206 rfl (lv_at hl 2 rfl) ?_
          refine lv_aload_n hx hb qd_L_law_207 rfl (lv_at hl 0 rfl) ?_
          refine lv_iload_n hx hb qd_L_law_208 rfl (lv_at hl 3 rfl) ?_
          refine lv_iconst (v := 1) hx hb qd_L_law_209 (by decide) ?_
          refine lv_iadd hx hb qd_L_law_210 ?_
          refine mk_rw (y := nI (i + 1)) (nI_add i 1) ?_
          refine va_sld hx hb hX hbl hbA hS (vp_in_nI (show i + 1 < L by omega) (by omega)) qd_L_law_211 ?_
          refine lv_aload_n hx hb qd_L_law_212 rfl (lv_at hl 0 rfl) ?_
          refine lv_iload_n hx hb qd_L_law_213 rfl (lv_at hl 3 rfl) ?_
          refine lv_iconst (v := 2) hx hb qd_L_law_214 (by decide) ?_
          refine lv_iadd hx hb qd_L_law_215 ?_
          refine mk_rw (y := nI (i + 2)) (nI_add i 2) ?_
          refine va_sld hx hb hX hbl hbA hS (vp_in_nI (show i + 2 < L by omega) (by omega)) qd_L_law_216 ?_
          refine lv_aload_n hx hb qd_L_law_217 rfl (lv_at hl 0 rfl) ?_
          refine lv_iload_n hx hb qd_L_law_218 rfl (lv_at hl 3 rfl) ?_
          refine lv_iconst (v := 3) hx hb qd_L_law_219 (by decide) ?_
          refine lv_iadd hx hb qd_L_law_220 ?_
          refine mk_rw (y := nI (i + 3)) (nI_add i 3) ?_
          refine va_sld hx hb hX hbl hbA hS (vp_in_nI (show i + 3 < L by omega) (by omega)) qd_L_law_221 ?_
          refine mk_mcalli (wr := [((a 0), .inr (0, [.ref (a 1), .ref (a 2), .ref (a 4), .ref (a 7), .ref (a 10), .ref (a 3), .int (x2 6), .int (x2 7), .int (x2 8), .int (x2 9), .int (x2 10), .int (x2 11), .int (x2 12)])), ((a 1), .inl (cA, 4, .inl ru)), ((a 2), .inl (cA, 3, .inl ma)), ((a 3), .inl (cA, 6, .inl jo2)), ((a 4), .inr (5, [.ref (a 5)])), ((a 5), .inr (4, [.int (nI 3), .int (nI 160), .ref (a 6), .int (nI V.length)])), ((a 6), .inl (cA, (3 * 160), .inl fV)), ((a 7), .inr (3, [.ref (a 8)])), ((a 8), .inr (4, [.int (nI 12), .int (nI 96), .ref (a 9), .int (nI R2.length)])), ((a 9), .inl (cA, (12 * 96), .inl fR2)), ((a 10), .inr (2, [.ref (a 11), .int gv2, .int tk])), ((a 11), .inr (4, [.int (nI 11), .int (nI 192), .ref (a 12), .int (nI Lo2.length)])), ((a 12), .inl (cA, (11 * 192), .inl fO2))]) (wf := (fun u => ((wX a cA x2 ru ma jo2 gv2 tk V.length fV R2.length fR2 Lo2.length fO2) ++ (wM b cA cB u.1 mm ve u.2.1 u.2.2.1 u.2.2.2.1 u.2.2.2.2 go)))) (va_runV (As := [.int (xs (nI (i + 1)).toNatClampNeg), .int (xs (nI (i + 2)).toNatClampNeg), .int (xs (nI (i + 3)).toNatClampNeg)]) (rest := [.int r_15]) ⟨hx, hb, hml, hown, hts⟩ (c_M_row l dC dI cA H.size cB b y mm ve rw jn ou fo go hmi (xs (nI (i + 1)).toNatClampNeg) (xs (nI (i + 2)).toNatClampNeg) (xs (nI (i + 3)).toNatClampNeg)) (cwV 3 hts gc_L_32 rfl rfl rfl (by decide +kernel) ⟨Nat.le_of_ble_eq_true rfl, Nat.le_of_ble_eq_true rfl⟩) (mk_muP hP hD [13, 14, 15, 16, 17, 18, 19, 20] (by decide) rfl hK (va_recv hK hP (ci := 1) (q0 := 13) rfl rfl)) rfl rfl hl.1 rfl (lv_room (Nat.le_of_ble_eq_true rfl)) qd_L_law_222 ⟨hk9, hn9⟩) hS hA hP hD [13, 14, 15, 16, 17, 18, 19, 20] [0, 1, 2, 3, 4, 5, 6, 7, 8, 9, 10, 11, 12] [0, 1, 2, 3, 4, 5, 6, 7, 8, 9, 10, 11, 12, 13, 14, 15, 16, 17, 18, 19, 20] rfl rfl (by decide) (by decide) (by decide) (fun _ => rfl) (fun r_17 u_18 H locs hr_17 hP hD hS => ?_)
          obtain ⟨y2, rw2, jn2, ou2, fo2⟩ := u_18
          have hsr2 := sr_row hsr hmi hr_15.1 hr_17.1
          obtain ⟨er, hsq2⟩ := sq_row h3 hsr h6 hsq hmi hr_15.1 hr_17.1 hr_17.2.2
          have hP : va_P (dC, dI) vwCl ((wX a cA x2 ru ma jo2 gv2 tk V.length fV R2.length fR2 Lo2.length fO2) ++ (wM b cA cB y2 mm ve rw2 jn2 ou2 fo2 go)) H := hP
          have hD : va_D A ((wX a cA x2 ru ma jo2 gv2 tk V.length fV R2.length fR2 Lo2.length fO2) ++ (wM b cA cB y2 mm ve rw2 jn2 ou2 fo2 go)) := hD
          refine lv_icmp_eq (tgt := 448) hx hb qd_L_law_225 (by decide) (fun c_19 => ?_) (fun c_19 => ?_)
          · refine lv_iinc (v := nI (i + 5)) (lv' := [(3, .int (nI (i + 5))), (0, .ref b0), (1, .ref (a 0)), (2, .ref (b 0))]) hx hb qd_L_law_448 hl (k := 3) rfl (by rw [show Int32.ofInt 5 = nI 5 from rfl]; first | exact nI_add i 5 | exact (nI_add i 5).symm) (by decide) rfl (fun ls hl => ?_)
            refine lv_goto (tgt := 18) hx hb qd_L_law_451 (by decide) ?_
            exact ih_1 ((i + 5), x2, ru, ma, jo2, gv2, tk, V, fV, R2, fR2, Lo2, fO2, n3, y2, mm, ve, rw2, jn2, ou2, fo2, go) H locs ls ⟨⟨by omega, by omega, hsr2, hr_15.2, hr_17.2.1, hsq2⟩, hP, hD, hS, lv_sub hl [1, 2, 3, 0] rfl⟩
          · refine lv_iconst (v := 0) hx hb qd_L_law_228 (by decide) ?_
            exact absurd er c_19
        · refine lv_tableIn (off := 198) (tgt := 230) hx hb qd_L_law_32 (by decide) (by decide) (by decide) (by decide) ?_
          refine lv_aload_n hx hb qd_L_law_230 rfl (lv_at hl 1 rfl) ?_
          refine lv_aload_n hx hb qd_L_law_231 rfl (lv_at hl 0 rfl) ?_
          refine lv_iload_n hx hb qd_L_law_232 rfl (lv_at hl 3 rfl) ?_
          refine lv_iconst (v := 1) hx hb qd_L_law_233 (by decide) ?_
          refine lv_iadd hx hb qd_L_law_234 ?_
          refine mk_rw (y := nI (i + 1)) (nI_add i 1) ?_
          refine va_sld hx hb hX hbl hbA hS (vp_in_nI (show i + 1 < L by omega) (by omega)) qd_L_law_235 ?_
          refine lv_aload_n hx hb qd_L_law_236 rfl (lv_at hl 0 rfl) ?_
          refine lv_iload_n hx hb qd_L_law_237 rfl (lv_at hl 3 rfl) ?_
          refine lv_iconst (v := 2) hx hb qd_L_law_238 (by decide) ?_
          refine lv_iadd hx hb qd_L_law_239 ?_
          refine mk_rw (y := nI (i + 2)) (nI_add i 2) ?_
          refine va_sld hx hb hX hbl hbA hS (vp_in_nI (show i + 2 < L by omega) (by omega)) qd_L_law_240 ?_
          refine mk_mcalli (wr := [((b 0), .inr (1, [.int (y 0), .int (y 1), .int (y 2), .int (y 3), .int (y 4), .int (y 5), .int (y 6), .ref (b 1), .int (y 8), .ref (b 2), .int (y 10), .ref (b 3), .ref (b 4), .int (y 13), .int (y 14), .int (y 15), .int (y 16), .int (y 17), .int (y 18), .int (y 19), .ref (b 5), .int (y 21), .ref (b 6), .ref (b 7)])), ((b 1), .inl (cA, 3, .inl mm)), ((b 2), .inl (cA, 640, .inl ve)), ((b 3), .inl (cA, 576, .inl rw)), ((b 4), .inl (cA, 576, .inl jn)), ((b 5), .inl (cA, 2200, .inl ou)), ((b 6), .inl (cA, 6, .inl fo)), ((b 7), .inl (cB, 160, .inl go))]) (wf := (fun u => ((wX a cA u.1 ru u.2.1 u.2.2.1 u.2.2.2.1 tk u.2.2.2.2.1.1.length u.2.2.2.2.1.2 u.2.2.2.2.2.1.1.length u.2.2.2.2.2.1.2 u.2.2.2.2.2.2.1.length u.2.2.2.2.2.2.2) ++ (wM b cA cB y mm ve rw jn ou fo go)))) (va_runV (As := [.int (xs (nI (i + 1)).toNatClampNeg), .int (xs (nI (i + 2)).toNatClampNeg)]) (rest := []) ⟨hx, hb, hml, hown, hts⟩ (c_X_mark l dC dI cA H.size a x ru ma jo gv tk V fV R fR Lo fO n3 hxi (xs (nI (i + 1)).toNatClampNeg) (xs (nI (i + 2)).toNatClampNeg)) (cwV 2 hts gc_L_33 rfl rfl rfl (by decide +kernel) ⟨Nat.le_of_ble_eq_true rfl, Nat.le_of_ble_eq_true rfl⟩) (mk_muP hP hD [0, 1, 2, 3, 4, 5, 6, 7, 8, 9, 10, 11, 12] (by decide) rfl hKX (va_recv hKX hP (ci := 0) (q0 := 0) rfl rfl)) rfl rfl hl.1 rfl (lv_room (Nat.le_of_ble_eq_true rfl)) qd_L_law_241 ⟨hk9, hn9⟩) hS hA hP hD [0, 1, 2, 3, 4, 5, 6, 7, 8, 9, 10, 11, 12] [13, 14, 15, 16, 17, 18, 19, 20] [8, 9, 10, 11, 12, 13, 14, 15, 16, 17, 18, 19, 20, 0, 1, 2, 3, 4, 5, 6, 7] rfl rfl (by decide) (by decide) (by decide) (fun _ => rfl) (fun r_20 u_21 H locs hr_20 hP hD hS => ?_)
          obtain ⟨x2, ma2, jo2, gv2, ⟨V2, fV2⟩, ⟨R2, fR2⟩, ⟨Lo2, fO2⟩⟩ := u_21
          have hP : va_P (dC, dI) vwCl ((wX a cA x2 ru ma2 jo2 gv2 tk V2.length fV2 R2.length fR2 Lo2.length fO2) ++ (wM b cA cB y mm ve rw jn ou fo go)) H := hP
          have hD : va_D A ((wX a cA x2 ru ma2 jo2 gv2 tk V2.length fV2 R2.length fR2 Lo2.length fO2) ++ (wM b cA cB y mm ve rw jn ou fo go)) := hD
          refine lv_pop hx hb qd_L_law_244 rfl ?_
          refine lv_aload_n hx hb qd_L_law_245 rfl (lv_at hl 2 rfl) ?_
          refine lv_aload_n hx hb qd_L_law_246 rfl (lv_at hl 0 rfl) ?_
          refine lv_iload_n hx hb qd_L_law_247 rfl (lv_at hl 3 rfl) ?_
          refine lv_iconst (v := 1) hx hb qd_L_law_248 (by decide) ?_
          refine lv_iadd hx hb qd_L_law_249 ?_
          refine mk_rw (y := nI (i + 1)) (nI_add i 1) ?_
          refine va_sld hx hb hX hbl hbA hS (vp_in_nI (show i + 1 < L by omega) (by omega)) qd_L_law_250 ?_
          refine lv_aload_n hx hb qd_L_law_251 rfl (lv_at hl 0 rfl) ?_
          refine lv_iload_n hx hb qd_L_law_252 rfl (lv_at hl 3 rfl) ?_
          refine lv_iconst (v := 2) hx hb qd_L_law_253 (by decide) ?_
          refine lv_iadd hx hb qd_L_law_254 ?_
          refine mk_rw (y := nI (i + 2)) (nI_add i 2) ?_
          refine va_sld hx hb hX hbl hbA hS (vp_in_nI (show i + 2 < L by omega) (by omega)) qd_L_law_255 ?_
          refine mk_mcalli (wr := [((a 0), .inr (0, [.ref (a 1), .ref (a 2), .ref (a 4), .ref (a 7), .ref (a 10), .ref (a 3), .int (x2 6), .int (x2 7), .int (x2 8), .int (x2 9), .int (x2 10), .int (x2 11), .int (x2 12)])), ((a 1), .inl (cA, 4, .inl ru)), ((a 2), .inl (cA, 3, .inl ma2)), ((a 3), .inl (cA, 6, .inl jo2)), ((a 4), .inr (5, [.ref (a 5)])), ((a 5), .inr (4, [.int (nI 3), .int (nI 160), .ref (a 6), .int (nI V2.length)])), ((a 6), .inl (cA, (3 * 160), .inl fV2)), ((a 7), .inr (3, [.ref (a 8)])), ((a 8), .inr (4, [.int (nI 12), .int (nI 96), .ref (a 9), .int (nI R2.length)])), ((a 9), .inl (cA, (12 * 96), .inl fR2)), ((a 10), .inr (2, [.ref (a 11), .int gv2, .int tk])), ((a 11), .inr (4, [.int (nI 11), .int (nI 192), .ref (a 12), .int (nI Lo2.length)])), ((a 12), .inl (cA, (11 * 192), .inl fO2))]) (wf := (fun u => ((wX a cA x2 ru ma2 jo2 gv2 tk V2.length fV2 R2.length fR2 Lo2.length fO2) ++ (wM b cA cB u.1 u.2.1 u.2.2.1 u.2.2.2.1 u.2.2.2.2.1 u.2.2.2.2.2.1 u.2.2.2.2.2.2.1 u.2.2.2.2.2.2.2)))) (va_runV (As := [.int (xs (nI (i + 1)).toNatClampNeg), .int (xs (nI (i + 2)).toNatClampNeg)]) (rest := []) ⟨hx, hb, hml, hown, hts⟩ (c_M_mark l dC dI cA H.size cB b y mm ve rw jn ou fo go hmi (xs (nI (i + 1)).toNatClampNeg) (xs (nI (i + 2)).toNatClampNeg)) (cwV 2 hts gc_L_36 rfl rfl rfl (by decide +kernel) ⟨Nat.le_of_ble_eq_true rfl, Nat.le_of_ble_eq_true rfl⟩) (mk_muP hP hD [13, 14, 15, 16, 17, 18, 19, 20] (by decide) rfl hK (va_recv hK hP (ci := 1) (q0 := 13) rfl rfl)) rfl rfl hl.1 rfl (lv_room (Nat.le_of_ble_eq_true rfl)) qd_L_law_256 ⟨hk9, hn9⟩) hS hA hP hD [13, 14, 15, 16, 17, 18, 19, 20] [0, 1, 2, 3, 4, 5, 6, 7, 8, 9, 10, 11, 12] [0, 1, 2, 3, 4, 5, 6, 7, 8, 9, 10, 11, 12, 13, 14, 15, 16, 17, 18, 19, 20] rfl rfl (by decide) (by decide) (by decide) (fun _ => rfl) (fun r_22 u_23 H locs hr_22 hP hD hS => ?_)
          obtain ⟨y2, mm2, ve2, rw2, jn2, ou2, fo2, go2⟩ := u_23
          obtain ⟨er, hsr2⟩ := sr_mark h3 (ve := ve) (rw := rw) hsr h6 hr_20.1 hr_22.1
          have hsq2 := sq_mark h3 hsr hsr2 h6 hsq hr_20.1 hr_22.2.2
          have hP : va_P (dC, dI) vwCl ((wX a cA x2 ru ma2 jo2 gv2 tk V2.length fV2 R2.length fR2 Lo2.length fO2) ++ (wM b cA cB y2 mm2 ve2 rw2 jn2 ou2 fo2 go2)) H := hP
          have hD : va_D A ((wX a cA x2 ru ma2 jo2 gv2 tk V2.length fV2 R2.length fR2 Lo2.length fO2) ++ (wM b cA cB y2 mm2 ve2 rw2 jn2 ou2 fo2 go2)) := hD
          refine lv_pop hx hb qd_L_law_259 rfl ?_
          refine lv_goto (tgt := 448) hx hb qd_L_law_260 (by decide) ?_
          refine lv_iinc (v := nI (i + 5)) (lv' := [(3, .int (nI (i + 5))), (0, .ref b0), (1, .ref (a 0)), (2, .ref (b 0))]) hx hb qd_L_law_448 hl (k := 3) rfl (by rw [show Int32.ofInt 5 = nI 5 from rfl]; first | exact nI_add i 5 | exact (nI_add i 5).symm) (by decide) rfl (fun ls hl => ?_)
          refine lv_goto (tgt := 18) hx hb qd_L_law_451 (by decide) ?_
          exact ih_1 ((i + 5), x2, ru, ma2, jo2, gv2, tk, V2, fV2, R2, fR2, Lo2, fO2, n3, y2, mm2, ve2, rw2, jn2, ou2, fo2, go2) H locs ls ⟨⟨by omega, by omega, hsr2, hr_20.2, hr_22.2.1, hsq2⟩, hP, hD, hS, lv_sub hl [1, 2, 3, 0] rfl⟩
        · refine lv_tableIn (off := 231) (tgt := 263) hx hb qd_L_law_32 (by decide) (by decide) (by decide) (by decide) ?_
          refine lv_aload_n hx hb qd_L_law_263 rfl (lv_at hl 1 rfl) ?_
          refine lv_aload_n hx hb qd_L_law_264 rfl (lv_at hl 0 rfl) ?_
          refine lv_iload_n hx hb qd_L_law_265 rfl (lv_at hl 3 rfl) ?_
          refine lv_iconst (v := 1) hx hb qd_L_law_266 (by decide) ?_
          refine lv_iadd hx hb qd_L_law_267 ?_
          refine mk_rw (y := nI (i + 1)) (nI_add i 1) ?_
          refine va_sld hx hb hX hbl hbA hS (vp_in_nI (show i + 1 < L by omega) (by omega)) qd_L_law_268 ?_
          refine lv_aload_n hx hb qd_L_law_269 rfl (lv_at hl 0 rfl) ?_
          refine lv_iload_n hx hb qd_L_law_270 rfl (lv_at hl 3 rfl) ?_
          refine lv_iconst (v := 2) hx hb qd_L_law_271 (by decide) ?_
          refine lv_iadd hx hb qd_L_law_272 ?_
          refine mk_rw (y := nI (i + 2)) (nI_add i 2) ?_
          refine va_sld hx hb hX hbl hbA hS (vp_in_nI (show i + 2 < L by omega) (by omega)) qd_L_law_273 ?_
          refine mk_calli (va_runV (As := [.int (xs (nI (i + 1)).toNatClampNeg), .int (xs (nI (i + 2)).toNatClampNeg)]) (rest := []) ⟨hx, hb, hml, hown, hts⟩ (c_X_out l dC dI cA H.size a x ru ma jo gv tk V fV R fR Lo fO n3 hxi (xs (nI (i + 1)).toNatClampNeg) (xs (nI (i + 2)).toNatClampNeg)) (cwV 2 hts gc_L_37 rfl rfl rfl (by decide +kernel) ⟨Nat.le_of_ble_eq_true rfl, Nat.le_of_ble_eq_true rfl⟩) (mk_roV hP [0, 1, 2, 3, 4, 5, 6, 7, 8, 9, 10, 11, 12] rfl hKX (va_recv hKX hP (ci := 0) (q0 := 0) rfl rfl)) rfl rfl hl.1 rfl (lv_room (Nat.le_of_ble_eq_true rfl)) qd_L_law_274 ⟨hk9, hn9⟩) hS hA hP (fun r_24 H locs hr_24 hP hS => ?_)
          refine lv_pop hx hb qd_L_law_277 rfl ?_
          refine lv_aload_n hx hb qd_L_law_278 rfl (lv_at hl 2 rfl) ?_
          refine lv_aload_n hx hb qd_L_law_279 rfl (lv_at hl 0 rfl) ?_
          refine lv_iload_n hx hb qd_L_law_280 rfl (lv_at hl 3 rfl) ?_
          refine lv_iconst (v := 1) hx hb qd_L_law_281 (by decide) ?_
          refine lv_iadd hx hb qd_L_law_282 ?_
          refine mk_rw (y := nI (i + 1)) (nI_add i 1) ?_
          refine va_sld hx hb hX hbl hbA hS (vp_in_nI (show i + 1 < L by omega) (by omega)) qd_L_law_283 ?_
          refine lv_aload_n hx hb qd_L_law_284 rfl (lv_at hl 0 rfl) ?_
          refine lv_iload_n hx hb qd_L_law_285 rfl (lv_at hl 3 rfl) ?_
          refine lv_iconst (v := 2) hx hb qd_L_law_286 (by decide) ?_
          refine lv_iadd hx hb qd_L_law_287 ?_
          refine mk_rw (y := nI (i + 2)) (nI_add i 2) ?_
          refine va_sld hx hb hX hbl hbA hS (vp_in_nI (show i + 2 < L by omega) (by omega)) qd_L_law_288 ?_
          refine mk_mcalli (wr := [((a 0), .inr (0, [.ref (a 1), .ref (a 2), .ref (a 4), .ref (a 7), .ref (a 10), .ref (a 3), .int (x 6), .int (x 7), .int (x 8), .int (x 9), .int (x 10), .int (x 11), .int (x 12)])), ((a 1), .inl (cA, 4, .inl ru)), ((a 2), .inl (cA, 3, .inl ma)), ((a 3), .inl (cA, 6, .inl jo)), ((a 4), .inr (5, [.ref (a 5)])), ((a 5), .inr (4, [.int (nI 3), .int (nI 160), .ref (a 6), .int (nI V.length)])), ((a 6), .inl (cA, (3 * 160), .inl fV)), ((a 7), .inr (3, [.ref (a 8)])), ((a 8), .inr (4, [.int (nI 12), .int (nI 96), .ref (a 9), .int (nI R.length)])), ((a 9), .inl (cA, (12 * 96), .inl fR)), ((a 10), .inr (2, [.ref (a 11), .int gv, .int tk])), ((a 11), .inr (4, [.int (nI 11), .int (nI 192), .ref (a 12), .int (nI Lo.length)])), ((a 12), .inl (cA, (11 * 192), .inl fO))]) (wf := (fun u => ((wX a cA x ru ma jo gv tk V.length fV R.length fR Lo.length fO) ++ (wM b cA cB u mm ve rw jn ou fo go)))) (va_runV (As := [.int (xs (nI (i + 1)).toNatClampNeg), .int (xs (nI (i + 2)).toNatClampNeg)]) (rest := []) ⟨hx, hb, hml, hown, hts⟩ (c_M_out l dC dI cA H.size cB b y mm ve rw jn ou fo go hmi (xs (nI (i + 1)).toNatClampNeg) (xs (nI (i + 2)).toNatClampNeg)) (cwV 2 hts gc_L_40 rfl rfl rfl (by decide +kernel) ⟨Nat.le_of_ble_eq_true rfl, Nat.le_of_ble_eq_true rfl⟩) (mk_muP hP hD [13, 14, 15, 16, 17, 18, 19, 20] (by decide) rfl hK (va_recv hK hP (ci := 1) (q0 := 13) rfl rfl)) rfl rfl hl.1 rfl (lv_room (Nat.le_of_ble_eq_true rfl)) qd_L_law_289 ⟨hk9, hn9⟩) hS hA hP hD [13, 14, 15, 16, 17, 18, 19, 20] [0, 1, 2, 3, 4, 5, 6, 7, 8, 9, 10, 11, 12] [0, 1, 2, 3, 4, 5, 6, 7, 8, 9, 10, 11, 12, 13, 14, 15, 16, 17, 18, 19, 20] rfl rfl (by decide) (by decide) (by decide) (fun _ => rfl) (fun r_25 u_26 H locs hr_25 hP hD hS => ?_)
          obtain ⟨y2, hy2⟩ : ∃ z, z = u_26 := ⟨_, rfl⟩
          subst hy2
          have hy9 : y2 = upd y 0 0 := hr_25.1
          have hP : va_P (dC, dI) vwCl ((wX a cA x ru ma jo gv tk V.length fV R.length fR Lo.length fO) ++ (wM b cA cB y2 mm ve rw jn ou fo go)) H := hP
          have hD : va_D A ((wX a cA x ru ma jo gv tk V.length fV R.length fR Lo.length fO) ++ (wM b cA cB y2 mm ve rw jn ou fo go)) := hD
          refine lv_pop hx hb qd_L_law_292 rfl ?_
          refine lv_goto (tgt := 448) hx hb qd_L_law_293 (by decide) ?_
          refine lv_iinc (v := nI (i + 5)) (lv' := [(3, .int (nI (i + 5))), (0, .ref b0), (1, .ref (a 0)), (2, .ref (b 0))]) hx hb qd_L_law_448 hl (k := 3) rfl (by rw [show Int32.ofInt 5 = nI 5 from rfl]; first | exact nI_add i 5 | exact (nI_add i 5).symm) (by decide) rfl (fun ls hl => ?_)
          refine lv_goto (tgt := 18) hx hb qd_L_law_451 (by decide) ?_
          exact ih_1 ((i + 5), x, ru, ma, jo, gv, tk, V, fV, R, fR, Lo, fO, n3, y2, mm, ve, rw, jn, ou, fo, go) H locs ls ⟨⟨by omega, by omega, (by rw [hy9]; exact sr_read hsr), hxi, (by rw [hy9]; exact mi_keep hmi rfl rfl rfl rfl rfl rfl), (by rw [hy9]; exact sq_same hsq rfl rfl rfl)⟩, hP, hD, hS, lv_sub hl [1, 2, 3, 0] rfl⟩
        · refine lv_tableIn (off := 264) (tgt := 296) hx hb qd_L_law_32 (by decide) (by decide) (by decide) (by decide) ?_
          refine lv_aload_n hx hb qd_L_law_296 rfl (lv_at hl 1 rfl) ?_
          refine lv_aload_n hx hb qd_L_law_297 rfl (lv_at hl 0 rfl) ?_
          refine lv_iload_n hx hb qd_L_law_298 rfl (lv_at hl 3 rfl) ?_
          refine lv_iconst (v := 1) hx hb qd_L_law_299 (by decide) ?_
          refine lv_iadd hx hb qd_L_law_300 ?_
          refine mk_rw (y := nI (i + 1)) (nI_add i 1) ?_
          refine va_sld hx hb hX hbl hbA hS (vp_in_nI (show i + 1 < L by omega) (by omega)) qd_L_law_301 ?_
          refine lv_aload_n hx hb qd_L_law_302 rfl (lv_at hl 0 rfl) ?_
          refine lv_iload_n hx hb qd_L_law_303 rfl (lv_at hl 3 rfl) ?_
          refine lv_iconst (v := 2) hx hb qd_L_law_304 (by decide) ?_
          refine lv_iadd hx hb qd_L_law_305 ?_
          refine mk_rw (y := nI (i + 2)) (nI_add i 2) ?_
          refine va_sld hx hb hX hbl hbA hS (vp_in_nI (show i + 2 < L by omega) (by omega)) qd_L_law_306 ?_
          refine lv_aload_n hx hb qd_L_law_307 rfl (lv_at hl 0 rfl) ?_
          refine lv_iload_n hx hb qd_L_law_308 rfl (lv_at hl 3 rfl) ?_
          refine lv_iconst (v := 3) hx hb qd_L_law_309 (by decide) ?_
          refine lv_iadd hx hb qd_L_law_310 ?_
          refine mk_rw (y := nI (i + 3)) (nI_add i 3) ?_
          refine va_sld hx hb hX hbl hbA hS (vp_in_nI (show i + 3 < L by omega) (by omega)) qd_L_law_311 ?_
          refine mk_calli (va_runV (As := [.int (xs (nI (i + 1)).toNatClampNeg), .int (xs (nI (i + 2)).toNatClampNeg), .int (xs (nI (i + 3)).toNatClampNeg)]) (rest := []) ⟨hx, hb, hml, hown, hts⟩ (c_X_asOf l dC dI cA H.size a x ru ma jo gv tk V fV R fR Lo fO n3 hxi (xs (nI (i + 1)).toNatClampNeg) (xs (nI (i + 2)).toNatClampNeg) (xs (nI (i + 3)).toNatClampNeg)) (cwV 3 hts gc_L_41 rfl rfl rfl (by decide +kernel) ⟨Nat.le_of_ble_eq_true rfl, Nat.le_of_ble_eq_true rfl⟩) (mk_roV hP [0, 1, 2, 3, 4, 5, 6, 7, 8, 9, 10, 11, 12] rfl hKX (va_recv hKX hP (ci := 0) (q0 := 0) rfl rfl)) rfl rfl hl.1 rfl (lv_room (Nat.le_of_ble_eq_true rfl)) qd_L_law_312 ⟨hk9, hn9⟩) hS hA hP (fun r_27 H locs hr_27 hP hS => ?_)
          refine lv_pop hx hb qd_L_law_315 rfl ?_
          refine lv_aload_n hx hb qd_L_law_316 rfl (lv_at hl 2 rfl) ?_
          refine lv_aload_n hx hb qd_L_law_317 rfl (lv_at hl 0 rfl) ?_
          refine lv_iload_n hx hb qd_L_law_318 rfl (lv_at hl 3 rfl) ?_
          refine lv_iconst (v := 1) hx hb qd_L_law_319 (by decide) ?_
          refine lv_iadd hx hb qd_L_law_320 ?_
          refine mk_rw (y := nI (i + 1)) (nI_add i 1) ?_
          refine va_sld hx hb hX hbl hbA hS (vp_in_nI (show i + 1 < L by omega) (by omega)) qd_L_law_321 ?_
          refine lv_aload_n hx hb qd_L_law_322 rfl (lv_at hl 0 rfl) ?_
          refine lv_iload_n hx hb qd_L_law_323 rfl (lv_at hl 3 rfl) ?_
          refine lv_iconst (v := 2) hx hb qd_L_law_324 (by decide) ?_
          refine lv_iadd hx hb qd_L_law_325 ?_
          refine mk_rw (y := nI (i + 2)) (nI_add i 2) ?_
          refine va_sld hx hb hX hbl hbA hS (vp_in_nI (show i + 2 < L by omega) (by omega)) qd_L_law_326 ?_
          refine lv_aload_n hx hb qd_L_law_327 rfl (lv_at hl 0 rfl) ?_
          refine lv_iload_n hx hb qd_L_law_328 rfl (lv_at hl 3 rfl) ?_
          refine lv_iconst (v := 3) hx hb qd_L_law_329 (by decide) ?_
          refine lv_iadd hx hb qd_L_law_330 ?_
          refine mk_rw (y := nI (i + 3)) (nI_add i 3) ?_
          refine va_sld hx hb hX hbl hbA hS (vp_in_nI (show i + 3 < L by omega) (by omega)) qd_L_law_331 ?_
          refine mk_mcalli (wr := [((a 0), .inr (0, [.ref (a 1), .ref (a 2), .ref (a 4), .ref (a 7), .ref (a 10), .ref (a 3), .int (x 6), .int (x 7), .int (x 8), .int (x 9), .int (x 10), .int (x 11), .int (x 12)])), ((a 1), .inl (cA, 4, .inl ru)), ((a 2), .inl (cA, 3, .inl ma)), ((a 3), .inl (cA, 6, .inl jo)), ((a 4), .inr (5, [.ref (a 5)])), ((a 5), .inr (4, [.int (nI 3), .int (nI 160), .ref (a 6), .int (nI V.length)])), ((a 6), .inl (cA, (3 * 160), .inl fV)), ((a 7), .inr (3, [.ref (a 8)])), ((a 8), .inr (4, [.int (nI 12), .int (nI 96), .ref (a 9), .int (nI R.length)])), ((a 9), .inl (cA, (12 * 96), .inl fR)), ((a 10), .inr (2, [.ref (a 11), .int gv, .int tk])), ((a 11), .inr (4, [.int (nI 11), .int (nI 192), .ref (a 12), .int (nI Lo.length)])), ((a 12), .inl (cA, (11 * 192), .inl fO))]) (wf := (fun u => ((wX a cA x ru ma jo gv tk V.length fV R.length fR Lo.length fO) ++ (wM b cA cB u mm ve rw jn ou fo go)))) (va_runV (As := [.int (xs (nI (i + 1)).toNatClampNeg), .int (xs (nI (i + 2)).toNatClampNeg), .int (xs (nI (i + 3)).toNatClampNeg)]) (rest := []) ⟨hx, hb, hml, hown, hts⟩ (c_M_asOf l dC dI cA H.size cB b y mm ve rw jn ou fo go hmi (xs (nI (i + 1)).toNatClampNeg) (xs (nI (i + 2)).toNatClampNeg) (xs (nI (i + 3)).toNatClampNeg)) (cwV 3 hts gc_L_44 rfl rfl rfl (by decide +kernel) ⟨Nat.le_of_ble_eq_true rfl, Nat.le_of_ble_eq_true rfl⟩) (mk_muP hP hD [13, 14, 15, 16, 17, 18, 19, 20] (by decide) rfl hK (va_recv hK hP (ci := 1) (q0 := 13) rfl rfl)) rfl rfl hl.1 rfl (lv_room (Nat.le_of_ble_eq_true rfl)) qd_L_law_332 ⟨hk9, hn9⟩) hS hA hP hD [13, 14, 15, 16, 17, 18, 19, 20] [0, 1, 2, 3, 4, 5, 6, 7, 8, 9, 10, 11, 12] [0, 1, 2, 3, 4, 5, 6, 7, 8, 9, 10, 11, 12, 13, 14, 15, 16, 17, 18, 19, 20] rfl rfl (by decide) (by decide) (by decide) (fun _ => rfl) (fun r_28 u_29 H locs hr_28 hP hD hS => ?_)
          obtain ⟨y2, hy2⟩ : ∃ z, z = u_29 := ⟨_, rfl⟩
          subst hy2
          have hy9 : y2 = upd y 0 0 := hr_28.1
          have hP : va_P (dC, dI) vwCl ((wX a cA x ru ma jo gv tk V.length fV R.length fR Lo.length fO) ++ (wM b cA cB y2 mm ve rw jn ou fo go)) H := hP
          have hD : va_D A ((wX a cA x ru ma jo gv tk V.length fV R.length fR Lo.length fO) ++ (wM b cA cB y2 mm ve rw jn ou fo go)) := hD
          refine lv_pop hx hb qd_L_law_335 rfl ?_
          refine lv_goto (tgt := 448) hx hb qd_L_law_336 (by decide) ?_
          refine lv_iinc (v := nI (i + 5)) (lv' := [(3, .int (nI (i + 5))), (0, .ref b0), (1, .ref (a 0)), (2, .ref (b 0))]) hx hb qd_L_law_448 hl (k := 3) rfl (by rw [show Int32.ofInt 5 = nI 5 from rfl]; first | exact nI_add i 5 | exact (nI_add i 5).symm) (by decide) rfl (fun ls hl => ?_)
          refine lv_goto (tgt := 18) hx hb qd_L_law_451 (by decide) ?_
          exact ih_1 ((i + 5), x, ru, ma, jo, gv, tk, V, fV, R, fR, Lo, fO, n3, y2, mm, ve, rw, jn, ou, fo, go) H locs ls ⟨⟨by omega, by omega, (by rw [hy9]; exact sr_read hsr), hxi, (by rw [hy9]; exact mi_keep hmi rfl rfl rfl rfl rfl rfl), (by rw [hy9]; exact sq_same hsq rfl rfl rfl)⟩, hP, hD, hS, lv_sub hl [1, 2, 3, 0] rfl⟩
        · refine lv_tableIn (off := 307) (tgt := 339) hx hb qd_L_law_32 (by decide) (by decide) (by decide) (by decide) ?_
          refine lv_aload_n hx hb qd_L_law_339 rfl (lv_at hl 1 rfl) ?_
          refine lv_aload_n hx hb qd_L_law_340 rfl (lv_at hl 0 rfl) ?_
          refine lv_iload_n hx hb qd_L_law_341 rfl (lv_at hl 3 rfl) ?_
          refine lv_iconst (v := 1) hx hb qd_L_law_342 (by decide) ?_
          refine lv_iadd hx hb qd_L_law_343 ?_
          refine mk_rw (y := nI (i + 1)) (nI_add i 1) ?_
          refine va_sld hx hb hX hbl hbA hS (vp_in_nI (show i + 1 < L by omega) (by omega)) qd_L_law_344 ?_
          refine lv_aload_n hx hb qd_L_law_345 rfl (lv_at hl 0 rfl) ?_
          refine lv_iload_n hx hb qd_L_law_346 rfl (lv_at hl 3 rfl) ?_
          refine lv_iconst (v := 2) hx hb qd_L_law_347 (by decide) ?_
          refine lv_iadd hx hb qd_L_law_348 ?_
          refine mk_rw (y := nI (i + 2)) (nI_add i 2) ?_
          refine va_sld hx hb hX hbl hbA hS (vp_in_nI (show i + 2 < L by omega) (by omega)) qd_L_law_349 ?_
          refine lv_aload_n hx hb qd_L_law_350 rfl (lv_at hl 0 rfl) ?_
          refine lv_iload_n hx hb qd_L_law_351 rfl (lv_at hl 3 rfl) ?_
          refine lv_iconst (v := 3) hx hb qd_L_law_352 (by decide) ?_
          refine lv_iadd hx hb qd_L_law_353 ?_
          refine mk_rw (y := nI (i + 3)) (nI_add i 3) ?_
          refine va_sld hx hb hX hbl hbA hS (vp_in_nI (show i + 3 < L by omega) (by omega)) qd_L_law_354 ?_
          refine lv_aload_n hx hb qd_L_law_355 rfl (lv_at hl 0 rfl) ?_
          refine lv_iload_n hx hb qd_L_law_356 rfl (lv_at hl 3 rfl) ?_
          refine lv_iconst (v := 4) hx hb qd_L_law_357 (by decide) ?_
          refine lv_iadd hx hb qd_L_law_358 ?_
          refine mk_rw (y := nI (i + 4)) (nI_add i 4) ?_
          refine va_sld hx hb hX hbl hbA hS (vp_in_nI (show i + 4 < L by omega) (by omega)) qd_L_law_359 ?_
          refine mk_calli (va_runV (As := [.int (xs (nI (i + 1)).toNatClampNeg), .int (xs (nI (i + 2)).toNatClampNeg), .int (xs (nI (i + 3)).toNatClampNeg), .int (xs (nI (i + 4)).toNatClampNeg)]) (rest := []) ⟨hx, hb, hml, hown, hts⟩ (c_X_version l dC dI cA H.size a x ru ma jo gv tk V fV R fR Lo fO n3 hxi (xs (nI (i + 1)).toNatClampNeg) (xs (nI (i + 2)).toNatClampNeg) (xs (nI (i + 3)).toNatClampNeg) (xs (nI (i + 4)).toNatClampNeg)) (cwV 4 hts gc_L_45 rfl rfl rfl (by decide +kernel) ⟨Nat.le_of_ble_eq_true rfl, Nat.le_of_ble_eq_true rfl⟩) (mk_roV hP [0, 1, 2, 3, 4, 5, 6, 7, 8, 9, 10, 11, 12] rfl hKX (va_recv hKX hP (ci := 0) (q0 := 0) rfl rfl)) rfl rfl hl.1 rfl (lv_room (Nat.le_of_ble_eq_true rfl)) qd_L_law_360 ⟨hk9, hn9⟩) hS hA hP (fun r_30 H locs hr_30 hP hS => ?_)
          refine lv_pop hx hb qd_L_law_363 rfl ?_
          refine lv_aload_n hx hb qd_L_law_364 rfl (lv_at hl 2 rfl) ?_
          refine lv_aload_n hx hb qd_L_law_365 rfl (lv_at hl 0 rfl) ?_
          refine lv_iload_n hx hb qd_L_law_366 rfl (lv_at hl 3 rfl) ?_
          refine lv_iconst (v := 1) hx hb qd_L_law_367 (by decide) ?_
          refine lv_iadd hx hb qd_L_law_368 ?_
          refine mk_rw (y := nI (i + 1)) (nI_add i 1) ?_
          refine va_sld hx hb hX hbl hbA hS (vp_in_nI (show i + 1 < L by omega) (by omega)) qd_L_law_369 ?_
          refine lv_aload_n hx hb qd_L_law_370 rfl (lv_at hl 0 rfl) ?_
          refine lv_iload_n hx hb qd_L_law_371 rfl (lv_at hl 3 rfl) ?_
          refine lv_iconst (v := 2) hx hb qd_L_law_372 (by decide) ?_
          refine lv_iadd hx hb qd_L_law_373 ?_
          refine mk_rw (y := nI (i + 2)) (nI_add i 2) ?_
          refine va_sld hx hb hX hbl hbA hS (vp_in_nI (show i + 2 < L by omega) (by omega)) qd_L_law_374 ?_
          refine lv_aload_n hx hb qd_L_law_375 rfl (lv_at hl 0 rfl) ?_
          refine lv_iload_n hx hb qd_L_law_376 rfl (lv_at hl 3 rfl) ?_
          refine lv_iconst (v := 3) hx hb qd_L_law_377 (by decide) ?_
          refine lv_iadd hx hb qd_L_law_378 ?_
          refine mk_rw (y := nI (i + 3)) (nI_add i 3) ?_
          refine va_sld hx hb hX hbl hbA hS (vp_in_nI (show i + 3 < L by omega) (by omega)) qd_L_law_379 ?_
          refine lv_aload_n hx hb qd_L_law_380 rfl (lv_at hl 0 rfl) ?_
          refine lv_iload_n hx hb qd_L_law_381 rfl (lv_at hl 3 rfl) ?_
          refine lv_iconst (v := 4) hx hb qd_L_law_382 (by decide) ?_
          refine lv_iadd hx hb qd_L_law_383 ?_
          refine mk_rw (y := nI (i + 4)) (nI_add i 4) ?_
          refine va_sld hx hb hX hbl hbA hS (vp_in_nI (show i + 4 < L by omega) (by omega)) qd_L_law_384 ?_
          refine mk_mcalli (wr := [((a 0), .inr (0, [.ref (a 1), .ref (a 2), .ref (a 4), .ref (a 7), .ref (a 10), .ref (a 3), .int (x 6), .int (x 7), .int (x 8), .int (x 9), .int (x 10), .int (x 11), .int (x 12)])), ((a 1), .inl (cA, 4, .inl ru)), ((a 2), .inl (cA, 3, .inl ma)), ((a 3), .inl (cA, 6, .inl jo)), ((a 4), .inr (5, [.ref (a 5)])), ((a 5), .inr (4, [.int (nI 3), .int (nI 160), .ref (a 6), .int (nI V.length)])), ((a 6), .inl (cA, (3 * 160), .inl fV)), ((a 7), .inr (3, [.ref (a 8)])), ((a 8), .inr (4, [.int (nI 12), .int (nI 96), .ref (a 9), .int (nI R.length)])), ((a 9), .inl (cA, (12 * 96), .inl fR)), ((a 10), .inr (2, [.ref (a 11), .int gv, .int tk])), ((a 11), .inr (4, [.int (nI 11), .int (nI 192), .ref (a 12), .int (nI Lo.length)])), ((a 12), .inl (cA, (11 * 192), .inl fO))]) (wf := (fun u => ((wX a cA x ru ma jo gv tk V.length fV R.length fR Lo.length fO) ++ (wM b cA cB u mm ve rw jn ou fo go)))) (va_runV (As := [.int (xs (nI (i + 1)).toNatClampNeg), .int (xs (nI (i + 2)).toNatClampNeg), .int (xs (nI (i + 3)).toNatClampNeg), .int (xs (nI (i + 4)).toNatClampNeg)]) (rest := []) ⟨hx, hb, hml, hown, hts⟩ (c_M_version l dC dI cA H.size cB b y mm ve rw jn ou fo go hmi (xs (nI (i + 1)).toNatClampNeg) (xs (nI (i + 2)).toNatClampNeg) (xs (nI (i + 3)).toNatClampNeg) (xs (nI (i + 4)).toNatClampNeg)) (cwV 4 hts gc_L_48 rfl rfl rfl (by decide +kernel) ⟨Nat.le_of_ble_eq_true rfl, Nat.le_of_ble_eq_true rfl⟩) (mk_muP hP hD [13, 14, 15, 16, 17, 18, 19, 20] (by decide) rfl hK (va_recv hK hP (ci := 1) (q0 := 13) rfl rfl)) rfl rfl hl.1 rfl (lv_room (Nat.le_of_ble_eq_true rfl)) qd_L_law_385 ⟨hk9, hn9⟩) hS hA hP hD [13, 14, 15, 16, 17, 18, 19, 20] [0, 1, 2, 3, 4, 5, 6, 7, 8, 9, 10, 11, 12] [0, 1, 2, 3, 4, 5, 6, 7, 8, 9, 10, 11, 12, 13, 14, 15, 16, 17, 18, 19, 20] rfl rfl (by decide) (by decide) (by decide) (fun _ => rfl) (fun r_31 u_32 H locs hr_31 hP hD hS => ?_)
          obtain ⟨y2, hy2⟩ : ∃ z, z = u_32 := ⟨_, rfl⟩
          subst hy2
          have hy9 : y2 = upd y 0 0 := hr_31.1
          have hP : va_P (dC, dI) vwCl ((wX a cA x ru ma jo gv tk V.length fV R.length fR Lo.length fO) ++ (wM b cA cB y2 mm ve rw jn ou fo go)) H := hP
          have hD : va_D A ((wX a cA x ru ma jo gv tk V.length fV R.length fR Lo.length fO) ++ (wM b cA cB y2 mm ve rw jn ou fo go)) := hD
          refine lv_pop hx hb qd_L_law_388 rfl ?_
          refine lv_goto (tgt := 448) hx hb qd_L_law_389 (by decide) ?_
          refine lv_iinc (v := nI (i + 5)) (lv' := [(3, .int (nI (i + 5))), (0, .ref b0), (1, .ref (a 0)), (2, .ref (b 0))]) hx hb qd_L_law_448 hl (k := 3) rfl (by rw [show Int32.ofInt 5 = nI 5 from rfl]; first | exact nI_add i 5 | exact (nI_add i 5).symm) (by decide) rfl (fun ls hl => ?_)
          refine lv_goto (tgt := 18) hx hb qd_L_law_451 (by decide) ?_
          exact ih_1 ((i + 5), x, ru, ma, jo, gv, tk, V, fV, R, fR, Lo, fO, n3, y2, mm, ve, rw, jn, ou, fo, go) H locs ls ⟨⟨by omega, by omega, (by rw [hy9]; exact sr_read hsr), hxi, (by rw [hy9]; exact mi_keep hmi rfl rfl rfl rfl rfl rfl), (by rw [hy9]; exact sq_same hsq rfl rfl rfl)⟩, hP, hD, hS, lv_sub hl [1, 2, 3, 0] rfl⟩
        · refine lv_tableIn (off := 360) (tgt := 392) hx hb qd_L_law_32 (by decide) (by decide) (by decide) (by decide) ?_
          refine lv_aload_n hx hb qd_L_law_392 rfl (lv_at hl 1 rfl) ?_
          refine lv_aload_n hx hb qd_L_law_393 rfl (lv_at hl 0 rfl) ?_
          refine lv_iload_n hx hb qd_L_law_394 rfl (lv_at hl 3 rfl) ?_
          refine lv_iconst (v := 1) hx hb qd_L_law_395 (by decide) ?_
          refine lv_iadd hx hb qd_L_law_396 ?_
          refine mk_rw (y := nI (i + 1)) (nI_add i 1) ?_
          refine va_sld hx hb hX hbl hbA hS (vp_in_nI (show i + 1 < L by omega) (by omega)) qd_L_law_397 ?_
          refine lv_aload_n hx hb qd_L_law_398 rfl (lv_at hl 0 rfl) ?_
          refine lv_iload_n hx hb qd_L_law_399 rfl (lv_at hl 3 rfl) ?_
          refine lv_iconst (v := 2) hx hb qd_L_law_400 (by decide) ?_
          refine lv_iadd hx hb qd_L_law_401 ?_
          refine mk_rw (y := nI (i + 2)) (nI_add i 2) ?_
          refine va_sld hx hb hX hbl hbA hS (vp_in_nI (show i + 2 < L by omega) (by omega)) qd_L_law_402 ?_
          refine mk_calli (va_runV (As := [.int (xs (nI (i + 1)).toNatClampNeg), .int (xs (nI (i + 2)).toNatClampNeg)]) (rest := []) ⟨hx, hb, hml, hown, hts⟩ (c_X_there l dC dI cA H.size a x ru ma jo gv tk V fV R fR Lo fO n3 hxi (xs (nI (i + 1)).toNatClampNeg) (xs (nI (i + 2)).toNatClampNeg)) (cwV 2 hts gc_L_49 rfl rfl rfl (by decide +kernel) ⟨Nat.le_of_ble_eq_true rfl, Nat.le_of_ble_eq_true rfl⟩) (mk_roV hP [0, 1, 2, 3, 4, 5, 6, 7, 8, 9, 10, 11, 12] rfl hKX (va_recv hKX hP (ci := 0) (q0 := 0) rfl rfl)) rfl rfl hl.1 rfl (lv_room (Nat.le_of_ble_eq_true rfl)) qd_L_law_403 ⟨hk9, hn9⟩) hS hA hP (fun r_33 H locs hr_33 hP hS => ?_)
          refine lv_pop hx hb qd_L_law_406 rfl ?_
          refine lv_aload_n hx hb qd_L_law_407 rfl (lv_at hl 2 rfl) ?_
          refine lv_aload_n hx hb qd_L_law_408 rfl (lv_at hl 0 rfl) ?_
          refine lv_iload_n hx hb qd_L_law_409 rfl (lv_at hl 3 rfl) ?_
          refine lv_iconst (v := 1) hx hb qd_L_law_410 (by decide) ?_
          refine lv_iadd hx hb qd_L_law_411 ?_
          refine mk_rw (y := nI (i + 1)) (nI_add i 1) ?_
          refine va_sld hx hb hX hbl hbA hS (vp_in_nI (show i + 1 < L by omega) (by omega)) qd_L_law_412 ?_
          refine lv_aload_n hx hb qd_L_law_413 rfl (lv_at hl 0 rfl) ?_
          refine lv_iload_n hx hb qd_L_law_414 rfl (lv_at hl 3 rfl) ?_
          refine lv_iconst (v := 2) hx hb qd_L_law_415 (by decide) ?_
          refine lv_iadd hx hb qd_L_law_416 ?_
          refine mk_rw (y := nI (i + 2)) (nI_add i 2) ?_
          refine va_sld hx hb hX hbl hbA hS (vp_in_nI (show i + 2 < L by omega) (by omega)) qd_L_law_417 ?_
          refine mk_mcalli (wr := [((a 0), .inr (0, [.ref (a 1), .ref (a 2), .ref (a 4), .ref (a 7), .ref (a 10), .ref (a 3), .int (x 6), .int (x 7), .int (x 8), .int (x 9), .int (x 10), .int (x 11), .int (x 12)])), ((a 1), .inl (cA, 4, .inl ru)), ((a 2), .inl (cA, 3, .inl ma)), ((a 3), .inl (cA, 6, .inl jo)), ((a 4), .inr (5, [.ref (a 5)])), ((a 5), .inr (4, [.int (nI 3), .int (nI 160), .ref (a 6), .int (nI V.length)])), ((a 6), .inl (cA, (3 * 160), .inl fV)), ((a 7), .inr (3, [.ref (a 8)])), ((a 8), .inr (4, [.int (nI 12), .int (nI 96), .ref (a 9), .int (nI R.length)])), ((a 9), .inl (cA, (12 * 96), .inl fR)), ((a 10), .inr (2, [.ref (a 11), .int gv, .int tk])), ((a 11), .inr (4, [.int (nI 11), .int (nI 192), .ref (a 12), .int (nI Lo.length)])), ((a 12), .inl (cA, (11 * 192), .inl fO))]) (wf := (fun u => ((wX a cA x ru ma jo gv tk V.length fV R.length fR Lo.length fO) ++ (wM b cA cB u mm ve rw jn ou fo go)))) (va_runV (As := [.int (xs (nI (i + 1)).toNatClampNeg), .int (xs (nI (i + 2)).toNatClampNeg)]) (rest := []) ⟨hx, hb, hml, hown, hts⟩ (c_M_there l dC dI cA H.size cB b y mm ve rw jn ou fo go hmi (xs (nI (i + 1)).toNatClampNeg) (xs (nI (i + 2)).toNatClampNeg)) (cwV 2 hts gc_L_52 rfl rfl rfl (by decide +kernel) ⟨Nat.le_of_ble_eq_true rfl, Nat.le_of_ble_eq_true rfl⟩) (mk_muP hP hD [13, 14, 15, 16, 17, 18, 19, 20] (by decide) rfl hK (va_recv hK hP (ci := 1) (q0 := 13) rfl rfl)) rfl rfl hl.1 rfl (lv_room (Nat.le_of_ble_eq_true rfl)) qd_L_law_418 ⟨hk9, hn9⟩) hS hA hP hD [13, 14, 15, 16, 17, 18, 19, 20] [0, 1, 2, 3, 4, 5, 6, 7, 8, 9, 10, 11, 12] [0, 1, 2, 3, 4, 5, 6, 7, 8, 9, 10, 11, 12, 13, 14, 15, 16, 17, 18, 19, 20] rfl rfl (by decide) (by decide) (by decide) (fun _ => rfl) (fun r_34 u_35 H locs hr_34 hP hD hS => ?_)
          obtain ⟨y2, hy2⟩ : ∃ z, z = u_35 := ⟨_, rfl⟩
          subst hy2
          have hy9 : y2 = upd y 0 0 := hr_34.1
          have hP : va_P (dC, dI) vwCl ((wX a cA x ru ma jo gv tk V.length fV R.length fR Lo.length fO) ++ (wM b cA cB y2 mm ve rw jn ou fo go)) H := hP
          have hD : va_D A ((wX a cA x ru ma jo gv tk V.length fV R.length fR Lo.length fO) ++ (wM b cA cB y2 mm ve rw jn ou fo go)) := hD
          refine lv_pop hx hb qd_L_law_421 rfl ?_
          refine lv_goto (tgt := 448) hx hb qd_L_law_422 (by decide) ?_
          refine lv_iinc (v := nI (i + 5)) (lv' := [(3, .int (nI (i + 5))), (0, .ref b0), (1, .ref (a 0)), (2, .ref (b 0))]) hx hb qd_L_law_448 hl (k := 3) rfl (by rw [show Int32.ofInt 5 = nI 5 from rfl]; first | exact nI_add i 5 | exact (nI_add i 5).symm) (by decide) rfl (fun ls hl => ?_)
          refine lv_goto (tgt := 18) hx hb qd_L_law_451 (by decide) ?_
          exact ih_1 ((i + 5), x, ru, ma, jo, gv, tk, V, fV, R, fR, Lo, fO, n3, y2, mm, ve, rw, jn, ou, fo, go) H locs ls ⟨⟨by omega, by omega, (by rw [hy9]; exact sr_read hsr), hxi, (by rw [hy9]; exact mi_keep hmi rfl rfl rfl rfl rfl rfl), (by rw [hy9]; exact sq_same hsq rfl rfl rfl)⟩, hP, hD, hS, lv_sub hl [1, 2, 3, 0] rfl⟩
        · refine lv_tableIn (off := 393) (tgt := 425) hx hb qd_L_law_32 (by decide) (by decide) (by decide) (by decide) ?_
          refine lv_aload_n hx hb qd_L_law_425 rfl (lv_at hl 1 rfl) ?_
          refine lv_aload_n hx hb qd_L_law_426 rfl (lv_at hl 0 rfl) ?_
          refine lv_iload_n hx hb qd_L_law_427 rfl (lv_at hl 3 rfl) ?_
          refine lv_iconst (v := 1) hx hb qd_L_law_428 (by decide) ?_
          refine lv_iadd hx hb qd_L_law_429 ?_
          refine mk_rw (y := nI (i + 1)) (nI_add i 1) ?_
          refine va_sld hx hb hX hbl hbA hS (vp_in_nI (show i + 1 < L by omega) (by omega)) qd_L_law_430 ?_
          refine mk_calli (va_runV (As := [.int (xs (nI (i + 1)).toNatClampNeg)]) (rest := []) ⟨hx, hb, hml, hown, hts⟩ (c_X_count l dC dI cA H.size a x ru ma jo gv tk V fV R fR Lo fO n3 hxi (xs (nI (i + 1)).toNatClampNeg)) (cwV 1 hts gc_L_53 rfl rfl rfl (by decide +kernel) ⟨Nat.le_of_ble_eq_true rfl, Nat.le_of_ble_eq_true rfl⟩) (mk_roNV (by decide) hP [0, 1, 2, 3, 4, 5, 6, 7, 8, 9, 10, 11, 12] rfl hKX hZ9 (va_recv hKX hP (ci := 0) (q0 := 0) rfl rfl)) rfl rfl hl.1 rfl (lv_room (Nat.le_of_ble_eq_true rfl)) qd_L_law_431 ⟨hk9, hn9⟩) hS hA hP (fun r_36 H locs hr_36 hP hS => ?_)
          refine lv_pop hx hb qd_L_law_434 rfl ?_
          refine lv_aload_n hx hb qd_L_law_435 rfl (lv_at hl 2 rfl) ?_
          refine lv_aload_n hx hb qd_L_law_436 rfl (lv_at hl 0 rfl) ?_
          refine lv_iload_n hx hb qd_L_law_437 rfl (lv_at hl 3 rfl) ?_
          refine lv_iconst (v := 1) hx hb qd_L_law_438 (by decide) ?_
          refine lv_iadd hx hb qd_L_law_439 ?_
          refine mk_rw (y := nI (i + 1)) (nI_add i 1) ?_
          refine va_sld hx hb hX hbl hbA hS (vp_in_nI (show i + 1 < L by omega) (by omega)) qd_L_law_440 ?_
          refine mk_mcalli (wr := [((a 0), .inr (0, [.ref (a 1), .ref (a 2), .ref (a 4), .ref (a 7), .ref (a 10), .ref (a 3), .int (x 6), .int (x 7), .int (x 8), .int (x 9), .int (x 10), .int (x 11), .int (x 12)])), ((a 1), .inl (cA, 4, .inl ru)), ((a 2), .inl (cA, 3, .inl ma)), ((a 3), .inl (cA, 6, .inl jo)), ((a 4), .inr (5, [.ref (a 5)])), ((a 5), .inr (4, [.int (nI 3), .int (nI 160), .ref (a 6), .int (nI V.length)])), ((a 6), .inl (cA, (3 * 160), .inl fV)), ((a 7), .inr (3, [.ref (a 8)])), ((a 8), .inr (4, [.int (nI 12), .int (nI 96), .ref (a 9), .int (nI R.length)])), ((a 9), .inl (cA, (12 * 96), .inl fR)), ((a 10), .inr (2, [.ref (a 11), .int gv, .int tk])), ((a 11), .inr (4, [.int (nI 11), .int (nI 192), .ref (a 12), .int (nI Lo.length)])), ((a 12), .inl (cA, (11 * 192), .inl fO))]) (wf := (fun u => ((wX a cA x ru ma jo gv tk V.length fV R.length fR Lo.length fO) ++ (wM b cA cB u mm ve rw jn ou fo go)))) (va_runV (As := [.int (xs (nI (i + 1)).toNatClampNeg)]) (rest := []) ⟨hx, hb, hml, hown, hts⟩ (c_M_count l dC dI cA H.size cB b y mm ve rw jn ou fo go hmi (xs (nI (i + 1)).toNatClampNeg)) (cwV 1 hts gc_L_57 rfl rfl rfl (by decide +kernel) ⟨Nat.le_of_ble_eq_true rfl, Nat.le_of_ble_eq_true rfl⟩) (mk_muP hP hD [13, 14, 15, 16, 17, 18, 19, 20] (by decide) rfl hK (va_recv hK hP (ci := 1) (q0 := 13) rfl rfl)) rfl rfl hl.1 rfl (lv_room (Nat.le_of_ble_eq_true rfl)) qd_L_law_441 ⟨hk9, hn9⟩) hS hA hP hD [13, 14, 15, 16, 17, 18, 19, 20] [0, 1, 2, 3, 4, 5, 6, 7, 8, 9, 10, 11, 12] [0, 1, 2, 3, 4, 5, 6, 7, 8, 9, 10, 11, 12, 13, 14, 15, 16, 17, 18, 19, 20] rfl rfl (by decide) (by decide) (by decide) (fun _ => rfl) (fun r_37 u_38 H locs hr_37 hP hD hS => ?_)
          obtain ⟨y2, hy2⟩ : ∃ z, z = u_38 := ⟨_, rfl⟩
          subst hy2
          have hy9 : y2 = upd y 0 0 := hr_37.1
          have hP : va_P (dC, dI) vwCl ((wX a cA x ru ma jo gv tk V.length fV R.length fR Lo.length fO) ++ (wM b cA cB y2 mm ve rw jn ou fo go)) H := hP
          have hD : va_D A ((wX a cA x ru ma jo gv tk V.length fV R.length fR Lo.length fO) ++ (wM b cA cB y2 mm ve rw jn ou fo go)) := hD
          refine lv_pop hx hb qd_L_law_444 rfl ?_
          refine lv_goto (tgt := 448) hx hb qd_L_law_445 (by decide) ?_
          refine lv_iinc (v := nI (i + 5)) (lv' := [(3, .int (nI (i + 5))), (0, .ref b0), (1, .ref (a 0)), (2, .ref (b 0))]) hx hb qd_L_law_448 hl (k := 3) rfl (by rw [show Int32.ofInt 5 = nI 5 from rfl]; first | exact nI_add i 5 | exact (nI_add i 5).symm) (by decide) rfl (fun ls hl => ?_)
          refine lv_goto (tgt := 18) hx hb qd_L_law_451 (by decide) ?_
          exact ih_1 ((i + 5), x, ru, ma, jo, gv, tk, V, fV, R, fR, Lo, fO, n3, y2, mm, ve, rw, jn, ou, fo, go) H locs ls ⟨⟨by omega, by omega, (by rw [hy9]; exact sr_read hsr), hxi, (by rw [hy9]; exact mi_keep hmi rfl rfl rfl rfl rfl rfl), (by rw [hy9]; exact sq_same hsq rfl rfl rfl)⟩, hP, hD, hS, lv_sub hl [1, 2, 3, 0] rfl⟩
  · obtain ⟨i, x, ru, ma, jo, gv, tk, V, fV, R, fR, Lo, fO, n3, y, mm, ve, rw, jn, ou, fo, go⟩ := y9
    obtain ⟨hinv, hP, hD, hS, hl⟩ := hI
    have hinv : i ≤ L + 5 ∧ L < i + 5 * 0 + 5 ∧ sr x ru ma V R y mm ∧ xi_ok x V fV R fR Lo fO n3 ∧ mi_ok y ve rw ∧ sq x R y rw := hinv
    have hP : va_P (dC, dI) vwCl ((wX a cA x ru ma jo gv tk V.length fV R.length fR Lo.length fO) ++ (wM b cA cB y mm ve rw jn ou fo go)) H := hP
    have hD : va_D A ((wX a cA x ru ma jo gv tk V.length fV R.length fR Lo.length fO) ++ (wM b cA cB y mm ve rw jn ou fo go)) := hD
    have hl : lv_has ls 4 [(0, .ref b0), (1, .ref (a 0)), (2, .ref (b 0)), (3, .int (nI i))] := hl
    obtain ⟨hi1, hi2, hsr, hxi, hmi, hsq⟩ := hinv
    have h6 := hxi.2.2.2.2.2.2.1
    have h3 := hxi.2.2.2.2.2.2.2
    refine lv_iload_n hx hb qd_L_law_18 rfl (lv_at hl 3 rfl) ?_
    refine lv_aload_n hx hb qd_L_law_19 rfl (lv_at hl 0 rfl) ?_
    refine va_slen hx hb hX hbl hbA hS qd_L_law_20 ?_
    refine mk_rw (y := nI L) rfl ?_
    refine lv_iconst (v := 5) hx hb qd_L_law_21 (by decide) ?_
    refine lv_isub hx hb qd_L_law_22 ?_
    refine lv_icmp_gt (tgt := 454) hx hb qd_L_law_23 (by decide) (fun c_39 => ?_) (fun c_39 => ?_)
    · refine lv_iconst (v := 1) hx hb qd_L_law_454 (by decide) ?_
      refine va_forget (fun q hq => by have := hS.2.2 q hq; rw [hAe] at this; exact this) ?_
      refine W.widen (k := 600000) (n := 7302250) hk9 hn9 ?_
      exact lw_ret hx hb hr hlocks qd_L_law_455
    · exact absurd (lw_stay (by omega) (by omega) c_39) (by omega)
