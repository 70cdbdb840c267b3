set_option maxHeartbeats 4000000 in
set_option maxRecDepth 100000 in
/-- dropVersions() -/
theorem c_M_dropVersions (l : Launch) (dC : Nat → ClassId) (dI : Nat → Nat → Nat) (cA : ClassId) (sz : Nat) (cB : ClassId) (b : Nat → Nat) (y ma ve rw jn ou fo go : Nat → Int32) (nv : Nat) (hnv : y 10 = nI nv) (hv : nv ≤ 160) (nr : Nat) (hnr : y 13 = nI nr) (hr96 : nr ≤ 96) : Met l qy_M_dropVersions qw_M_dropVersions ({ frames := 3, cells := 0, slots := 0, locals := 90 }) (mk_mu [.ref (b 0)] sz (dC, dI) vwCl [(cA, .int), (cB, .boolean)] (wM b cA cB y ma ve rw jn ou fo go)) (mk_muV (S := (Nat → Int32) × (Nat → Int32) × (Nat → Int32)) (fun u => ∃ n', n' ≤ nv ∧ u.1 = upd (upd y 18 (y 18 + nI nv - nI n')) 10 (nI n') ∧ (mvl u.2.1 n').Sublist (mvl ve nv)) (fun u => (wM b cA cB u.1 ma u.2.1 rw jn ou fo u.2.2)) (dC, dI) vwCl [(cA, .int), (cB, .boolean)] (va_A (wM b cA cB y ma ve rw jn ou fo go) sz)) 0 0 (va_A (wM b cA cB y ma ve rw jn ou fo go) sz) := by
  refine Met.ofW (cc := qb_M_dropVersions) (maxL := 4) (ret := none) (by decide) rfl ?_
  intro p e s m args below meth c s₁ B hml hpre
  obtain ⟨rfl, hsz, hP, hK, hD0⟩ := hpre
  have hx := B.exec
  have hb := B.bytes
  have hr := B.returns
  have hts0 := atoms_spec (ws := qw_M_dropVersions) B.pre
  have hts := fun w (h : w ∈ lw_gd) => hts0 w (List.mem_cons_of_mem _ h)
  have hown : s.vm.findClass qR_M = some m.cls := findClass_of_methodNamed B.named
  have hlocks := B.notSynchronized
  subst hsz
  have hD := hD0.self (sz := s.heap.size)
  generalize hAe : va_A (wM b cA cB y ma ve rw jn ou fo go) s.heap.size = A at hD ⊢
  have hA : ∀ q : Nat, s.heap.size ≤ q → A q := fun q h => by rw [← hAe]; exact Or.inr h
  have hS : va_S A s.heap s.heap [] := va_S.rf
  have hl := lv_entry ([.ref (b 0)]) (n := 4) (Nat.le_of_ble_eq_true rfl)
  rw [lg_entry_eq]
  generalize (lg_sl ([.ref (b 0)]) ++ List.replicate (4 - (lg_sl ([.ref (b 0)])).length) Slot.unset).toArray = ls at hl ⊢
  have hl : lv_has ls 4 [(0, .ref (b 0))] := hl
  have hP : va_P (dC, dI) vwCl (wM b cA cB y ma ve rw jn ou fo go) s.heap := hP
  refine mk_start (A := A) hP (fun H locs hP hS => ?_)
  refine lv_iconst (v := 0) hx hb qd_M_dropVersions_0 (by decide) ?_
  refine mk_rw (y := nI 0) (rfl) ?_
  refine lv_istore_n (lv' := [(1, .int (nI 0)), (0, .ref (b 0))]) hx hb qd_M_dropVersions_1 rfl hl (by decide) rfl (fun ls hl => ?_)
  refine mk_loop (σ := Nat × (Nat → Int32)) (fun n y9 H locs ls => (y9.1 + n = nv) ∧ va_P (dC, dI) vwCl (wM b cA cB y ma ve rw jn ou fo y9.2) H ∧ va_D A (wM b cA cB y ma ve rw jn ou fo y9.2) ∧ va_S A s.heap H locs ∧ lv_has ls 4 [(0, .ref (b 0)), (1, .int (nI y9.1))]) (fun ls => F0 m 2 ls []) (fun n y9 H locs ls hI ih_1 => ?_) (fun y9 H locs ls hI => ?_) nv (0, go) H locs ls ⟨Nat.zero_add _, hP, hD, hS, lv_sub hl [1, 0] rfl⟩
  · obtain ⟨i, g1⟩ := y9
    obtain ⟨hinv, hP, hD, hS, hl⟩ := hI
    have hinv : i + (n + 1) = nv := hinv
    have hP : va_P (dC, dI) vwCl (wM b cA cB y ma ve rw jn ou fo g1) H := hP
    have hD : va_D A (wM b cA cB y ma ve rw jn ou fo g1) := hD
    have hl : lv_has ls 4 [(0, .ref (b 0)), (1, .int (nI i))] := hl
    refine lv_iload_n hx hb qd_M_dropVersions_2 rfl (lv_at hl 1 rfl) ?_
    refine lv_aload_n hx hb qd_M_dropVersions_3 rfl (lv_at hl 0 rfl) ?_
    refine va_get (D := (dC, dI)) (ci := 1) (v := .int (y 10)) (C := qR_M) (T := qT_M) (N := 24) hx hb hts qin_M hown hK hP 0 rfl rfl 10 (by decide) (hts _ mw_412) (fun _ h9 => h9) rfl qd_M_dropVersions_4 ?_
    refine mk_rw (y := nI nv) (hnv) ?_
    refine lv_icmp_ge (tgt := 35) hx hb qd_M_dropVersions_7 (by decide) (fun c_2 => ?_) (fun c_2 => ?_)
    · exact absurd c_2 (nI_ge (by omega) (by omega))
    · refine lv_aload_n hx hb qd_M_dropVersions_10 rfl (lv_at hl 0 rfl) ?_
      refine va_get (D := (dC, dI)) (ci := 1) (v := .ref (b 7)) (C := qR_M) (T := qT_M) (N := 24) hx hb hts qin_M hown hK hP 0 rfl rfl 23 (by decide) (hts _ mw_425) (fun _ h9 => h9) rfl qd_M_dropVersions_11 ?_
      refine lv_iload_n hx hb qd_M_dropVersions_14 rfl (lv_at hl 1 rfl) ?_
      refine mk_meetH (D := (dC, dI)) (cl := vwCl) (ws := (wM b cA cB y ma ve rw jn ou fo g1)) (A0 := A) (H0 := s.heap) (fun v => True) (fun v => F0 m 28 ls (.int v :: .int (nI i) :: .ref (b 7) :: [])) (fun v_4 H locs hv_4 hP hS => ?_) (fun J_3 => ?_)
      · have hv_4 : True := hv_4
        refine va_zast (i := (nI i)) (x := v_4) hx hb hK hP hD hS 7 1 rfl rfl (vp_in_nI (by omega) (by omega)) qd_M_dropVersions_28 (fun H locs hP hD hS => ?_)
        rw [show Int32.toNatClampNeg (nI i) = i from (nI_clamp (by omega))] at hP hD
        have hP : va_P (dC, dI) vwCl (wM b cA cB y ma ve rw jn ou fo (upd g1 i (vp_nar .boolean v_4))) H := hP
        have hD : va_D A (wM b cA cB y ma ve rw jn ou fo (upd g1 i (vp_nar .boolean v_4))) := hD
        refine lv_iinc (v := nI (i + 1)) (lv' := [(1, .int (nI (i + 1))), (0, .ref (b 0))]) hx hb qd_M_dropVersions_29 hl (k := 1) rfl (mk_inc i) (by decide) rfl (fun ls hl => ?_)
        refine lv_goto (tgt := 2) hx hb qd_M_dropVersions_32 (by decide) ?_
        exact ih_1 ((i + 1), (upd g1 i (vp_nar .boolean v_4))) H locs ls ⟨by omega, hP, hD, hS, lv_sub hl [1, 0] rfl⟩
      · refine lv_aload_n hx hb qd_M_dropVersions_15 rfl (lv_at hl 0 rfl) ?_
        refine lv_iload_n hx hb qd_M_dropVersions_16 rfl (lv_at hl 1 rfl) ?_
        refine mk_calli (va_runV (As := [.int (nI i)]) (rest := [.int (nI i), .ref (b 7)]) ⟨hx, hb, hml, hown, hts⟩ (c_M_isNeeded l dC dI cA H.size cB b y ma ve rw jn ou fo g1 nv hnv hv nr hnr hr96 i (by omega)) (cwV 1 hts gc_M_159 rfl rfl rfl (by decide +kernel) ⟨Nat.le_of_ble_eq_true rfl, Nat.le_of_ble_eq_true rfl⟩) (mk_roV hP [0, 1, 2, 3, 4, 5, 6, 7] rfl hK (va_recv hK hP (ci := 1) (q0 := 0) rfl rfl)) rfl rfl hl.1 rfl (lv_room (Nat.le_of_ble_eq_true rfl)) qd_M_dropVersions_17 ⟨(Nat.zero_le _), (Nat.zero_le _)⟩) hS hA hP (fun r_5 H locs hr_5 hP hS => ?_)
        refine lv_if_ne (tgt := 27) hx hb qd_M_dropVersions_20 (by decide) (fun c_6 => ?_) (fun c_6 => ?_)
        · refine lv_iconst (v := 0) hx hb qd_M_dropVersions_27 (by decide) ?_
          exact J_3 _ H locs (trivial) hP hS
        · refine lv_iconst (v := 1) hx hb qd_M_dropVersions_23 (by decide) ?_
          refine lv_goto (tgt := 28) hx hb qd_M_dropVersions_24 (by decide) ?_
          exact J_3 _ H locs (trivial) hP hS
  · obtain ⟨i, g1⟩ := y9
    obtain ⟨hinv, hP, hD, hS, hl⟩ := hI
    have hinv : i + 0 = nv := hinv
    have hP : va_P (dC, dI) vwCl (wM b cA cB y ma ve rw jn ou fo g1) H := hP
    have hD : va_D A (wM b cA cB y ma ve rw jn ou fo g1) := hD
    have hl : lv_has ls 4 [(0, .ref (b 0)), (1, .int (nI i))] := hl
    refine lv_iload_n hx hb qd_M_dropVersions_2 rfl (lv_at hl 1 rfl) ?_
    refine lv_aload_n hx hb qd_M_dropVersions_3 rfl (lv_at hl 0 rfl) ?_
    refine va_get (D := (dC, dI)) (ci := 1) (v := .int (y 10)) (C := qR_M) (T := qT_M) (N := 24) hx hb hts qin_M hown hK hP 0 rfl rfl 10 (by decide) (hts _ mw_412) (fun _ h9 => h9) rfl qd_M_dropVersions_4 ?_
    refine mk_rw (y := nI nv) (hnv) ?_
    refine lv_icmp_ge (tgt := 35) hx hb qd_M_dropVersions_7 (by decide) (fun c_7 => ?_) (fun c_7 => ?_)
    · refine lv_iconst (v := 0) hx hb qd_M_dropVersions_35 (by decide) ?_
      refine mk_rw (y := nI 0) (rfl) ?_
      refine lv_istore_n (lv' := [(1, .int (nI 0)), (0, .ref (b 0))]) hx hb qd_M_dropVersions_36 rfl hl (by decide) rfl (fun ls hl => ?_)
      refine lv_iconst (v := 0) hx hb qd_M_dropVersions_37 (by decide) ?_
      refine mk_rw (y := nI 0) (rfl) ?_
      refine lv_istore_n (lv' := [(2, .int (nI 0)), (1, .int (nI 0)), (0, .ref (b 0))]) hx hb qd_M_dropVersions_38 rfl hl (by decide) rfl (fun ls hl => ?_)
      refine mk_loop (σ := Nat × Nat × (Nat → Int32)) (fun n2 y9 H locs ls => (y9.1 + n2 = nv ∧ y9.2.1 ≤ y9.1 ∧ (mvl y9.2.2 y9.2.1).Sublist (mvl ve y9.1) ∧ ∀ i c, y9.1 ≤ i → i < nv → c < 4 → y9.2.2 (4 * i + c) = ve (4 * i + c)) ∧ va_P (dC, dI) vwCl (wM b cA cB y ma y9.2.2 rw jn ou fo g1) H ∧ va_D A (wM b cA cB y ma y9.2.2 rw jn ou fo g1) ∧ va_S A s.heap H locs ∧ lv_has ls 4 [(0, .ref (b 0)), (1, .int (nI y9.2.1)), (2, .int (nI y9.1))]) (fun ls => F0 m 39 ls []) (fun n2 y9 H locs ls hI ih_8 => ?_) (fun y9 H locs ls hI => ?_) nv (0, 0, ve) H locs ls ⟨⟨Nat.zero_add _, Nat.le_refl _, List.Sublist.refl _, fun _ _ _ _ _ => rfl⟩, hP, hD, hS, lv_sub hl [2, 1, 0] rfl⟩
      · obtain ⟨r9, n9, w1⟩ := y9
        obtain ⟨hinv, hP, hD, hS, hl⟩ := hI
        have hinv : r9 + (n2 + 1) = nv ∧ n9 ≤ r9 ∧ (mvl w1 n9).Sublist (mvl ve r9) ∧ ∀ i c, r9 ≤ i → i < nv → c < 4 → w1 (4 * i + c) = ve (4 * i + c) := hinv
        have hP : va_P (dC, dI) vwCl (wM b cA cB y ma w1 rw jn ou fo g1) H := hP
        have hD : va_D A (wM b cA cB y ma w1 rw jn ou fo g1) := hD
        have hl : lv_has ls 4 [(0, .ref (b 0)), (1, .int (nI n9)), (2, .int (nI r9))] := hl
        obtain ⟨hi1, hi2, hi3, hi4⟩ := hinv
        have hrlt : r9 < nv := by omega
        refine lv_iload_n hx hb qd_M_dropVersions_39 rfl (lv_at hl 2 rfl) ?_
        refine lv_aload_n hx hb qd_M_dropVersions_40 rfl (lv_at hl 0 rfl) ?_
        refine va_get (D := (dC, dI)) (ci := 1) (v := .int (y 10)) (C := qR_M) (T := qT_M) (N := 24) hx hb hts qin_M hown hK hP 0 rfl rfl 10 (by decide) (hts _ mw_412) (fun _ h9 => h9) rfl qd_M_dropVersions_41 ?_
        refine mk_rw (y := nI nv) (hnv) ?_
        refine lv_icmp_ge (tgt := 103) hx hb qd_M_dropVersions_44 (by decide) (fun c_9 => ?_) (fun c_9 => ?_)
        · exact absurd c_9 (nI_ge (by omega) (by omega))
        · refine lv_iconst (v := 0) hx hb qd_M_dropVersions_47 (by decide) ?_
          refine mk_rw (y := nI 0) (rfl) ?_
          refine lv_istore_n (lv' := [(3, .int (nI 0)), (0, .ref (b 0)), (1, .int (nI n9)), (2, .int (nI r9))]) hx hb qd_M_dropVersions_48 rfl hl (by decide) rfl (fun ls hl => ?_)
          have hP : va_P (dC, dI) vwCl (wM b cA cB y ma (mcp 4 w1 n9 r9 0) rw jn ou fo g1) H := by rw [mcp_0]; exact hP
          have hD : va_D A (wM b cA cB y ma (mcp 4 w1 n9 r9 0) rw jn ou fo g1) := by rw [mcp_0]; exact hD
          refine mk_loop (σ := Nat) (fun n3 y9 H locs ls => (y9 + n3 = 4) ∧ va_P (dC, dI) vwCl (wM b cA cB y ma (mcp 4 w1 n9 r9 y9) rw jn ou fo g1) H ∧ va_D A (wM b cA cB y ma (mcp 4 w1 n9 r9 y9) rw jn ou fo g1) ∧ va_S A s.heap H locs ∧ lv_has ls 4 [(0, .ref (b 0)), (1, .int (nI n9)), (2, .int (nI r9)), (3, .int (nI y9))]) (fun ls => F0 m 49 ls []) (fun n3 y9 H locs ls hI ih_10 => ?_) (fun y9 H locs ls hI => ?_) 4 0 H locs ls ⟨rfl, hP, hD, hS, lv_sub hl [1, 2, 3, 0] rfl⟩
          · obtain ⟨k, rfl⟩ : ∃ z, z = y9 := ⟨_, rfl⟩
            obtain ⟨hinv, hP, hD, hS, hl⟩ := hI
            have hinv : k + (n3 + 1) = 4 := hinv
            have hP : va_P (dC, dI) vwCl (wM b cA cB y ma (mcp 4 w1 n9 r9 k) rw jn ou fo g1) H := hP
            have hD : va_D A (wM b cA cB y ma (mcp 4 w1 n9 r9 k) rw jn ou fo g1) := hD
            have hl : lv_has ls 4 [(0, .ref (b 0)), (1, .int (nI n9)), (2, .int (nI r9)), (3, .int (nI k))] := hl
            refine lv_iload_n hx hb qd_M_dropVersions_49 rfl (lv_at hl 3 rfl) ?_
            refine lv_iconst (v := 4) hx hb qd_M_dropVersions_50 (by decide) ?_
            refine lv_icmp_ge (tgt := 80) hx hb qd_M_dropVersions_51 (by decide) (fun c_11 => ?_) (fun c_11 => ?_)
            · exact absurd c_11 (nI_ge (a := k) (b := 4) (by omega) (by decide))
            · refine lv_aload_n hx hb qd_M_dropVersions_54 rfl (lv_at hl 0 rfl) ?_
              refine va_get (D := (dC, dI)) (ci := 1) (v := .ref (b 2)) (C := qR_M) (T := qT_M) (N := 24) hx hb hts qin_M hown hK hP 0 rfl rfl 9 (by decide) (hts _ mw_411) (fun _ h9 => h9) rfl qd_M_dropVersions_55 ?_
              refine lv_iconst (v := 4) hx hb qd_M_dropVersions_58 (by decide) ?_
              refine lv_iload_n hx hb qd_M_dropVersions_59 rfl (lv_at hl 1 rfl) ?_
              refine lv_imul hx hb qd_M_dropVersions_60 ?_
              refine lv_iload_n hx hb qd_M_dropVersions_61 rfl (lv_at hl 3 rfl) ?_
              refine lv_iadd hx hb qd_M_dropVersions_62 ?_
              refine lv_aload_n hx hb qd_M_dropVersions_63 rfl (lv_at hl 0 rfl) ?_
              refine va_get (D := (dC, dI)) (ci := 1) (v := .ref (b 2)) (C := qR_M) (T := qT_M) (N := 24) hx hb hts qin_M hown hK hP 0 rfl rfl 9 (by decide) (hts _ mw_411) (fun _ h9 => h9) rfl qd_M_dropVersions_64 ?_
              refine lv_iconst (v := 4) hx hb qd_M_dropVersions_67 (by decide) ?_
              refine lv_iload_n hx hb qd_M_dropVersions_68 rfl (lv_at hl 2 rfl) ?_
              refine lv_imul hx hb qd_M_dropVersions_69 ?_
              refine lv_iload_n hx hb qd_M_dropVersions_70 rfl (lv_at hl 3 rfl) ?_
              refine lv_iadd hx hb qd_M_dropVersions_71 ?_
              refine mk_rw (y := nI ((4 * r9) + k)) (by show ((nI 4) * (nI r9)) + (nI k) = _; simp only [pk_mul, nI_add]) ?_
              refine va_iald (i := (nI ((4 * r9) + k))) hx hb hK hP 2 0 rfl rfl (vp_in_nI (by omega) (by omega)) qd_M_dropVersions_72 ?_
              refine mk_rw (y := (mcp 4 w1 n9 r9 k) ((4 * r9) + k)) (congrArg _ (nI_clamp (by omega))) ?_
              refine mk_rw2 (y := nI ((4 * n9) + k)) (by show ((nI 4) * (nI n9)) + (nI k) = _; simp only [pk_mul, nI_add]) ?_
              refine va_iast (i := (nI ((4 * n9) + k))) (x := ((mcp 4 w1 n9 r9 k) ((4 * r9) + k))) hx hb hK hP hD hS 2 0 rfl rfl (vp_in_nI (by omega) (by omega)) qd_M_dropVersions_73 (fun H locs hP hD hS => ?_)
              rw [show Int32.toNatClampNeg (nI ((4 * n9) + k)) = ((4 * n9) + k) from (nI_clamp (by omega))] at hP hD
              have hP : va_P (dC, dI) vwCl (wM b cA cB y ma (upd (mcp 4 w1 n9 r9 k) ((4 * n9) + k) ((mcp 4 w1 n9 r9 k) ((4 * r9) + k))) rw jn ou fo g1) H := hP
              have hD : va_D A (wM b cA cB y ma (upd (mcp 4 w1 n9 r9 k) ((4 * n9) + k) ((mcp 4 w1 n9 r9 k) ((4 * r9) + k))) rw jn ou fo g1) := hD
              refine lv_iinc (v := nI (k + 1)) (lv' := [(3, .int (nI (k + 1))), (0, .ref (b 0)), (1, .int (nI n9)), (2, .int (nI r9))]) hx hb qd_M_dropVersions_74 hl (k := 3) rfl (mk_inc k) (by decide) rfl (fun ls hl => ?_)
              refine lv_goto (tgt := 49) hx hb qd_M_dropVersions_77 (by decide) ?_
              rw [mcp_s hi2] at hP hD
              exact ih_10 (k + 1) H locs ls ⟨by omega, hP, hD, hS, lv_sub hl [1, 2, 3, 0] rfl⟩
          · obtain ⟨k, rfl⟩ : ∃ z, z = y9 := ⟨_, rfl⟩
            obtain ⟨hinv, hP, hD, hS, hl⟩ := hI
            have hinv : k + 0 = 4 := hinv
            have hP : va_P (dC, dI) vwCl (wM b cA cB y ma (mcp 4 w1 n9 r9 k) rw jn ou fo g1) H := hP
            have hD : va_D A (wM b cA cB y ma (mcp 4 w1 n9 r9 k) rw jn ou fo g1) := hD
            have hl : lv_has ls 4 [(0, .ref (b 0)), (1, .int (nI n9)), (2, .int (nI r9)), (3, .int (nI k))] := hl
            have ek : k = 4 := by omega
            refine lv_iload_n hx hb qd_M_dropVersions_49 rfl (lv_at hl 3 rfl) ?_
            refine lv_iconst (v := 4) hx hb qd_M_dropVersions_50 (by decide) ?_
            refine lv_icmp_ge (tgt := 80) hx hb qd_M_dropVersions_51 (by decide) (fun c_12 => ?_) (fun c_12 => ?_)
            · rw [ek] at hP hD
              refine lv_aload_n hx hb qd_M_dropVersions_80 rfl (lv_at hl 0 rfl) ?_
              refine va_get (D := (dC, dI)) (ci := 1) (v := .ref (b 7)) (C := qR_M) (T := qT_M) (N := 24) hx hb hts qin_M hown hK hP 0 rfl rfl 23 (by decide) (hts _ mw_425) (fun _ h9 => h9) rfl qd_M_dropVersions_81 ?_
              refine lv_iload_n hx hb qd_M_dropVersions_84 rfl (lv_at hl 2 rfl) ?_
              refine va_zald (i := (nI r9)) hx hb hK hP 7 1 rfl rfl (vp_in_nI (by omega) (by omega)) qd_M_dropVersions_85 ?_
              refine mk_rw (y := g1 r9) (congrArg _ (nI_clamp (by omega))) ?_
              refine lv_if_eq (tgt := 93) hx hb qd_M_dropVersions_86 (by decide) (fun c_13 => ?_) (fun c_13 => ?_)
              · refine lv_iload_n hx hb qd_M_dropVersions_93 rfl (lv_at hl 1 rfl) ?_
                refine lv_iconst (v := 1) hx hb qd_M_dropVersions_94 (by decide) ?_
                refine lv_iadd hx hb qd_M_dropVersions_95 ?_
                refine mk_rw (y := nI (n9 + 1)) (nI_1 n9) ?_
                refine lv_istore_n (lv' := [(1, .int (nI (n9 + 1))), (0, .ref (b 0)), (2, .int (nI r9)), (3, .int (nI k))]) hx hb qd_M_dropVersions_96 rfl hl (by decide) rfl (fun ls hl => ?_)
                refine lv_iinc (v := nI (r9 + 1)) (lv' := [(2, .int (nI (r9 + 1))), (1, .int (nI (n9 + 1))), (0, .ref (b 0)), (3, .int (nI k))]) hx hb qd_M_dropVersions_97 hl (k := 2) rfl (mk_inc r9) (by decide) rfl (fun ls hl => ?_)
                refine lv_goto (tgt := 39) hx hb qd_M_dropVersions_100 (by decide) ?_
                exact ih_8 ((r9 + 1), (n9 + 1), (mcp 4 w1 n9 r9 4)) H locs ls ⟨⟨by omega, (show n9 + 1 ≤ r9 + 1 by omega), me_keep hrlt hi3 hi4, fun i c h1 h2 h3 => (me_hi hi2 h1).trans (hi4 i c (by omega) h2 h3)⟩, hP, hD, hS, lv_sub hl [2, 1, 0] rfl⟩
              · refine lv_iload_n hx hb qd_M_dropVersions_89 rfl (lv_at hl 1 rfl) ?_
                refine lv_goto (tgt := 96) hx hb qd_M_dropVersions_90 (by decide) ?_
                refine lv_istore_n (lv' := [(1, .int (nI n9)), (0, .ref (b 0)), (2, .int (nI r9)), (3, .int (nI k))]) hx hb qd_M_dropVersions_96 rfl hl (by decide) rfl (fun ls hl => ?_)
                refine lv_iinc (v := nI (r9 + 1)) (lv' := [(2, .int (nI (r9 + 1))), (1, .int (nI n9)), (0, .ref (b 0)), (3, .int (nI k))]) hx hb qd_M_dropVersions_97 hl (k := 2) rfl (mk_inc r9) (by decide) rfl (fun ls hl => ?_)
                refine lv_goto (tgt := 39) hx hb qd_M_dropVersions_100 (by decide) ?_
                exact ih_8 ((r9 + 1), n9, (mcp 4 w1 n9 r9 4)) H locs ls ⟨⟨by omega, (show n9 ≤ r9 + 1 by omega), me_goes hi3, fun i c h1 h2 h3 => (me_hi hi2 h1).trans (hi4 i c (by omega) h2 h3)⟩, hP, hD, hS, lv_sub hl [2, 1, 0] rfl⟩
            · exact absurd (show nI 4 ≤ nI k from nI_le (by omega) (by omega)) c_12
      · obtain ⟨r9, n9, w1⟩ := y9
        obtain ⟨hinv, hP, hD, hS, hl⟩ := hI
        have hinv : r9 + 0 = nv ∧ n9 ≤ r9 ∧ (mvl w1 n9).Sublist (mvl ve r9) ∧ ∀ i c, r9 ≤ i → i < nv → c < 4 → w1 (4 * i + c) = ve (4 * i + c) := hinv
        have hP : va_P (dC, dI) vwCl (wM b cA cB y ma w1 rw jn ou fo g1) H := hP
        have hD : va_D A (wM b cA cB y ma w1 rw jn ou fo g1) := hD
        have hl : lv_has ls 4 [(0, .ref (b 0)), (1, .int (nI n9)), (2, .int (nI r9))] := hl
        obtain ⟨hi1, hi2, hi3, hi4⟩ := hinv
        have er : r9 = nv := by omega
        refine lv_iload_n hx hb qd_M_dropVersions_39 rfl (lv_at hl 2 rfl) ?_
        refine lv_aload_n hx hb qd_M_dropVersions_40 rfl (lv_at hl 0 rfl) ?_
        refine va_get (D := (dC, dI)) (ci := 1) (v := .int (y 10)) (C := qR_M) (T := qT_M) (N := 24) hx hb hts qin_M hown hK hP 0 rfl rfl 10 (by decide) (hts _ mw_412) (fun _ h9 => h9) rfl qd_M_dropVersions_41 ?_
        refine mk_rw (y := nI nv) (hnv) ?_
        refine lv_icmp_ge (tgt := 103) hx hb qd_M_dropVersions_44 (by decide) (fun c_14 => ?_) (fun c_14 => ?_)
        · refine lv_aload_n hx hb qd_M_dropVersions_103 rfl (lv_at hl 0 rfl) ?_
          refine lv_aload_n hx hb qd_M_dropVersions_104 rfl (lv_at hl 0 rfl) ?_
          refine va_get (D := (dC, dI)) (ci := 1) (v := .int (y 18)) (C := qR_M) (T := qT_M) (N := 24) hx hb hts qin_M hown hK hP 0 rfl rfl 18 (by decide) (hts _ mw_420) (fun _ h9 => h9) rfl qd_M_dropVersions_105 ?_
          refine lv_aload_n hx hb qd_M_dropVersions_108 rfl (lv_at hl 0 rfl) ?_
          refine va_get (D := (dC, dI)) (ci := 1) (v := .int (y 10)) (C := qR_M) (T := qT_M) (N := 24) hx hb hts qin_M hown hK hP 0 rfl rfl 10 (by decide) (hts _ mw_412) (fun _ h9 => h9) rfl qd_M_dropVersions_109 ?_
          refine mk_rw (y := nI nv) (hnv) ?_
          refine lv_iadd hx hb qd_M_dropVersions_112 ?_
          refine lv_iload_n hx hb qd_M_dropVersions_113 rfl (lv_at hl 1 rfl) ?_
          refine lv_isub hx hb qd_M_dropVersions_114 ?_
          refine va_put (D := (dC, dI)) (ci := 1) (v := .int (((y 18) + (nI nv)) - (nI n9))) (ty := .int) (C := qR_M) (T := qT_M) (N := 24) hx hb hts qin_M qty_M qtyok_M qnm_M hown hK hP hD hS 0 rfl rfl 18 (by decide) (hts _ mw_420) (fun _ h9 => h9) rfl (by decide +kernel) rfl rfl (Nat.le_of_ble_eq_true rfl) qd_M_dropVersions_115 (fun H locs hP hD hS => ?_)
          have hP : va_P (dC, dI) vwCl (wM b cA cB (upd y 18 (((y 18) + (nI nv)) - (nI n9))) ma w1 rw jn ou fo g1) H := hP
          have hD : va_D A (wM b cA cB (upd y 18 (((y 18) + (nI nv)) - (nI n9))) ma w1 rw jn ou fo g1) := hD
          refine lv_aload_n hx hb qd_M_dropVersions_118 rfl (lv_at hl 0 rfl) ?_
          refine lv_iload_n hx hb qd_M_dropVersions_119 rfl (lv_at hl 1 rfl) ?_
          refine va_put (D := (dC, dI)) (ci := 1) (v := .int (nI n9)) (ty := .int) (C := qR_M) (T := qT_M) (N := 24) hx hb hts qin_M qty_M qtyok_M qnm_M hown hK hP hD hS 0 rfl rfl 10 (by decide) (hts _ mw_412) (fun _ h9 => h9) rfl (by decide +kernel) rfl rfl (Nat.le_of_ble_eq_true rfl) qd_M_dropVersions_120 (fun H locs hP hD hS => ?_)
          have hP : va_P (dC, dI) vwCl (wM b cA cB (upd (upd y 18 (((y 18) + (nI nv)) - (nI n9))) 10 (nI n9)) ma w1 rw jn ou fo g1) H := hP
          have hD : va_D A (wM b cA cB (upd (upd y 18 (((y 18) + (nI nv)) - (nI n9))) 10 (nI n9)) ma w1 rw jn ou fo g1) := hD
          exact mk_mvret (upd (upd y 18 (y 18 + nI nv - nI n9)) 10 (nI n9), w1, g1) hx hb hr hlocks hP hK hD hS qd_M_dropVersions_123 (⟨n9, by omega, rfl, by rw [← er]; exact hi3⟩)
        · exact absurd (nI_le (by omega) (by omega)) c_14
    · exact absurd (nI_le (by omega) (by omega)) c_7
set_option maxHeartbeats 4000000 in
set_option maxRecDepth 100000 in
/-- table() -/
theorem c_M_table (l : Launch) (dC : Nat → ClassId) (dI : Nat → Nat → Nat) (cA : ClassId) (sz : Nat) (cB : ClassId) (b : Nat → Nat) (y ma ve rw jn ou fo go : Nat → Int32) : Met l qy_M_table qw_M_table ({ frames := 0, cells := 0, slots := 0, locals := 0 }) (mk_mu [.ref (b 0)] sz (dC, dI) vwCl [(cA, .int), (cB, .boolean)] (wM b cA cB y ma ve rw jn ou fo go)) (mk_muQ (S := Nat → Int32) (fun r u => (y 1 = 3 ∧ r = -3 ∧ u = upd y 0 0) ∨ (¬ y 1 = 3 ∧ ¬ y 6 = 0 ∧ r = -5 ∧ u = upd y 0 0) ∨ (¬ y 1 = 3 ∧ y 6 = 0 ∧ r = y 1 + 1 - 1 ∧ u = upd (upd y 0 0) 1 (y 1 + 1))) (fun u => (wM b cA cB u ma ve rw jn ou fo go)) (dC, dI) vwCl [(cA, .int), (cB, .boolean)] (va_A (wM b cA cB y ma ve rw jn ou fo go) sz)) 0 0 (va_A (wM b cA cB y ma ve rw jn ou fo go) sz) := by
  refine Met.ofW (cc := qb_M_table) (maxL := 1) (ret := (some .int)) (by decide) rfl ?_
  intro p e s m args below meth c s₁ B hml hpre
  obtain ⟨rfl, hsz, hP, hK, hD0⟩ := hpre
  have hx := B.exec
  have hb := B.bytes
  have hr := B.returns
  have hts0 := atoms_spec (ws := qw_M_table) B.pre
  have hts := fun w (h : w ∈ lw_gd) => hts0 w (List.mem_cons_of_mem _ h)
  have hown : s.vm.findClass qR_M = some m.cls := findClass_of_methodNamed B.named
  have hlocks := B.notSynchronized
  subst hsz
  have hD := hD0.self (sz := s.heap.size)
  generalize hAe : va_A (wM b cA cB y ma ve rw jn ou fo go) s.heap.size = A at hD ⊢
  have hA : ∀ q : Nat, s.heap.size ≤ q → A q := fun q h => by rw [← hAe]; exact Or.inr h
  have hS : va_S A s.heap s.heap [] := va_S.rf
  have hl := lv_entry ([.ref (b 0)]) (n := 1) (Nat.le_of_ble_eq_true rfl)
  rw [lg_entry_eq]
  generalize (lg_sl ([.ref (b 0)]) ++ List.replicate (1 - (lg_sl ([.ref (b 0)])).length) Slot.unset).toArray = ls at hl ⊢
  have hl : lv_has ls 1 [(0, .ref (b 0))] := hl
  have hP : va_P (dC, dI) vwCl (wM b cA cB y ma ve rw jn ou fo go) s.heap := hP
  refine mk_start (A := A) hP (fun H locs hP hS => ?_)
  refine lv_aload_n hx hb qd_M_table_0 rfl (lv_at hl 0 rfl) ?_
  refine lv_iconst (v := 0) hx hb qd_M_table_1 (by decide) ?_
  refine va_put (D := (dC, dI)) (ci := 1) (v := .int 0) (ty := .int) (C := qR_M) (T := qT_M) (N := 24) hx hb hts qin_M qty_M qtyok_M qnm_M hown hK hP hD hS 0 rfl rfl 0 (by decide) (hts _ mw_402) (fun _ h9 => h9) rfl (by decide +kernel) rfl rfl (Nat.le_of_ble_eq_true rfl) qd_M_table_2 (fun H locs hP hD hS => ?_)
  have hP : va_P (dC, dI) vwCl (wM b cA cB (upd y 0 0) ma ve rw jn ou fo go) H := hP
  have hD : va_D A (wM b cA cB (upd y 0 0) ma ve rw jn ou fo go) := hD
  refine lv_aload_n hx hb qd_M_table_5 rfl (lv_at hl 0 rfl) ?_
  refine va_get (D := (dC, dI)) (ci := 1) (v := .int (y 1)) (C := qR_M) (T := qT_M) (N := 24) hx hb hts qin_M hown hK hP 0 rfl rfl 1 (by decide) (hts _ mw_403) (fun _ h9 => h9) rfl qd_M_table_6 ?_
  refine lv_iconst (v := 3) hx hb qd_M_table_9 (by decide) ?_
  refine lv_icmp_ne (tgt := 16) hx hb qd_M_table_10 (by decide) (fun c_1 => ?_) (fun c_1 => ?_)
  · refine lv_aload_n hx hb qd_M_table_16 rfl (lv_at hl 0 rfl) ?_
    refine va_get (D := (dC, dI)) (ci := 1) (v := .int (y 6)) (C := qR_M) (T := qT_M) (N := 24) hx hb hts qin_M hown hK hP 0 rfl rfl 6 (by decide) (hts _ mw_408) (fun _ h9 => h9) rfl qd_M_table_17 ?_
    refine lv_if_eq (tgt := 26) hx hb qd_M_table_20 (by decide) (fun c_2 => ?_) (fun c_2 => ?_)
    · refine lv_aload_n hx hb qd_M_table_26 rfl (lv_at hl 0 rfl) ?_
      refine lv_dup hx hb qd_M_table_27 rfl ?_
      refine va_get (D := (dC, dI)) (ci := 1) (v := .int (y 1)) (C := qR_M) (T := qT_M) (N := 24) hx hb hts qin_M hown hK hP 0 rfl rfl 1 (by decide) (hts _ mw_403) (fun _ h9 => h9) rfl qd_M_table_28 ?_
      refine lv_iconst (v := 1) hx hb qd_M_table_31 (by decide) ?_
      refine lv_iadd hx hb qd_M_table_32 ?_
      refine va_put (D := (dC, dI)) (ci := 1) (v := .int ((y 1) + 1)) (ty := .int) (C := qR_M) (T := qT_M) (N := 24) hx hb hts qin_M qty_M qtyok_M qnm_M hown hK hP hD hS 0 rfl rfl 1 (by decide) (hts _ mw_403) (fun _ h9 => h9) rfl (by decide +kernel) rfl rfl (Nat.le_of_ble_eq_true rfl) qd_M_table_33 (fun H locs hP hD hS => ?_)
      have hP : va_P (dC, dI) vwCl (wM b cA cB (upd (upd y 0 0) 1 ((y 1) + 1)) ma ve rw jn ou fo go) H := hP
      have hD : va_D A (wM b cA cB (upd (upd y 0 0) 1 ((y 1) + 1)) ma ve rw jn ou fo go) := hD
      refine lv_aload_n hx hb qd_M_table_36 rfl (lv_at hl 0 rfl) ?_
      refine va_get (D := (dC, dI)) (ci := 1) (v := .int ((y 1) + 1)) (C := qR_M) (T := qT_M) (N := 24) hx hb hts qin_M hown hK hP 0 rfl rfl 1 (by decide) (hts _ mw_403) (fun _ h9 => h9) rfl qd_M_table_37 ?_
      refine lv_iconst (v := 1) hx hb qd_M_table_40 (by decide) ?_
      refine lv_isub hx hb qd_M_table_41 ?_
      exact mk_miret (upd (upd y 0 0) 1 ((y 1) + 1)) hx hb hr hlocks hP hK hD hS qd_M_table_42 (Or.inr (Or.inr ⟨c_1, c_2, rfl, rfl⟩))
    · refine lv_bipush (v := (-5)) hx hb qd_M_table_23 (by decide) ?_
      exact mk_miret (upd y 0 0) hx hb hr hlocks hP hK hD hS qd_M_table_25 (Or.inr (Or.inl ⟨c_1, c_2, rfl, rfl⟩))
  · refine lv_bipush (v := (-3)) hx hb qd_M_table_13 (by decide) ?_
    exact mk_miret (upd y 0 0) hx hb hr hlocks hP hK hD hS qd_M_table_15 (Or.inl ⟨c_1, rfl, rfl⟩)
set_option maxHeartbeats 4000000 in
set_option maxRecDepth 100000 in
/-- rule(what, v) -/
theorem c_M_rule (l : Launch) (dC : Nat → ClassId) (dI : Nat → Nat → Nat) (cA : ClassId) (sz : Nat) (cB : ClassId) (b : Nat → Nat) (y ma ve rw jn ou fo go : Nat → Int32) (wh v : Int32) : Met l qy_M_rule qw_M_rule ({ frames := 1, cells := 0, slots := 0, locals := 40 }) (mk_mu [.ref (b 0), .int wh, .int v] sz (dC, dI) vwCl [(cA, .int), (cB, .boolean)] (wM b cA cB y ma ve rw jn ou fo go)) (mk_muQ (S := Nat → Int32) (fun r u => ((mi_b (Int32.toInt64 wh) 0 3 = 0 ∨ mi_b (Int32.toInt64 v) 0 (mr_hi wh) = 0) ∧ r = -1 ∧ u = upd y 0 0) ∨ (¬ mi_b (Int32.toInt64 wh) 0 3 = 0 ∧ ¬ mi_b (Int32.toInt64 v) 0 (mr_hi wh) = 0 ∧ ((¬ y 6 = 0 ∧ r = -5 ∧ u = upd y 0 0) ∨ (y 6 = 0 ∧ r = mo_was y wh ∧ u = mo_rule y wh v)))) (fun u => (wM b cA cB u ma ve rw jn ou fo go)) (dC, dI) vwCl [(cA, .int), (cB, .boolean)] (va_A (wM b cA cB y ma ve rw jn ou fo go) sz)) 0 0 (va_A (wM b cA cB y ma ve rw jn ou fo go) sz) := by
  refine Met.ofW (cc := qb_M_rule) (maxL := 4) (ret := (some .int)) (by decide) rfl ?_
  intro p e s m args below meth c s₁ B hml hpre
  obtain ⟨rfl, hsz, hP, hK, hD0⟩ := hpre
  have hx := B.exec
  have hb := B.bytes
  have hr := B.returns
  have hts0 := atoms_spec (ws := qw_M_rule) B.pre
  have hts := fun w (h : w ∈ lw_gd) => hts0 w (List.mem_cons_of_mem _ h)
  have hown : s.vm.findClass qR_M = some m.cls := findClass_of_methodNamed B.named
  have hlocks := B.notSynchronized
  subst hsz
  have hD := hD0.self (sz := s.heap.size)
  generalize hAe : va_A (wM b cA cB y ma ve rw jn ou fo go) s.heap.size = A at hD ⊢
  have hA : ∀ q : Nat, s.heap.size ≤ q → A q := fun q h => by rw [← hAe]; exact Or.inr h
  have hS : va_S A s.heap s.heap [] := va_S.rf
  have hl := lv_entry ([.ref (b 0), .int wh, .int v]) (n := 4) (Nat.le_of_ble_eq_true rfl)
  rw [lg_entry_eq]
  generalize (lg_sl ([.ref (b 0), .int wh, .int v]) ++ List.replicate (4 - (lg_sl ([.ref (b 0), .int wh, .int v])).length) Slot.unset).toArray = ls at hl ⊢
  have hl : lv_has ls 4 [(0, .ref (b 0)), (1, .int wh), (2, .int v)] := hl
  have hP : va_P (dC, dI) vwCl (wM b cA cB y ma ve rw jn ou fo go) s.heap := hP
  refine mk_start (A := A) hP (fun H locs hP hS => ?_)
  refine lv_aload_n hx hb qd_M_rule_0 rfl (lv_at hl 0 rfl) ?_
  refine lv_iconst (v := 0) hx hb qd_M_rule_1 (by decide) ?_
  refine va_put (D := (dC, dI)) (ci := 1) (v := .int 0) (ty := .int) (C := qR_M) (T := qT_M) (N := 24) hx hb hts qin_M qty_M qtyok_M qnm_M hown hK hP hD hS 0 rfl rfl 0 (by decide) (hts _ mw_402) (fun _ h9 => h9) rfl (by decide +kernel) rfl rfl (Nat.le_of_ble_eq_true rfl) qd_M_rule_2 (fun H locs hP hD hS => ?_)
  have hP : va_P (dC, dI) vwCl (wM b cA cB (upd y 0 0) ma ve rw jn ou fo go) H := hP
  have hD : va_D A (wM b cA cB (upd y 0 0) ma ve rw jn ou fo go) := hD
  refine lv_iload_n hx hb qd_M_rule_5 rfl (lv_at hl 1 rfl) ?_
  refine lv_i2l (v := Int32.toInt64 wh) hx hb qd_M_rule_6 rfl ?_
  refine lv_lconst (v := 0) hx hb qd_M_rule_7 (by decide) ?_
  refine lv_ldc2 (v := 3) hx hb hown (hts _ mw_484) qd_M_rule_8 ?_
  refine mk_calli (va_runS (As := [.long (Int32.toInt64 wh), .long 0, .long 3]) (rest := []) ⟨hx, hb, hml, hown, hts⟩ (c_M_in l dC dI cA H.size cB (Int32.toInt64 wh) 0 3) (va_cwS 3 hts gc_M_51 rfl rfl rfl (by decide +kernel) ⟨Nat.le_of_ble_eq_true rfl, Nat.le_of_ble_eq_true rfl⟩) (mk_roS hP [] rfl hK) rfl rfl hl.1 rfl (lv_room (Nat.le_of_ble_eq_true rfl)) qd_M_rule_11 ⟨(Nat.zero_le _), (Nat.zero_le _)⟩) hS hA hP (fun r_1 H locs hr_1 hP hS => ?_)
  obtain rfl : r_1 = mi_b (Int32.toInt64 wh) 0 3 := hr_1
  refine lv_if_eq (tgt := 38) hx hb qd_M_rule_14 (by decide) (fun c_2 => ?_) (fun c_2 => ?_)
  · refine lv_iconst (v := (-1)) hx hb qd_M_rule_38 (by decide) ?_
    exact mk_miret (upd y 0 0) hx hb hr hlocks hP hK hD hS qd_M_rule_39 (Or.inl ⟨Or.inl c_2, rfl, rfl⟩)
  · refine mk_after (σ := Unit) (fun y9 H locs ls => (¬ mi_b (Int32.toInt64 wh) 0 3 = 0 ∧ ¬ mi_b (Int32.toInt64 v) 0 (mr_hi wh) = 0) ∧ va_P (dC, dI) vwCl (wM b cA cB (upd y 0 0) ma ve rw jn ou fo go) H ∧ va_D A (wM b cA cB (upd y 0 0) ma ve rw jn ou fo go) ∧ va_S A s.heap H locs ∧ lv_has ls 4 [(0, .ref (b 0)), (1, .int wh), (2, .int v)]) (fun ls => F0 m 40 ls []) (fun y9 H locs ls hI => ?_) (fun J_3 => ?_)
    · obtain ⟨z9, rfl⟩ : ∃ z, z = y9 := ⟨_, rfl⟩
      obtain ⟨hinv, hP, hD, hS, hl⟩ := hI
      have hinv : ¬ mi_b (Int32.toInt64 wh) 0 3 = 0 ∧ ¬ mi_b (Int32.toInt64 v) 0 (mr_hi wh) = 0 := hinv
      have hP : va_P (dC, dI) vwCl (wM b cA cB (upd y 0 0) ma ve rw jn ou fo go) H := hP
      have hD : va_D A (wM b cA cB (upd y 0 0) ma ve rw jn ou fo go) := hD
      have hl : lv_has ls 4 [(0, .ref (b 0)), (1, .int wh), (2, .int v)] := hl
      refine lv_aload_n hx hb qd_M_rule_40 rfl (lv_at hl 0 rfl) ?_
      refine va_get (D := (dC, dI)) (ci := 1) (v := .int (y 6)) (C := qR_M) (T := qT_M) (N := 24) hx hb hts qin_M hown hK hP 0 rfl rfl 6 (by decide) (hts _ mw_408) (fun _ h9 => h9) rfl qd_M_rule_41 ?_
      refine lv_if_eq (tgt := 50) hx hb qd_M_rule_44 (by decide) (fun c_4 => ?_) (fun c_4 => ?_)
      · refine mk_meetH (D := (dC, dI)) (cl := vwCl) (ws := (wM b cA cB (upd y 0 0) ma ve rw jn ou fo go)) (A0 := A) (H0 := s.heap) (fun v9 => v9 = mo_was y wh) (fun v9 => F0 m 89 ls (.int v9 :: [])) (fun v9_6 H locs hv9_6 hP hS => ?_) (fun J_5 => ?_)
        · have hv9_6 : v9_6 = mo_was y wh := hv9_6
          refine mk_rw (y := mo_was y wh) (hv9_6) ?_
          refine lv_istore_n (lv' := [(3, .int (mo_was y wh)), (0, .ref (b 0)), (1, .int wh), (2, .int v)]) hx hb qd_M_rule_89 rfl hl (by decide) rfl (fun ls hl => ?_)
          refine lv_aload_n hx hb qd_M_rule_90 rfl (lv_at hl 1 rfl) ?_
          refine mk_meetH (D := (dC, dI)) (cl := vwCl) (ws := (wM b cA cB (upd y 0 0) ma ve rw jn ou fo go)) (A0 := A) (H0 := s.heap) (fun v9 => v9 = if wh = 0 then v else y 2) (fun v9 => F0 m 103 ls (.int v9 :: .ref (b 0) :: [])) (fun v9_8 H locs hv9_8 hP hS => ?_) (fun J_7 => ?_)
          · have hv9_8 : v9_8 = if wh = 0 then v else y 2 := hv9_8
            refine mk_rw (y := if wh = 0 then v else y 2) (hv9_8) ?_
            refine va_put (D := (dC, dI)) (ci := 1) (v := .int (if wh = 0 then v else y 2)) (ty := .int) (C := qR_M) (T := qT_M) (N := 24) hx hb hts qin_M qty_M qtyok_M qnm_M hown hK hP hD hS 0 rfl rfl 2 (by decide) (hts _ mw_404) (fun _ h9 => h9) rfl (by decide +kernel) rfl rfl (Nat.le_of_ble_eq_true rfl) qd_M_rule_103 (fun H locs hP hD hS => ?_)
            have hP : va_P (dC, dI) vwCl (wM b cA cB (upd (upd y 0 0) 2 (if wh = 0 then v else y 2)) ma ve rw jn ou fo go) H := hP
            have hD : va_D A (wM b cA cB (upd (upd y 0 0) 2 (if wh = 0 then v else y 2)) ma ve rw jn ou fo go) := hD
            refine lv_aload_n hx hb qd_M_rule_106 rfl (lv_at hl 1 rfl) ?_
            refine mk_meetH (D := (dC, dI)) (cl := vwCl) (ws := (wM b cA cB (upd (upd y 0 0) 2 (if wh = 0 then v else y 2)) ma ve rw jn ou fo go)) (A0 := A) (H0 := s.heap) (fun v9 => v9 = if wh = 1 then v else y 3) (fun v9 => F0 m 120 ls (.int v9 :: .ref (b 0) :: [])) (fun v9_10 H locs hv9_10 hP hS => ?_) (fun J_9 => ?_)
            · have hv9_10 : v9_10 = if wh = 1 then v else y 3 := hv9_10
              refine mk_rw (y := if wh = 1 then v else y 3) (hv9_10) ?_
              refine va_put (D := (dC, dI)) (ci := 1) (v := .int (if wh = 1 then v else y 3)) (ty := .int) (C := qR_M) (T := qT_M) (N := 24) hx hb hts qin_M qty_M qtyok_M qnm_M hown hK hP hD hS 0 rfl rfl 3 (by decide) (hts _ mw_405) (fun _ h9 => h9) rfl (by decide +kernel) rfl rfl (Nat.le_of_ble_eq_true rfl) qd_M_rule_120 (fun H locs hP hD hS => ?_)
              have hP : va_P (dC, dI) vwCl (wM b cA cB (upd (upd (upd y 0 0) 2 (if wh = 0 then v else y 2)) 3 (if wh = 1 then v else y 3)) ma ve rw jn ou fo go) H := hP
              have hD : va_D A (wM b cA cB (upd (upd (upd y 0 0) 2 (if wh = 0 then v else y 2)) 3 (if wh = 1 then v else y 3)) ma ve rw jn ou fo go) := hD
              refine lv_aload_n hx hb qd_M_rule_123 rfl (lv_at hl 1 rfl) ?_
              refine mk_meetH (D := (dC, dI)) (cl := vwCl) (ws := (wM b cA cB (upd (upd (upd y 0 0) 2 (if wh = 0 then v else y 2)) 3 (if wh = 1 then v else y 3)) ma ve rw jn ou fo go)) (A0 := A) (H0 := s.heap) (fun v9 => v9 = if wh = 2 then v else y 4) (fun v9 => F0 m 137 ls (.int v9 :: .ref (b 0) :: [])) (fun v9_12 H locs hv9_12 hP hS => ?_) (fun J_11 => ?_)
              · have hv9_12 : v9_12 = if wh = 2 then v else y 4 := hv9_12
                refine mk_rw (y := if wh = 2 then v else y 4) (hv9_12) ?_
                refine va_put (D := (dC, dI)) (ci := 1) (v := .int (if wh = 2 then v else y 4)) (ty := .int) (C := qR_M) (T := qT_M) (N := 24) hx hb hts qin_M qty_M qtyok_M qnm_M hown hK hP hD hS 0 rfl rfl 4 (by decide) (hts _ mw_406) (fun _ h9 => h9) rfl (by decide +kernel) rfl rfl (Nat.le_of_ble_eq_true rfl) qd_M_rule_137 (fun H locs hP hD hS => ?_)
                have hP : va_P (dC, dI) vwCl (wM b cA cB (upd (upd (upd (upd y 0 0) 2 (if wh = 0 then v else y 2)) 3 (if wh = 1 then v else y 3)) 4 (if wh = 2 then v else y 4)) ma ve rw jn ou fo go) H := hP
                have hD : va_D A (wM b cA cB (upd (upd (upd (upd y 0 0) 2 (if wh = 0 then v else y 2)) 3 (if wh = 1 then v else y 3)) 4 (if wh = 2 then v else y 4)) ma ve rw jn ou fo go) := hD
                refine lv_aload_n hx hb qd_M_rule_140 rfl (lv_at hl 1 rfl) ?_
                refine mk_meetH (D := (dC, dI)) (cl := vwCl) (ws := (wM b cA cB (upd (upd (upd (upd y 0 0) 2 (if wh = 0 then v else y 2)) 3 (if wh = 1 then v else y 3)) 4 (if wh = 2 then v else y 4)) ma ve rw jn ou fo go)) (A0 := A) (H0 := s.heap) (fun v9 => v9 = if wh = 3 then v else y 5) (fun v9 => F0 m 154 ls (.int v9 :: .ref (b 0) :: [])) (fun v9_14 H locs hv9_14 hP hS => ?_) (fun J_13 => ?_)
                · have hv9_14 : v9_14 = if wh = 3 then v else y 5 := hv9_14
                  refine mk_rw (y := if wh = 3 then v else y 5) (hv9_14) ?_
                  refine va_put (D := (dC, dI)) (ci := 1) (v := .int (if wh = 3 then v else y 5)) (ty := .int) (C := qR_M) (T := qT_M) (N := 24) hx hb hts qin_M qty_M qtyok_M qnm_M hown hK hP hD hS 0 rfl rfl 5 (by decide) (hts _ mw_407) (fun _ h9 => h9) rfl (by decide +kernel) rfl rfl (Nat.le_of_ble_eq_true rfl) qd_M_rule_154 (fun H locs hP hD hS => ?_)
                  have hP : va_P (dC, dI) vwCl (wM b cA cB (upd (upd (upd (upd (upd y 0 0) 2 (if wh = 0 then v else y 2)) 3 (if wh = 1 then v else y 3)) 4 (if wh = 2 then v else y 4)) 5 (if wh = 3 then v else y 5)) ma ve rw jn ou fo go) H := hP
                  have hD : va_D A (wM b cA cB (upd (upd (upd (upd (upd y 0 0) 2 (if wh = 0 then v else y 2)) 3 (if wh = 1 then v else y 3)) 4 (if wh = 2 then v else y 4)) 5 (if wh = 3 then v else y 5)) ma ve rw jn ou fo go) := hD
                  refine lv_iload_n hx hb qd_M_rule_157 rfl (lv_at hl 0 rfl) ?_
                  exact mk_miret (mo_rule y wh v) hx hb hr hlocks hP hK hD hS qd_M_rule_158 (Or.inr ⟨hinv.1, hinv.2, Or.inr ⟨c_4, rfl, rfl⟩⟩)
                · refine lv_iload_n hx hb qd_M_rule_141 rfl (lv_at hl 2 rfl) ?_
                  refine lv_iconst (v := 3) hx hb qd_M_rule_142 (by decide) ?_
                  refine lv_icmp_ne (tgt := 150) hx hb qd_M_rule_143 (by decide) (fun c_15 => ?_) (fun c_15 => ?_)
                  · refine lv_aload_n hx hb qd_M_rule_150 rfl (lv_at hl 1 rfl) ?_
                    refine va_get (D := (dC, dI)) (ci := 1) (v := .int (y 5)) (C := qR_M) (T := qT_M) (N := 24) hx hb hts qin_M hown hK hP 0 rfl rfl 5 (by decide) (hts _ mw_407) (fun _ h9 => h9) rfl qd_M_rule_151 ?_
                    exact J_13 _ H locs ((if_neg c_15).symm) hP hS
                  · refine lv_iload_n hx hb qd_M_rule_146 rfl (lv_at hl 3 rfl) ?_
                    refine lv_goto (tgt := 154) hx hb qd_M_rule_147 (by decide) ?_
                    exact J_13 _ H locs ((if_pos c_15).symm) hP hS
              · refine lv_iload_n hx hb qd_M_rule_124 rfl (lv_at hl 2 rfl) ?_
                refine lv_iconst (v := 2) hx hb qd_M_rule_125 (by decide) ?_
                refine lv_icmp_ne (tgt := 133) hx hb qd_M_rule_126 (by decide) (fun c_16 => ?_) (fun c_16 => ?_)
                · refine lv_aload_n hx hb qd_M_rule_133 rfl (lv_at hl 1 rfl) ?_
                  refine va_get (D := (dC, dI)) (ci := 1) (v := .int (y 4)) (C := qR_M) (T := qT_M) (N := 24) hx hb hts qin_M hown hK hP 0 rfl rfl 4 (by decide) (hts _ mw_406) (fun _ h9 => h9) rfl qd_M_rule_134 ?_
                  exact J_11 _ H locs ((if_neg c_16).symm) hP hS
                · refine lv_iload_n hx hb qd_M_rule_129 rfl (lv_at hl 3 rfl) ?_
                  refine lv_goto (tgt := 137) hx hb qd_M_rule_130 (by decide) ?_
                  exact J_11 _ H locs ((if_pos c_16).symm) hP hS
            · refine lv_iload_n hx hb qd_M_rule_107 rfl (lv_at hl 2 rfl) ?_
              refine lv_iconst (v := 1) hx hb qd_M_rule_108 (by decide) ?_
              refine lv_icmp_ne (tgt := 116) hx hb qd_M_rule_109 (by decide) (fun c_17 => ?_) (fun c_17 => ?_)
              · refine lv_aload_n hx hb qd_M_rule_116 rfl (lv_at hl 1 rfl) ?_
                refine va_get (D := (dC, dI)) (ci := 1) (v := .int (y 3)) (C := qR_M) (T := qT_M) (N := 24) hx hb hts qin_M hown hK hP 0 rfl rfl 3 (by decide) (hts _ mw_405) (fun _ h9 => h9) rfl qd_M_rule_117 ?_
                exact J_9 _ H locs ((if_neg c_17).symm) hP hS
              · refine lv_iload_n hx hb qd_M_rule_112 rfl (lv_at hl 3 rfl) ?_
                refine lv_goto (tgt := 120) hx hb qd_M_rule_113 (by decide) ?_
                exact J_9 _ H locs ((if_pos c_17).symm) hP hS
          · refine lv_iload_n hx hb qd_M_rule_91 rfl (lv_at hl 2 rfl) ?_
            refine lv_if_ne (tgt := 99) hx hb qd_M_rule_92 (by decide) (fun c_18 => ?_) (fun c_18 => ?_)
            · refine lv_aload_n hx hb qd_M_rule_99 rfl (lv_at hl 1 rfl) ?_
              refine va_get (D := (dC, dI)) (ci := 1) (v := .int (y 2)) (C := qR_M) (T := qT_M) (N := 24) hx hb hts qin_M hown hK hP 0 rfl rfl 2 (by decide) (hts _ mw_404) (fun _ h9 => h9) rfl qd_M_rule_100 ?_
              exact J_7 _ H locs ((if_neg c_18).symm) hP hS
            · refine lv_iload_n hx hb qd_M_rule_95 rfl (lv_at hl 3 rfl) ?_
              refine lv_goto (tgt := 103) hx hb qd_M_rule_96 (by decide) ?_
              exact J_7 _ H locs ((if_pos c_18).symm) hP hS
        · refine lv_iload_n hx hb qd_M_rule_50 rfl (lv_at hl 1 rfl) ?_
          refine lv_if_ne (tgt := 61) hx hb qd_M_rule_51 (by decide) (fun c_19 => ?_) (fun c_19 => ?_)
          · refine lv_iload_n hx hb qd_M_rule_61 rfl (lv_at hl 1 rfl) ?_
            refine lv_iconst (v := 1) hx hb qd_M_rule_62 (by decide) ?_
            refine lv_icmp_ne (tgt := 73) hx hb qd_M_rule_63 (by decide) (fun c_20 => ?_) (fun c_20 => ?_)
            · refine lv_iload_n hx hb qd_M_rule_73 rfl (lv_at hl 1 rfl) ?_
              refine lv_iconst (v := 2) hx hb qd_M_rule_74 (by decide) ?_
              refine lv_icmp_ne (tgt := 85) hx hb qd_M_rule_75 (by decide) (fun c_21 => ?_) (fun c_21 => ?_)
              · refine lv_aload_n hx hb qd_M_rule_85 rfl (lv_at hl 0 rfl) ?_
                refine va_get (D := (dC, dI)) (ci := 1) (v := .int (y 5)) (C := qR_M) (T := qT_M) (N := 24) hx hb hts qin_M hown hK hP 0 rfl rfl 5 (by decide) (hts _ mw_407) (fun _ h9 => h9) rfl qd_M_rule_86 ?_
                exact J_5 _ H locs (by unfold mo_was; rw [if_neg c_19, if_neg c_20, if_neg c_21]) hP hS
              · refine lv_aload_n hx hb qd_M_rule_78 rfl (lv_at hl 0 rfl) ?_
                refine va_get (D := (dC, dI)) (ci := 1) (v := .int (y 4)) (C := qR_M) (T := qT_M) (N := 24) hx hb hts qin_M hown hK hP 0 rfl rfl 4 (by decide) (hts _ mw_406) (fun _ h9 => h9) rfl qd_M_rule_79 ?_
                refine lv_goto (tgt := 89) hx hb qd_M_rule_82 (by decide) ?_
                exact J_5 _ H locs (by unfold mo_was; rw [if_neg c_19, if_neg c_20, if_pos c_21]) hP hS
            · refine lv_aload_n hx hb qd_M_rule_66 rfl (lv_at hl 0 rfl) ?_
              refine va_get (D := (dC, dI)) (ci := 1) (v := .int (y 3)) (C := qR_M) (T := qT_M) (N := 24) hx hb hts qin_M hown hK hP 0 rfl rfl 3 (by decide) (hts _ mw_405) (fun _ h9 => h9) rfl qd_M_rule_67 ?_
              refine lv_goto (tgt := 89) hx hb qd_M_rule_70 (by decide) ?_
              exact J_5 _ H locs (by unfold mo_was; rw [if_neg c_19, if_pos c_20]) hP hS
          · refine lv_aload_n hx hb qd_M_rule_54 rfl (lv_at hl 0 rfl) ?_
            refine va_get (D := (dC, dI)) (ci := 1) (v := .int (y 2)) (C := qR_M) (T := qT_M) (N := 24) hx hb hts qin_M hown hK hP 0 rfl rfl 2 (by decide) (hts _ mw_404) (fun _ h9 => h9) rfl qd_M_rule_55 ?_
            refine lv_goto (tgt := 89) hx hb qd_M_rule_58 (by decide) ?_
            exact J_5 _ H locs (by unfold mo_was; rw [if_pos c_19]) hP hS
      · refine lv_bipush (v := (-5)) hx hb qd_M_rule_47 (by decide) ?_
        exact mk_miret (upd y 0 0) hx hb hr hlocks hP hK hD hS qd_M_rule_49 (Or.inr ⟨hinv.1, hinv.2, Or.inl ⟨c_4, rfl, rfl⟩⟩)
    · refine lv_iload_n hx hb qd_M_rule_17 rfl (lv_at hl 2 rfl) ?_
      refine lv_i2l (v := Int32.toInt64 v) hx hb qd_M_rule_18 rfl ?_
      refine lv_lconst (v := 0) hx hb qd_M_rule_19 (by decide) ?_
      refine lv_iload_n hx hb qd_M_rule_20 rfl (lv_at hl 1 rfl) ?_
      refine lv_iconst (v := 3) hx hb qd_M_rule_21 (by decide) ?_
      refine lv_icmp_ne (tgt := 31) hx hb qd_M_rule_22 (by decide) (fun c_22 => ?_) (fun c_22 => ?_)
      · refine lv_lconst (v := 1) hx hb qd_M_rule_31 (by decide) ?_
        refine mk_calli (va_runS (As := [.long (Int32.toInt64 v), .long 0, .long 1]) (rest := []) ⟨hx, hb, hml, hown, hts⟩ (c_M_in l dC dI cA H.size cB (Int32.toInt64 v) 0 1) (va_cwS 3 hts gc_M_51 rfl rfl rfl (by decide +kernel) ⟨Nat.le_of_ble_eq_true rfl, Nat.le_of_ble_eq_true rfl⟩) (mk_roS hP [] rfl hK) rfl rfl hl.1 rfl (lv_room (Nat.le_of_ble_eq_true rfl)) qd_M_rule_32 ⟨(Nat.zero_le _), (Nat.zero_le _)⟩) hS hA hP (fun r_23 H locs hr_23 hP hS => ?_)
        obtain rfl : r_23 = mi_b (Int32.toInt64 v) 0 1 := hr_23
        refine lv_if_ne (tgt := 40) hx hb qd_M_rule_35 (by decide) (fun c_24 => ?_) (fun c_24 => ?_)
        · exact J_3 () H locs ls ⟨⟨c_2, by rw [show mr_hi wh = _ from if_neg c_22]; exact c_24⟩, hP, hD, hS, lv_sub hl [0, 1, 2] rfl⟩
        · refine lv_iconst (v := (-1)) hx hb qd_M_rule_38 (by decide) ?_
          exact mk_miret (upd y 0 0) hx hb hr hlocks hP hK hD hS qd_M_rule_39 (Or.inl ⟨Or.inr (by rw [show mr_hi wh = _ from if_neg c_22]; exact c_24), rfl, rfl⟩)
      · refine lv_ldc2 (v := 1000) hx hb hown (hts _ mw_488) qd_M_rule_25 ?_
        refine lv_goto (tgt := 32) hx hb qd_M_rule_28 (by decide) ?_
        refine mk_calli (va_runS (As := [.long (Int32.toInt64 v), .long 0, .long 1000]) (rest := []) ⟨hx, hb, hml, hown, hts⟩ (c_M_in l dC dI cA H.size cB (Int32.toInt64 v) 0 1000) (va_cwS 3 hts gc_M_51 rfl rfl rfl (by decide +kernel) ⟨Nat.le_of_ble_eq_true rfl, Nat.le_of_ble_eq_true rfl⟩) (mk_roS hP [] rfl hK) rfl rfl hl.1 rfl (lv_room (Nat.le_of_ble_eq_true rfl)) qd_M_rule_32 ⟨(Nat.zero_le _), (Nat.zero_le _)⟩) hS hA hP (fun r_25 H locs hr_25 hP hS => ?_)
        obtain rfl : r_25 = mi_b (Int32.toInt64 v) 0 1000 := hr_25
        refine lv_if_ne (tgt := 40) hx hb qd_M_rule_35 (by decide) (fun c_26 => ?_) (fun c_26 => ?_)
        · exact J_3 () H locs ls ⟨⟨c_2, by rw [show mr_hi wh = _ from if_pos c_22]; exact c_26⟩, hP, hD, hS, lv_sub hl [0, 1, 2] rfl⟩
        · refine lv_iconst (v := (-1)) hx hb qd_M_rule_38 (by decide) ?_
          exact mk_miret (upd y 0 0) hx hb hr hlocks hP hK hD hS qd_M_rule_39 (Or.inl ⟨Or.inr (by rw [show mr_hi wh = _ from if_pos c_22]; exact c_26), rfl, rfl⟩)
