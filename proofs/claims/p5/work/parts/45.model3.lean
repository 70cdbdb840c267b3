set_option maxHeartbeats 4000000 in
set_option maxRecDepth 100000 in
/-- find(r): found is written -/
theorem c_M_find (l : Launch) (dC : Nat → ClassId) (dI : Nat → Nat → Nat) (cA : ClassId) (sz : Nat) (cB : ClassId) (b : Nat → Nat) (y ma ve rw jn ou fo go : Nat → Int32) (nv : Nat) (hnv : y 10 = nI nv) (hv : nv ≤ 160) (r' : Nat) (hr9 : r' < 96) : Met l qy_M_find qw_M_find ({ frames := 2, cells := 0, slots := 0, locals := 60 }) (mk_mu [.ref (b 0), .int (nI r')] sz (dC, dI) vwCl [(cA, .int), (cB, .boolean)] (wM b cA cB y ma ve rw jn ou fo go)) (mk_muV (S := Nat → Int32) (fun _ => True) (fun u => (wM b cA cB y ma ve rw jn ou u go)) (dC, dI) vwCl [(cA, .int), (cB, .boolean)] (va_A (wM b cA cB y ma ve rw jn ou fo go) sz)) 0 0 (va_A (wM b cA cB y ma ve rw jn ou fo go) sz) := by
  refine Met.ofW (cc := qb_M_find) (maxL := 5) (ret := none) (by decide) rfl ?_
  intro p e s m args below meth c s₁ B hml hpre
  obtain ⟨rfl, hsz, hP, hK, hD0⟩ := hpre
  have hx := B.exec
  have hb := B.bytes
  have hr := B.returns
  have hts0 := atoms_spec (ws := qw_M_find) B.pre
  have hts := fun w (h : w ∈ lw_gd) => hts0 w (List.mem_cons_of_mem _ h)
  have hown : s.vm.findClass qR_M = some m.cls := findClass_of_methodNamed B.named
  have hlocks := B.notSynchronized
  subst hsz
  have hD := hD0.self (sz := s.heap.size)
  generalize hAe : va_A (wM b cA cB y ma ve rw jn ou fo go) s.heap.size = A at hD ⊢
  have hA : ∀ q : Nat, s.heap.size ≤ q → A q := fun q h => by rw [← hAe]; exact Or.inr h
  have hS : va_S A s.heap s.heap [] := va_S.rf
  have hl := lv_entry ([.ref (b 0), .int (nI r')]) (n := 5) (Nat.le_of_ble_eq_true rfl)
  rw [lg_entry_eq]
  generalize (lg_sl ([.ref (b 0), .int (nI r')]) ++ List.replicate (5 - (lg_sl ([.ref (b 0), .int (nI r')])).length) Slot.unset).toArray = ls at hl ⊢
  have hl : lv_has ls 5 [(0, .ref (b 0)), (1, .int (nI r'))] := hl
  have hP : va_P (dC, dI) vwCl (wM b cA cB y ma ve rw jn ou fo go) s.heap := hP
  refine mk_start (A := A) hP (fun H locs hP hS => ?_)
  refine lv_iconst (v := 0) hx hb qd_M_find_0 (by decide) ?_
  refine mk_rw (y := nI 0) (rfl) ?_
  refine lv_istore_n (lv' := [(2, .int (nI 0)), (0, .ref (b 0)), (1, .int (nI r'))]) hx hb qd_M_find_1 rfl hl (by decide) rfl (fun ls hl => ?_)
  refine mk_loop (σ := Nat × (Nat → Int32)) (fun n y9 H locs ls => (y9.1 + n = 3) ∧ va_P (dC, dI) vwCl (wM b cA cB y ma ve rw jn ou y9.2 go) H ∧ va_D A (wM b cA cB y ma ve rw jn ou y9.2 go) ∧ va_S A s.heap H locs ∧ lv_has ls 5 [(0, .ref (b 0)), (1, .int (nI r')), (2, .int (nI y9.1))]) (fun ls => F0 m 2 ls []) (fun n y9 H locs ls hI ih_1 => ?_) (fun y9 H locs ls hI => ?_) 3 (0, fo) H locs ls ⟨rfl, hP, hD, hS, lv_sub hl [1, 2, 0] rfl⟩
  · obtain ⟨i, f1⟩ := y9
    obtain ⟨hinv, hP, hD, hS, hl⟩ := hI
    have hinv : i + (n + 1) = 3 := hinv
    have hP : va_P (dC, dI) vwCl (wM b cA cB y ma ve rw jn ou f1 go) H := hP
    have hD : va_D A (wM b cA cB y ma ve rw jn ou f1 go) := hD
    have hl : lv_has ls 5 [(0, .ref (b 0)), (1, .int (nI r')), (2, .int (nI i))] := hl
    refine lv_iload_n hx hb qd_M_find_2 rfl (lv_at hl 2 rfl) ?_
    refine lv_iconst (v := 3) hx hb qd_M_find_3 (by decide) ?_
    refine lv_icmp_ge (tgt := 136) hx hb qd_M_find_4 (by decide) (fun c_2 => ?_) (fun c_2 => ?_)
    · exact absurd c_2 (nI_ge (a := i) (b := 3) (by omega) (by decide))
    · refine mk_meetH (D := (dC, dI)) (cl := vwCl) (ws := (wM b cA cB y ma ve rw jn ou f1 go)) (A0 := A) (H0 := s.heap) (fun v => v = -2 ∨ ∃ j, j < nv ∧ v = nI j) (fun v => F0 m 47 ls (.int v :: [])) (fun v_4 H locs hv_4 hP hS => ?_) (fun J_3 => ?_)
      · have hv_4 : v_4 = -2 ∨ ∃ j, j < nv ∧ v_4 = nI j := hv_4
        refine lv_istore_n (lv' := [(3, .int v_4), (0, .ref (b 0)), (1, .int (nI r')), (2, .int (nI i))]) hx hb qd_M_find_47 rfl hl (by decide) rfl (fun ls hl => ?_)
        refine mk_meetH (D := (dC, dI)) (cl := vwCl) (ws := (wM b cA cB y ma ve rw jn ou f1 go)) (A0 := A) (H0 := s.heap) (fun v => v = 0 ∨ ∃ j, j < nv ∧ v_4 = nI j) (fun v => F0 m 70 ls (.int v :: [])) (fun v_6 H locs hv_6 hP hS => ?_) (fun J_5 => ?_)
        · have hv_6 : v_6 = 0 ∨ ∃ j, j < nv ∧ v_4 = nI j := hv_6
          refine lv_istore (lv' := [(4, .int v_6), (3, .int v_4), (0, .ref (b 0)), (1, .int (nI r')), (2, .int (nI i))]) hx hb qd_M_find_70 hl (by decide) rfl (fun ls hl => ?_)
          refine lv_aload_n hx hb qd_M_find_72 rfl (lv_at hl 2 rfl) ?_
          refine va_get (D := (dC, dI)) (ci := 1) (v := .ref (b 6)) (C := qR_M) (T := qT_M) (N := 24) hx hb hts qin_M hown hK hP 0 rfl rfl 22 (by decide) (hts _ mw_424) (fun _ h9 => h9) rfl qd_M_find_73 ?_
          refine lv_iconst (v := 2) hx hb qd_M_find_76 (by decide) ?_
          refine lv_iload_n hx hb qd_M_find_77 rfl (lv_at hl 4 rfl) ?_
          refine lv_imul hx hb qd_M_find_78 ?_
          refine mk_rw (y := nI (2 * i)) (pk_mul 2 i) ?_
          refine mk_meetH (D := (dC, dI)) (cl := vwCl) (ws := (wM b cA cB y ma ve rw jn ou f1 go)) (A0 := A) (H0 := s.heap) (fun v => True) (fun v => F0 m 99 ls (.int v :: .int (nI (2 * i)) :: .ref (b 6) :: [])) (fun v_8 H locs hv_8 hP hS => ?_) (fun J_7 => ?_)
          · have hv_8 : True := hv_8
            refine va_iast (i := (nI (2 * i))) (x := v_8) hx hb hK hP hD hS 6 0 rfl rfl (vp_in_nI (by omega) (by omega)) qd_M_find_99 (fun H locs hP hD hS => ?_)
            rw [show Int32.toNatClampNeg (nI (2 * i)) = (2 * i) from (nI_clamp (by omega))] at hP hD
            have hP : va_P (dC, dI) vwCl (wM b cA cB y ma ve rw jn ou (upd f1 (2 * i) v_8) go) H := hP
            have hD : va_D A (wM b cA cB y ma ve rw jn ou (upd f1 (2 * i) v_8) go) := hD
            refine lv_aload_n hx hb qd_M_find_100 rfl (lv_at hl 2 rfl) ?_
            refine va_get (D := (dC, dI)) (ci := 1) (v := .ref (b 6)) (C := qR_M) (T := qT_M) (N := 24) hx hb hts qin_M hown hK hP 0 rfl rfl 22 (by decide) (hts _ mw_424) (fun _ h9 => h9) rfl qd_M_find_101 ?_
            refine lv_iconst (v := 2) hx hb qd_M_find_104 (by decide) ?_
            refine lv_iload_n hx hb qd_M_find_105 rfl (lv_at hl 4 rfl) ?_
            refine lv_imul hx hb qd_M_find_106 ?_
            refine lv_iconst (v := 1) hx hb qd_M_find_107 (by decide) ?_
            refine lv_iadd hx hb qd_M_find_108 ?_
            refine mk_rw (y := nI (2 * i + 1)) (by rw [show (2 : Int32) = nI 2 from rfl, pk_mul, nI_1]) ?_
            refine mk_meetH (D := (dC, dI)) (cl := vwCl) (ws := (wM b cA cB y ma ve rw jn ou (upd f1 (2 * i) v_8) go)) (A0 := A) (H0 := s.heap) (fun v => True) (fun v => F0 m 129 ls (.int v :: .int (nI (2 * i + 1)) :: .ref (b 6) :: [])) (fun v_10 H locs hv_10 hP hS => ?_) (fun J_9 => ?_)
            · have hv_10 : True := hv_10
              refine va_iast (i := (nI (2 * i + 1))) (x := v_10) hx hb hK hP hD hS 6 0 rfl rfl (vp_in_nI (by omega) (by omega)) qd_M_find_129 (fun H locs hP hD hS => ?_)
              rw [show Int32.toNatClampNeg (nI (2 * i + 1)) = (2 * i + 1) from (nI_clamp (by omega))] at hP hD
              have hP : va_P (dC, dI) vwCl (wM b cA cB y ma ve rw jn ou (upd (upd f1 (2 * i) v_8) (2 * i + 1) v_10) go) H := hP
              have hD : va_D A (wM b cA cB y ma ve rw jn ou (upd (upd f1 (2 * i) v_8) (2 * i + 1) v_10) go) := hD
              refine lv_iinc (v := nI (i + 1)) (lv' := [(2, .int (nI (i + 1))), (4, .int v_6), (3, .int v_4), (0, .ref (b 0)), (1, .int (nI r'))]) hx hb qd_M_find_130 hl (k := 4) rfl (mk_inc i) (by decide) rfl (fun ls hl => ?_)
              refine lv_goto (tgt := 2) hx hb qd_M_find_133 (by decide) ?_
              exact ih_1 ((i + 1), (upd (upd f1 (2 * i) v_8) (2 * i + 1) v_10)) H locs ls ⟨by omega, hP, hD, hS, lv_sub hl [3, 4, 0] rfl⟩
            · refine lv_iload hx hb qd_M_find_109 (lv_at hl 0 rfl) ?_
              refine lv_if_eq (tgt := 127) hx hb qd_M_find_111 (by decide) (fun c_11 => ?_) (fun c_11 => ?_)
              · refine lv_bipush (v := (-2)) hx hb qd_M_find_127 (by decide) ?_
                exact J_9 _ H locs (trivial) hP hS
              · obtain ⟨jz, hjz, ejz⟩ := hv_6.resolve_left c_11
                refine lv_aload_n hx hb qd_M_find_114 rfl (lv_at hl 2 rfl) ?_
                refine va_get (D := (dC, dI)) (ci := 1) (v := .ref (b 2)) (C := qR_M) (T := qT_M) (N := 24) hx hb hts qin_M hown hK hP 0 rfl rfl 9 (by decide) (hts _ mw_411) (fun _ h9 => h9) rfl qd_M_find_115 ?_
                refine lv_iconst (v := 4) hx hb qd_M_find_118 (by decide) ?_
                refine lv_iload_n hx hb qd_M_find_119 rfl (lv_at hl 1 rfl) ?_
                refine mk_rw (y := nI jz) (ejz) ?_
                refine lv_imul hx hb qd_M_find_120 ?_
                refine lv_iconst (v := 3) hx hb qd_M_find_121 (by decide) ?_
                refine lv_iadd hx hb qd_M_find_122 ?_
                refine mk_rw (y := nI ((4 * jz) + 3)) (by show ((nI 4) * (nI jz)) + (nI 3) = _; simp only [pk_mul, nI_add]) ?_
                refine va_iald (i := (nI ((4 * jz) + 3))) hx hb hK hP 2 0 rfl rfl (vp_in_nI (by omega) (by omega)) qd_M_find_123 ?_
                refine mk_rw (y := ve ((4 * jz) + 3)) (congrArg _ (nI_clamp (by omega))) ?_
                refine lv_goto (tgt := 129) hx hb qd_M_find_124 (by decide) ?_
                exact J_9 _ H locs (trivial) hP hS
          · refine lv_iload hx hb qd_M_find_79 (lv_at hl 0 rfl) ?_
            refine lv_if_eq (tgt := 97) hx hb qd_M_find_81 (by decide) (fun c_12 => ?_) (fun c_12 => ?_)
            · refine lv_bipush (v := (-2)) hx hb qd_M_find_97 (by decide) ?_
              exact J_7 _ H locs (trivial) hP hS
            · obtain ⟨jz, hjz, ejz⟩ := hv_6.resolve_left c_12
              refine lv_aload_n hx hb qd_M_find_84 rfl (lv_at hl 2 rfl) ?_
              refine va_get (D := (dC, dI)) (ci := 1) (v := .ref (b 2)) (C := qR_M) (T := qT_M) (N := 24) hx hb hts qin_M hown hK hP 0 rfl rfl 9 (by decide) (hts _ mw_411) (fun _ h9 => h9) rfl qd_M_find_85 ?_
              refine lv_iconst (v := 4) hx hb qd_M_find_88 (by decide) ?_
              refine lv_iload_n hx hb qd_M_find_89 rfl (lv_at hl 1 rfl) ?_
              refine mk_rw (y := nI jz) (ejz) ?_
              refine lv_imul hx hb qd_M_find_90 ?_
              refine lv_iconst (v := 2) hx hb qd_M_find_91 (by decide) ?_
              refine lv_iadd hx hb qd_M_find_92 ?_
              refine mk_rw (y := nI ((4 * jz) + 2)) (by show ((nI 4) * (nI jz)) + (nI 2) = _; simp only [pk_mul, nI_add]) ?_
              refine va_iald (i := (nI ((4 * jz) + 2))) hx hb hK hP 2 0 rfl rfl (vp_in_nI (by omega) (by omega)) qd_M_find_93 ?_
              refine mk_rw (y := ve ((4 * jz) + 2)) (congrArg _ (nI_clamp (by omega))) ?_
              refine lv_goto (tgt := 99) hx hb qd_M_find_94 (by decide) ?_
              exact J_7 _ H locs (trivial) hP hS
        · refine lv_iload_n hx hb qd_M_find_48 rfl (lv_at hl 0 rfl) ?_
          refine lv_if_lt (tgt := 69) hx hb qd_M_find_49 (by decide) (fun c_13 => ?_) (fun c_13 => ?_)
          · refine lv_iconst (v := 0) hx hb qd_M_find_69 (by decide) ?_
            exact J_5 _ H locs (Or.inl rfl) hP hS
          · obtain ⟨jz, hjz, ejz⟩ := hv_4.resolve_left (fun q => c_13 (by rw [q]; decide))
            refine lv_aload_n hx hb qd_M_find_52 rfl (lv_at hl 1 rfl) ?_
            refine va_get (D := (dC, dI)) (ci := 1) (v := .ref (b 2)) (C := qR_M) (T := qT_M) (N := 24) hx hb hts qin_M hown hK hP 0 rfl rfl 9 (by decide) (hts _ mw_411) (fun _ h9 => h9) rfl qd_M_find_53 ?_
            refine lv_iconst (v := 4) hx hb qd_M_find_56 (by decide) ?_
            refine lv_iload_n hx hb qd_M_find_57 rfl (lv_at hl 0 rfl) ?_
            refine mk_rw (y := nI jz) (ejz) ?_
            refine lv_imul hx hb qd_M_find_58 ?_
            refine lv_iconst (v := 3) hx hb qd_M_find_59 (by decide) ?_
            refine lv_iadd hx hb qd_M_find_60 ?_
            refine mk_rw (y := nI ((4 * jz) + 3)) (by show ((nI 4) * (nI jz)) + (nI 3) = _; simp only [pk_mul, nI_add]) ?_
            refine va_iald (i := (nI ((4 * jz) + 3))) hx hb hK hP 2 0 rfl rfl (vp_in_nI (by omega) (by omega)) qd_M_find_61 ?_
            refine mk_rw (y := ve ((4 * jz) + 3)) (congrArg _ (nI_clamp (by omega))) ?_
            refine lv_if_lt (tgt := 69) hx hb qd_M_find_62 (by decide) (fun c_14 => ?_) (fun c_14 => ?_)
            · refine lv_iconst (v := 0) hx hb qd_M_find_69 (by decide) ?_
              exact J_5 _ H locs (Or.inl rfl) hP hS
            · refine lv_iconst (v := 1) hx hb qd_M_find_65 (by decide) ?_
              refine lv_goto (tgt := 70) hx hb qd_M_find_66 (by decide) ?_
              exact J_5 _ H locs (Or.inr ⟨jz, hjz, ejz⟩) hP hS
      · refine lv_iload_n hx hb qd_M_find_7 rfl (lv_at hl 2 rfl) ?_
        refine lv_aload_n hx hb qd_M_find_8 rfl (lv_at hl 0 rfl) ?_
        refine va_get (D := (dC, dI)) (ci := 1) (v := .int (y 1)) (C := qR_M) (T := qT_M) (N := 24) hx hb hts qin_M hown hK hP 0 rfl rfl 1 (by decide) (hts _ mw_403) (fun _ h9 => h9) rfl qd_M_find_9 ?_
        refine lv_icmp_ge (tgt := 45) hx hb qd_M_find_12 (by decide) (fun c_15 => ?_) (fun c_15 => ?_)
        · refine lv_bipush (v := (-2)) hx hb qd_M_find_45 (by decide) ?_
          exact J_3 _ H locs (Or.inl rfl) hP hS
        · refine lv_aload_n hx hb qd_M_find_15 rfl (lv_at hl 0 rfl) ?_
          refine lv_iload_n hx hb qd_M_find_16 rfl (lv_at hl 2 rfl) ?_
          refine lv_aload_n hx hb qd_M_find_17 rfl (lv_at hl 0 rfl) ?_
          refine va_get (D := (dC, dI)) (ci := 1) (v := .ref (b 3)) (C := qR_M) (T := qT_M) (N := 24) hx hb hts qin_M hown hK hP 0 rfl rfl 11 (by decide) (hts _ mw_413) (fun _ h9 => h9) rfl qd_M_find_18 ?_
          refine lv_bipush (v := 6) hx hb qd_M_find_21 (by decide) ?_
          refine lv_iload_n hx hb qd_M_find_23 rfl (lv_at hl 1 rfl) ?_
          refine lv_imul hx hb qd_M_find_24 ?_
          refine lv_iconst (v := 1) hx hb qd_M_find_25 (by decide) ?_
          refine lv_iadd hx hb qd_M_find_26 ?_
          refine mk_rw (y := nI ((6 * r') + 1)) (by show ((nI 6) * (nI r')) + (nI 1) = _; simp only [pk_mul, nI_add]) ?_
          refine va_iald (i := (nI ((6 * r') + 1))) hx hb hK hP 3 0 rfl rfl (vp_in_nI (by omega) (by omega)) qd_M_find_27 ?_
          refine mk_rw (y := rw ((6 * r') + 1)) (congrArg _ (nI_clamp (by omega))) ?_
          refine lv_aload_n hx hb qd_M_find_28 rfl (lv_at hl 0 rfl) ?_
          refine va_get (D := (dC, dI)) (ci := 1) (v := .ref (b 3)) (C := qR_M) (T := qT_M) (N := 24) hx hb hts qin_M hown hK hP 0 rfl rfl 11 (by decide) (hts _ mw_413) (fun _ h9 => h9) rfl qd_M_find_29 ?_
          refine lv_bipush (v := 6) hx hb qd_M_find_32 (by decide) ?_
          refine lv_iload_n hx hb qd_M_find_34 rfl (lv_at hl 1 rfl) ?_
          refine lv_imul hx hb qd_M_find_35 ?_
          refine lv_iconst (v := 2) hx hb qd_M_find_36 (by decide) ?_
          refine lv_iadd hx hb qd_M_find_37 ?_
          refine mk_rw (y := nI ((6 * r') + 2)) (by show ((nI 6) * (nI r')) + (nI 2) = _; simp only [pk_mul, nI_add]) ?_
          refine va_iald (i := (nI ((6 * r') + 2))) hx hb hK hP 3 0 rfl rfl (vp_in_nI (by omega) (by omega)) qd_M_find_38 ?_
          refine mk_rw (y := rw ((6 * r') + 2)) (congrArg _ (nI_clamp (by omega))) ?_
          refine mk_calli (va_runV (As := [.int (nI i), .int (rw ((6 * r') + 1)), .int (rw ((6 * r') + 2))]) (rest := []) ⟨hx, hb, hml, hown, hts⟩ (c_M_latest l dC dI cA H.size cB b y ma ve rw jn ou f1 go nv hnv hv (nI i) (rw ((6 * r') + 1)) (rw ((6 * r') + 2))) (cwV 3 hts gc_M_77 rfl rfl rfl (by decide +kernel) ⟨Nat.le_of_ble_eq_true rfl, Nat.le_of_ble_eq_true rfl⟩) (mk_roV hP [0, 1, 2, 3, 4, 5, 6, 7] rfl hK (va_recv hK hP (ci := 1) (q0 := 0) rfl rfl)) rfl rfl hl.1 rfl (lv_room (Nat.le_of_ble_eq_true rfl)) qd_M_find_39 ⟨(Nat.zero_le _), (Nat.zero_le _)⟩) hS hA hP (fun r_16 H locs hr_16 hP hS => ?_)
          have hr_16 : r_16 = -2 ∨ ∃ i, i < nv ∧ r_16 = nI i := hr_16
          refine lv_goto (tgt := 47) hx hb qd_M_find_42 (by decide) ?_
          exact J_3 _ H locs (hr_16) hP hS
  · obtain ⟨i, f1⟩ := y9
    obtain ⟨hinv, hP, hD, hS, hl⟩ := hI
    have hinv : i + 0 = 3 := hinv
    have hP : va_P (dC, dI) vwCl (wM b cA cB y ma ve rw jn ou f1 go) H := hP
    have hD : va_D A (wM b cA cB y ma ve rw jn ou f1 go) := hD
    have hl : lv_has ls 5 [(0, .ref (b 0)), (1, .int (nI r')), (2, .int (nI i))] := hl
    refine lv_iload_n hx hb qd_M_find_2 rfl (lv_at hl 2 rfl) ?_
    refine lv_iconst (v := 3) hx hb qd_M_find_3 (by decide) ?_
    refine lv_icmp_ge (tgt := 136) hx hb qd_M_find_4 (by decide) (fun c_17 => ?_) (fun c_17 => ?_)
    · exact mk_mvret f1 hx hb hr hlocks hP hK hD hS qd_M_find_136 (trivial)
    · exact absurd (show nI 3 ≤ nI i from nI_le (by omega) (by omega)) c_17
set_option maxHeartbeats 4000000 in
set_option maxRecDepth 100000 in
/-- tell(r, isGive) -/
theorem c_M_tell (l : Launch) (dC : Nat → ClassId) (dI : Nat → Nat → Nat) (cA : ClassId) (sz : Nat) (cB : ClassId) (b : Nat → Nat) (y ma ve rw jn ou fo go : Nat → Int32) (no : Nat) (hno : y 21 = nI no) (hno2 : no < 199) (r' : Nat) (hr9 : r' < 96) (g : Int32) : Met l qy_M_tell qw_M_tell ({ frames := 0, cells := 0, slots := 0, locals := 0 }) (mk_mu [.ref (b 0), .int (nI r'), .int g] sz (dC, dI) vwCl [(cA, .int), (cB, .boolean)] (wM b cA cB y ma ve rw jn ou fo go)) (mk_muV (S := (Nat → Int32) × (Nat → Int32)) (fun u => my_same y u.1 ∧ u.1 21 = nI (no + 1)) (fun u => (wM b cA cB u.1 ma ve rw jn u.2 fo go)) (dC, dI) vwCl [(cA, .int), (cB, .boolean)] (va_A (wM b cA cB y ma ve rw jn ou fo go) sz)) 0 0 (va_A (wM b cA cB y ma ve rw jn ou fo go) sz) := by
  refine Met.ofW (cc := qb_M_tell) (maxL := 5) (ret := none) (by decide) rfl ?_
  intro p e s m args below meth c s₁ B hml hpre
  obtain ⟨rfl, hsz, hP, hK, hD0⟩ := hpre
  have hx := B.exec
  have hb := B.bytes
  have hr := B.returns
  have hts0 := atoms_spec (ws := qw_M_tell) B.pre
  have hts := fun w (h : w ∈ lw_gd) => hts0 w (List.mem_cons_of_mem _ h)
  have hown : s.vm.findClass qR_M = some m.cls := findClass_of_methodNamed B.named
  have hlocks := B.notSynchronized
  subst hsz
  have hD := hD0.self (sz := s.heap.size)
  generalize hAe : va_A (wM b cA cB y ma ve rw jn ou fo go) s.heap.size = A at hD ⊢
  have hA : ∀ q : Nat, s.heap.size ≤ q → A q := fun q h => by rw [← hAe]; exact Or.inr h
  have hS : va_S A s.heap s.heap [] := va_S.rf
  have hl := lv_entry ([.ref (b 0), .int (nI r'), .int g]) (n := 5) (Nat.le_of_ble_eq_true rfl)
  rw [lg_entry_eq]
  generalize (lg_sl ([.ref (b 0), .int (nI r'), .int g]) ++ List.replicate (5 - (lg_sl ([.ref (b 0), .int (nI r'), .int g])).length) Slot.unset).toArray = ls at hl ⊢
  have hl : lv_has ls 5 [(0, .ref (b 0)), (1, .int (nI r')), (2, .int g)] := hl
  have hP : va_P (dC, dI) vwCl (wM b cA cB y ma ve rw jn ou fo go) s.heap := hP
  refine mk_start (A := A) hP (fun H locs hP hS => ?_)
  refine lv_bipush (v := 11) hx hb qd_M_tell_0 (by decide) ?_
  refine lv_aload_n hx hb qd_M_tell_2 rfl (lv_at hl 0 rfl) ?_
  refine va_get (D := (dC, dI)) (ci := 1) (v := .int (y 21)) (C := qR_M) (T := qT_M) (N := 24) hx hb hts qin_M hown hK hP 0 rfl rfl 21 (by decide) (hts _ mw_423) (fun _ h9 => h9) rfl qd_M_tell_3 ?_
  refine lv_imul hx hb qd_M_tell_6 ?_
  refine mk_rw (y := nI (11 * no)) (by rw [hno]; exact pk_mul 11 no) ?_
  refine lv_istore_n (lv' := [(3, .int (nI (11 * no))), (0, .ref (b 0)), (1, .int (nI r')), (2, .int g)]) hx hb qd_M_tell_7 rfl hl (by decide) rfl (fun ls hl => ?_)
  refine lv_aload_n hx hb qd_M_tell_8 rfl (lv_at hl 1 rfl) ?_
  refine va_get (D := (dC, dI)) (ci := 1) (v := .ref (b 5)) (C := qR_M) (T := qT_M) (N := 24) hx hb hts qin_M hown hK hP 0 rfl rfl 20 (by decide) (hts _ mw_422) (fun _ h9 => h9) rfl qd_M_tell_9 ?_
  refine lv_iload_n hx hb qd_M_tell_12 rfl (lv_at hl 0 rfl) ?_
  refine lv_iload_n hx hb qd_M_tell_13 rfl (lv_at hl 3 rfl) ?_
  refine va_iast (i := (nI (11 * no))) (x := g) hx hb hK hP hD hS 5 0 rfl rfl (vp_in_nI (by omega) (by omega)) qd_M_tell_14 (fun H locs hP hD hS => ?_)
  rw [show Int32.toNatClampNeg (nI (11 * no)) = (11 * no) from (nI_clamp (by omega))] at hP hD
  have hP : va_P (dC, dI) vwCl (wM b cA cB y ma ve rw jn (upd ou (11 * no) g) fo go) H := hP
  have hD : va_D A (wM b cA cB y ma ve rw jn (upd ou (11 * no) g) fo go) := hD
  refine lv_iconst (v := 0) hx hb qd_M_tell_15 (by decide) ?_
  refine mk_rw (y := nI 0) (rfl) ?_
  refine lv_istore (lv' := [(4, .int (nI 0)), (3, .int (nI (11 * no))), (0, .ref (b 0)), (1, .int (nI r')), (2, .int g)]) hx hb qd_M_tell_16 hl (by decide) rfl (fun ls hl => ?_)
  refine mk_loop (σ := Nat × (Nat → Int32)) (fun n y9 H locs ls => (y9.1 + n = 4) ∧ va_P (dC, dI) vwCl (wM b cA cB y ma ve rw jn y9.2 fo go) H ∧ va_D A (wM b cA cB y ma ve rw jn y9.2 fo go) ∧ va_S A s.heap H locs ∧ lv_has ls 5 [(0, .ref (b 0)), (1, .int (nI r')), (2, .int g), (3, .int (nI (11 * no))), (4, .int (nI y9.1))]) (fun ls => F0 m 18 ls []) (fun n y9 H locs ls hI ih_1 => ?_) (fun y9 H locs ls hI => ?_) 4 (0, (upd ou (11 * no) g)) H locs ls ⟨rfl, hP, hD, hS, lv_sub hl [2, 3, 4, 1, 0] rfl⟩
  · obtain ⟨i, o1⟩ := y9
    obtain ⟨hinv, hP, hD, hS, hl⟩ := hI
    have hinv : i + (n + 1) = 4 := hinv
    have hP : va_P (dC, dI) vwCl (wM b cA cB y ma ve rw jn o1 fo go) H := hP
    have hD : va_D A (wM b cA cB y ma ve rw jn o1 fo go) := hD
    have hl : lv_has ls 5 [(0, .ref (b 0)), (1, .int (nI r')), (2, .int g), (3, .int (nI (11 * no))), (4, .int (nI i))] := hl
    refine lv_iload hx hb qd_M_tell_18 (lv_at hl 4 rfl) ?_
    refine lv_iconst (v := 4) hx hb qd_M_tell_20 (by decide) ?_
    refine lv_icmp_ge (tgt := 53) hx hb qd_M_tell_21 (by decide) (fun c_2 => ?_) (fun c_2 => ?_)
    · exact absurd c_2 (nI_ge (a := i) (b := 4) (by omega) (by decide))
    · refine lv_aload_n hx hb qd_M_tell_24 rfl (lv_at hl 0 rfl) ?_
      refine va_get (D := (dC, dI)) (ci := 1) (v := .ref (b 5)) (C := qR_M) (T := qT_M) (N := 24) hx hb hts qin_M hown hK hP 0 rfl rfl 20 (by decide) (hts _ mw_422) (fun _ h9 => h9) rfl qd_M_tell_25 ?_
      refine lv_iload_n hx hb qd_M_tell_28 rfl (lv_at hl 3 rfl) ?_
      refine lv_iconst (v := 1) hx hb qd_M_tell_29 (by decide) ?_
      refine lv_iadd hx hb qd_M_tell_30 ?_
      refine lv_iload hx hb qd_M_tell_31 (lv_at hl 4 rfl) ?_
      refine lv_iadd hx hb qd_M_tell_33 ?_
      refine lv_aload_n hx hb qd_M_tell_34 rfl (lv_at hl 0 rfl) ?_
      refine va_get (D := (dC, dI)) (ci := 1) (v := .ref (b 3)) (C := qR_M) (T := qT_M) (N := 24) hx hb hts qin_M hown hK hP 0 rfl rfl 11 (by decide) (hts _ mw_413) (fun _ h9 => h9) rfl qd_M_tell_35 ?_
      refine lv_bipush (v := 6) hx hb qd_M_tell_38 (by decide) ?_
      refine lv_iload_n hx hb qd_M_tell_40 rfl (lv_at hl 1 rfl) ?_
      refine lv_imul hx hb qd_M_tell_41 ?_
      refine lv_iload hx hb qd_M_tell_42 (lv_at hl 4 rfl) ?_
      refine lv_iadd hx hb qd_M_tell_44 ?_
      refine mk_rw (y := nI ((6 * r') + i)) (by show ((nI 6) * (nI r')) + (nI i) = _; simp only [pk_mul, nI_add]) ?_
      refine va_iald (i := (nI ((6 * r') + i))) hx hb hK hP 3 0 rfl rfl (vp_in_nI (by omega) (by omega)) qd_M_tell_45 ?_
      refine mk_rw (y := rw ((6 * r') + i)) (congrArg _ (nI_clamp (by omega))) ?_
      refine mk_rw2 (y := nI (((11 * no) + 1) + i)) (by show ((nI (11 * no)) + (nI 1)) + (nI i) = _; simp only [pk_mul, nI_add]) ?_
      refine va_iast (i := (nI (((11 * no) + 1) + i))) (x := (rw ((6 * r') + i))) hx hb hK hP hD hS 5 0 rfl rfl (vp_in_nI (by omega) (by omega)) qd_M_tell_46 (fun H locs hP hD hS => ?_)
      rw [show Int32.toNatClampNeg (nI (((11 * no) + 1) + i)) = (((11 * no) + 1) + i) from (nI_clamp (by omega))] at hP hD
      have hP : va_P (dC, dI) vwCl (wM b cA cB y ma ve rw jn (upd o1 (((11 * no) + 1) + i) (rw ((6 * r') + i))) fo go) H := hP
      have hD : va_D A (wM b cA cB y ma ve rw jn (upd o1 (((11 * no) + 1) + i) (rw ((6 * r') + i))) fo go) := hD
      refine lv_iinc (v := nI (i + 1)) (lv' := [(4, .int (nI (i + 1))), (0, .ref (b 0)), (1, .int (nI r')), (2, .int g), (3, .int (nI (11 * no)))]) hx hb qd_M_tell_47 hl (k := 4) rfl (mk_inc i) (by decide) rfl (fun ls hl => ?_)
      refine lv_goto (tgt := 18) hx hb qd_M_tell_50 (by decide) ?_
      exact ih_1 ((i + 1), (upd o1 (((11 * no) + 1) + i) (rw ((6 * r') + i)))) H locs ls ⟨by omega, hP, hD, hS, lv_sub hl [1, 2, 3, 4, 0] rfl⟩
  · obtain ⟨i, o1⟩ := y9
    obtain ⟨hinv, hP, hD, hS, hl⟩ := hI
    have hinv : i + 0 = 4 := hinv
    have hP : va_P (dC, dI) vwCl (wM b cA cB y ma ve rw jn o1 fo go) H := hP
    have hD : va_D A (wM b cA cB y ma ve rw jn o1 fo go) := hD
    have hl : lv_has ls 5 [(0, .ref (b 0)), (1, .int (nI r')), (2, .int g), (3, .int (nI (11 * no))), (4, .int (nI i))] := hl
    refine lv_iload hx hb qd_M_tell_18 (lv_at hl 4 rfl) ?_
    refine lv_iconst (v := 4) hx hb qd_M_tell_20 (by decide) ?_
    refine lv_icmp_ge (tgt := 53) hx hb qd_M_tell_21 (by decide) (fun c_3 => ?_) (fun c_3 => ?_)
    · refine lv_iconst (v := 0) hx hb qd_M_tell_53 (by decide) ?_
      refine mk_rw (y := nI 0) (rfl) ?_
      refine lv_istore (lv' := [(4, .int (nI 0)), (0, .ref (b 0)), (1, .int (nI r')), (2, .int g), (3, .int (nI (11 * no)))]) hx hb qd_M_tell_54 hl (by decide) rfl (fun ls hl => ?_)
      refine mk_loop (σ := Nat × (Nat → Int32)) (fun n2 y9 H locs ls => (y9.1 + n2 = 6) ∧ va_P (dC, dI) vwCl (wM b cA cB y ma ve rw jn y9.2 fo go) H ∧ va_D A (wM b cA cB y ma ve rw jn y9.2 fo go) ∧ va_S A s.heap H locs ∧ lv_has ls 5 [(0, .ref (b 0)), (1, .int (nI r')), (2, .int g), (3, .int (nI (11 * no))), (4, .int (nI y9.1))]) (fun ls => F0 m 56 ls []) (fun n2 y9 H locs ls hI ih_4 => ?_) (fun y9 H locs ls hI => ?_) 6 (0, o1) H locs ls ⟨rfl, hP, hD, hS, lv_sub hl [1, 2, 3, 4, 0] rfl⟩
      · obtain ⟨i2, o2⟩ := y9
        obtain ⟨hinv, hP, hD, hS, hl⟩ := hI
        have hinv : i2 + (n2 + 1) = 6 := hinv
        have hP : va_P (dC, dI) vwCl (wM b cA cB y ma ve rw jn o2 fo go) H := hP
        have hD : va_D A (wM b cA cB y ma ve rw jn o2 fo go) := hD
        have hl : lv_has ls 5 [(0, .ref (b 0)), (1, .int (nI r')), (2, .int g), (3, .int (nI (11 * no))), (4, .int (nI i2))] := hl
        refine lv_iload hx hb qd_M_tell_56 (lv_at hl 4 rfl) ?_
        refine lv_bipush (v := 6) hx hb qd_M_tell_58 (by decide) ?_
        refine lv_icmp_ge (tgt := 92) hx hb qd_M_tell_60 (by decide) (fun c_5 => ?_) (fun c_5 => ?_)
        · exact absurd c_5 (nI_ge (a := i2) (b := 6) (by omega) (by decide))
        · refine lv_aload_n hx hb qd_M_tell_63 rfl (lv_at hl 0 rfl) ?_
          refine va_get (D := (dC, dI)) (ci := 1) (v := .ref (b 5)) (C := qR_M) (T := qT_M) (N := 24) hx hb hts qin_M hown hK hP 0 rfl rfl 20 (by decide) (hts _ mw_422) (fun _ h9 => h9) rfl qd_M_tell_64 ?_
          refine lv_iload_n hx hb qd_M_tell_67 rfl (lv_at hl 3 rfl) ?_
          refine lv_iconst (v := 5) hx hb qd_M_tell_68 (by decide) ?_
          refine lv_iadd hx hb qd_M_tell_69 ?_
          refine lv_iload hx hb qd_M_tell_70 (lv_at hl 4 rfl) ?_
          refine lv_iadd hx hb qd_M_tell_72 ?_
          refine lv_aload_n hx hb qd_M_tell_73 rfl (lv_at hl 0 rfl) ?_
          refine va_get (D := (dC, dI)) (ci := 1) (v := .ref (b 4)) (C := qR_M) (T := qT_M) (N := 24) hx hb hts qin_M hown hK hP 0 rfl rfl 12 (by decide) (hts _ mw_414) (fun _ h9 => h9) rfl qd_M_tell_74 ?_
          refine lv_bipush (v := 6) hx hb qd_M_tell_77 (by decide) ?_
          refine lv_iload_n hx hb qd_M_tell_79 rfl (lv_at hl 1 rfl) ?_
          refine lv_imul hx hb qd_M_tell_80 ?_
          refine lv_iload hx hb qd_M_tell_81 (lv_at hl 4 rfl) ?_
          refine lv_iadd hx hb qd_M_tell_83 ?_
          refine mk_rw (y := nI ((6 * r') + i2)) (by show ((nI 6) * (nI r')) + (nI i2) = _; simp only [pk_mul, nI_add]) ?_
          refine va_iald (i := (nI ((6 * r') + i2))) hx hb hK hP 4 0 rfl rfl (vp_in_nI (by omega) (by omega)) qd_M_tell_84 ?_
          refine mk_rw (y := jn ((6 * r') + i2)) (congrArg _ (nI_clamp (by omega))) ?_
          refine mk_rw2 (y := nI (((11 * no) + 5) + i2)) (by show ((nI (11 * no)) + (nI 5)) + (nI i2) = _; simp only [pk_mul, nI_add]) ?_
          refine va_iast (i := (nI (((11 * no) + 5) + i2))) (x := (jn ((6 * r') + i2))) hx hb hK hP hD hS 5 0 rfl rfl (vp_in_nI (by omega) (by omega)) qd_M_tell_85 (fun H locs hP hD hS => ?_)
          rw [show Int32.toNatClampNeg (nI (((11 * no) + 5) + i2)) = (((11 * no) + 5) + i2) from (nI_clamp (by omega))] at hP hD
          have hP : va_P (dC, dI) vwCl (wM b cA cB y ma ve rw jn (upd o2 (((11 * no) + 5) + i2) (jn ((6 * r') + i2))) fo go) H := hP
          have hD : va_D A (wM b cA cB y ma ve rw jn (upd o2 (((11 * no) + 5) + i2) (jn ((6 * r') + i2))) fo go) := hD
          refine lv_iinc (v := nI (i2 + 1)) (lv' := [(4, .int (nI (i2 + 1))), (0, .ref (b 0)), (1, .int (nI r')), (2, .int g), (3, .int (nI (11 * no)))]) hx hb qd_M_tell_86 hl (k := 4) rfl (mk_inc i2) (by decide) rfl (fun ls hl => ?_)
          refine lv_goto (tgt := 56) hx hb qd_M_tell_89 (by decide) ?_
          exact ih_4 ((i2 + 1), (upd o2 (((11 * no) + 5) + i2) (jn ((6 * r') + i2)))) H locs ls ⟨by omega, hP, hD, hS, lv_sub hl [1, 2, 3, 4, 0] rfl⟩
      · obtain ⟨i2, o2⟩ := y9
        obtain ⟨hinv, hP, hD, hS, hl⟩ := hI
        have hinv : i2 + 0 = 6 := hinv
        have hP : va_P (dC, dI) vwCl (wM b cA cB y ma ve rw jn o2 fo go) H := hP
        have hD : va_D A (wM b cA cB y ma ve rw jn o2 fo go) := hD
        have hl : lv_has ls 5 [(0, .ref (b 0)), (1, .int (nI r')), (2, .int g), (3, .int (nI (11 * no))), (4, .int (nI i2))] := hl
        refine lv_iload hx hb qd_M_tell_56 (lv_at hl 4 rfl) ?_
        refine lv_bipush (v := 6) hx hb qd_M_tell_58 (by decide) ?_
        refine lv_icmp_ge (tgt := 92) hx hb qd_M_tell_60 (by decide) (fun c_6 => ?_) (fun c_6 => ?_)
        · refine lv_aload_n hx hb qd_M_tell_92 rfl (lv_at hl 0 rfl) ?_
          refine lv_dup hx hb qd_M_tell_93 rfl ?_
          refine va_get (D := (dC, dI)) (ci := 1) (v := .int (y 21)) (C := qR_M) (T := qT_M) (N := 24) hx hb hts qin_M hown hK hP 0 rfl rfl 21 (by decide) (hts _ mw_423) (fun _ h9 => h9) rfl qd_M_tell_94 ?_
          refine lv_iconst (v := 1) hx hb qd_M_tell_97 (by decide) ?_
          refine lv_iadd hx hb qd_M_tell_98 ?_
          refine mk_rw (y := nI (no + 1)) (by rw [hno]; exact nI_1 no) ?_
          refine va_put (D := (dC, dI)) (ci := 1) (v := .int (nI (no + 1))) (ty := .int) (C := qR_M) (T := qT_M) (N := 24) hx hb hts qin_M qty_M qtyok_M qnm_M hown hK hP hD hS 0 rfl rfl 21 (by decide) (hts _ mw_423) (fun _ h9 => h9) rfl (by decide +kernel) rfl rfl (Nat.le_of_ble_eq_true rfl) qd_M_tell_99 (fun H locs hP hD hS => ?_)
          have hP : va_P (dC, dI) vwCl (wM b cA cB (upd y 21 (nI (no + 1))) ma ve rw jn o2 fo go) H := hP
          have hD : va_D A (wM b cA cB (upd y 21 (nI (no + 1))) ma ve rw jn o2 fo go) := hD
          refine lv_aload_n hx hb qd_M_tell_102 rfl (lv_at hl 0 rfl) ?_
          refine mk_meetH (D := (dC, dI)) (cl := vwCl) (ws := (wM b cA cB (upd y 21 (nI (no + 1))) ma ve rw jn o2 fo go)) (A0 := A) (H0 := s.heap) (fun v => True) (fun v => F0 m 121 ls (.int v :: .ref (b 0) :: [])) (fun v_8 H locs hv_8 hP hS => ?_) (fun J_7 => ?_)
          · have hv_8 : True := hv_8
            refine va_put (D := (dC, dI)) (ci := 1) (v := .int v_8) (ty := .int) (C := qR_M) (T := qT_M) (N := 24) hx hb hts qin_M qty_M qtyok_M qnm_M hown hK hP hD hS 0 rfl rfl 15 (by decide) (hts _ mw_417) (fun _ h9 => h9) rfl (by decide +kernel) rfl rfl (Nat.le_of_ble_eq_true rfl) qd_M_tell_121 (fun H locs hP hD hS => ?_)
            have hP : va_P (dC, dI) vwCl (wM b cA cB (upd (upd y 21 (nI (no + 1))) 15 v_8) ma ve rw jn o2 fo go) H := hP
            have hD : va_D A (wM b cA cB (upd (upd y 21 (nI (no + 1))) 15 v_8) ma ve rw jn o2 fo go) := hD
            refine lv_aload_n hx hb qd_M_tell_124 rfl (lv_at hl 0 rfl) ?_
            refine mk_meetH (D := (dC, dI)) (cl := vwCl) (ws := (wM b cA cB (upd (upd y 21 (nI (no + 1))) 15 v_8) ma ve rw jn o2 fo go)) (A0 := A) (H0 := s.heap) (fun v => True) (fun v => F0 m 143 ls (.int v :: .ref (b 0) :: [])) (fun v_10 H locs hv_10 hP hS => ?_) (fun J_9 => ?_)
            · have hv_10 : True := hv_10
              refine va_put (D := (dC, dI)) (ci := 1) (v := .int v_10) (ty := .int) (C := qR_M) (T := qT_M) (N := 24) hx hb hts qin_M qty_M qtyok_M qnm_M hown hK hP hD hS 0 rfl rfl 16 (by decide) (hts _ mw_418) (fun _ h9 => h9) rfl (by decide +kernel) rfl rfl (Nat.le_of_ble_eq_true rfl) qd_M_tell_143 (fun H locs hP hD hS => ?_)
              have hP : va_P (dC, dI) vwCl (wM b cA cB (upd (upd (upd y 21 (nI (no + 1))) 15 v_8) 16 v_10) ma ve rw jn o2 fo go) H := hP
              have hD : va_D A (wM b cA cB (upd (upd (upd y 21 (nI (no + 1))) 15 v_8) 16 v_10) ma ve rw jn o2 fo go) := hD
              exact mk_mvret ((upd (upd (upd y 21 (nI (no + 1))) 15 v_8) 16 v_10), o2) hx hb hr hlocks hP hK hD hS qd_M_tell_146 (⟨my_tell, rfl⟩)
            · refine lv_iload_n hx hb qd_M_tell_125 rfl (lv_at hl 2 rfl) ?_
              refine lv_iconst (v := 1) hx hb qd_M_tell_126 (by decide) ?_
              refine lv_icmp_ne (tgt := 137) hx hb qd_M_tell_127 (by decide) (fun c_11 => ?_) (fun c_11 => ?_)
              · refine lv_aload_n hx hb qd_M_tell_137 rfl (lv_at hl 0 rfl) ?_
                refine va_get (D := (dC, dI)) (ci := 1) (v := .int (y 16)) (C := qR_M) (T := qT_M) (N := 24) hx hb hts qin_M hown hK hP 0 rfl rfl 16 (by decide) (hts _ mw_418) (fun _ h9 => h9) rfl qd_M_tell_138 ?_
                refine lv_iconst (v := 1) hx hb qd_M_tell_141 (by decide) ?_
                refine lv_iadd hx hb qd_M_tell_142 ?_
                exact J_9 _ H locs (trivial) hP hS
              · refine lv_aload_n hx hb qd_M_tell_130 rfl (lv_at hl 0 rfl) ?_
                refine va_get (D := (dC, dI)) (ci := 1) (v := .int (y 16)) (C := qR_M) (T := qT_M) (N := 24) hx hb hts qin_M hown hK hP 0 rfl rfl 16 (by decide) (hts _ mw_418) (fun _ h9 => h9) rfl qd_M_tell_131 ?_
                refine lv_goto (tgt := 143) hx hb qd_M_tell_134 (by decide) ?_
                exact J_9 _ H locs (trivial) hP hS
          · refine lv_iload_n hx hb qd_M_tell_103 rfl (lv_at hl 2 rfl) ?_
            refine lv_iconst (v := 1) hx hb qd_M_tell_104 (by decide) ?_
            refine lv_icmp_ne (tgt := 117) hx hb qd_M_tell_105 (by decide) (fun c_12 => ?_) (fun c_12 => ?_)
            · refine lv_aload_n hx hb qd_M_tell_117 rfl (lv_at hl 0 rfl) ?_
              refine va_get (D := (dC, dI)) (ci := 1) (v := .int (y 15)) (C := qR_M) (T := qT_M) (N := 24) hx hb hts qin_M hown hK hP 0 rfl rfl 15 (by decide) (hts _ mw_417) (fun _ h9 => h9) rfl qd_M_tell_118 ?_
              exact J_7 _ H locs (trivial) hP hS
            · refine lv_aload_n hx hb qd_M_tell_108 rfl (lv_at hl 0 rfl) ?_
              refine va_get (D := (dC, dI)) (ci := 1) (v := .int (y 15)) (C := qR_M) (T := qT_M) (N := 24) hx hb hts qin_M hown hK hP 0 rfl rfl 15 (by decide) (hts _ mw_417) (fun _ h9 => h9) rfl qd_M_tell_109 ?_
              refine lv_iconst (v := 1) hx hb qd_M_tell_112 (by decide) ?_
              refine lv_iadd hx hb qd_M_tell_113 ?_
              refine lv_goto (tgt := 121) hx hb qd_M_tell_114 (by decide) ?_
              exact J_7 _ H locs (trivial) hP hS
        · exact absurd (show nI 6 ≤ nI i2 from nI_le (by omega) (by omega)) c_6
    · exact absurd (show nI 4 ≤ nI i from nI_le (by omega) (by omega)) c_3
set_option maxHeartbeats 4000000 in
set_option maxRecDepth 100000 in
/-- take(r) -/
theorem c_M_take (l : Launch) (dC : Nat → ClassId) (dI : Nat → Nat → Nat) (cA : ClassId) (sz : Nat) (cB : ClassId) (b : Nat → Nat) (y ma ve rw jn ou fo go : Nat → Int32) (nt : Nat) (hnt : y 1 = nI nt) (ht3 : nt ≤ 3) (no : Nat) (hno : y 21 = nI no) (hno2 : no < 199) (r' : Nat) (hr9 : r' < 96) : Met l qy_M_take qw_M_take ({ frames := 1, cells := 0, slots := 0, locals := 24 }) (mk_mu [.ref (b 0), .int (nI r')] sz (dC, dI) vwCl [(cA, .int), (cB, .boolean)] (wM b cA cB y ma ve rw jn ou fo go)) (mk_muV (S := (Nat → Int32) × (Nat → Int32) × (Nat → Int32) × (Nat → Int32)) (fun u => my_same y u.1 ∧ (∃ no', no' ≤ no + 1 ∧ u.1 21 = nI no') ∧ ∃ g, u.2.1 = upd (upd rw (6 * r' + 4) 0) (6 * r' + 5) g) (fun u => (wM b cA cB u.1 ma ve u.2.1 u.2.2.1 u.2.2.2 fo go)) (dC, dI) vwCl [(cA, .int), (cB, .boolean)] (va_A (wM b cA cB y ma ve rw jn ou fo go) sz)) 0 0 (va_A (wM b cA cB y ma ve rw jn ou fo go) sz) := by
  refine Met.ofW (cc := qb_M_take) (maxL := 3) (ret := none) (by decide) rfl ?_
  intro p e s m args below meth c s₁ B hml hpre
  obtain ⟨rfl, hsz, hP, hK, hD0⟩ := hpre
  have hx := B.exec
  have hb := B.bytes
  have hr := B.returns
  have hts0 := atoms_spec (ws := qw_M_take) B.pre
  have hts := fun w (h : w ∈ lw_gd) => hts0 w (List.mem_cons_of_mem _ h)
  have hown : s.vm.findClass qR_M = some m.cls := findClass_of_methodNamed B.named
  have hlocks := B.notSynchronized
  subst hsz
  have hD := hD0.self (sz := s.heap.size)
  generalize hAe : va_A (wM b cA cB y ma ve rw jn ou fo go) s.heap.size = A at hD ⊢
  have hA : ∀ q : Nat, s.heap.size ≤ q → A q := fun q h => by rw [← hAe]; exact Or.inr h
  have hS : va_S A s.heap s.heap [] := va_S.rf
  have hl := lv_entry ([.ref (b 0), .int (nI r')]) (n := 3) (Nat.le_of_ble_eq_true rfl)
  rw [lg_entry_eq]
  generalize (lg_sl ([.ref (b 0), .int (nI r')]) ++ List.replicate (3 - (lg_sl ([.ref (b 0), .int (nI r')])).length) Slot.unset).toArray = ls at hl ⊢
  have hl : lv_has ls 3 [(0, .ref (b 0)), (1, .int (nI r'))] := hl
  have hP : va_P (dC, dI) vwCl (wM b cA cB y ma ve rw jn ou fo go) s.heap := hP
  refine mk_start (A := A) hP (fun H locs hP hS => ?_)
  refine lv_iconst (v := 0) hx hb qd_M_take_0 (by decide) ?_
  refine mk_rw (y := nI 0) (rfl) ?_
  refine lv_istore_n (lv' := [(2, .int (nI 0)), (0, .ref (b 0)), (1, .int (nI r'))]) hx hb qd_M_take_1 rfl hl (by decide) rfl (fun ls hl => ?_)
  refine mk_loop (σ := Nat × (Nat → Int32)) (fun n y9 H locs ls => (y9.1 + n = 6) ∧ va_P (dC, dI) vwCl (wM b cA cB y ma ve rw y9.2 ou fo go) H ∧ va_D A (wM b cA cB y ma ve rw y9.2 ou fo go) ∧ va_S A s.heap H locs ∧ lv_has ls 3 [(0, .ref (b 0)), (1, .int (nI r')), (2, .int (nI y9.1))]) (fun ls => F0 m 2 ls []) (fun n y9 H locs ls hI ih_1 => ?_) (fun y9 H locs ls hI => ?_) 6 (0, jn) H locs ls ⟨rfl, hP, hD, hS, lv_sub hl [1, 2, 0] rfl⟩
  · obtain ⟨i, j1⟩ := y9
    obtain ⟨hinv, hP, hD, hS, hl⟩ := hI
    have hinv : i + (n + 1) = 6 := hinv
    have hP : va_P (dC, dI) vwCl (wM b cA cB y ma ve rw j1 ou fo go) H := hP
    have hD : va_D A (wM b cA cB y ma ve rw j1 ou fo go) := hD
    have hl : lv_has ls 3 [(0, .ref (b 0)), (1, .int (nI r')), (2, .int (nI i))] := hl
    refine lv_iload_n hx hb qd_M_take_2 rfl (lv_at hl 2 rfl) ?_
    refine lv_bipush (v := 6) hx hb qd_M_take_3 (by decide) ?_
    refine lv_icmp_ge (tgt := 31) hx hb qd_M_take_5 (by decide) (fun c_2 => ?_) (fun c_2 => ?_)
    · exact absurd c_2 (nI_ge (a := i) (b := 6) (by omega) (by decide))
    · refine lv_aload_n hx hb qd_M_take_8 rfl (lv_at hl 0 rfl) ?_
      refine va_get (D := (dC, dI)) (ci := 1) (v := .ref (b 4)) (C := qR_M) (T := qT_M) (N := 24) hx hb hts qin_M hown hK hP 0 rfl rfl 12 (by decide) (hts _ mw_414) (fun _ h9 => h9) rfl qd_M_take_9 ?_
      refine lv_bipush (v := 6) hx hb qd_M_take_12 (by decide) ?_
      refine lv_iload_n hx hb qd_M_take_14 rfl (lv_at hl 1 rfl) ?_
      refine lv_imul hx hb qd_M_take_15 ?_
      refine lv_iload_n hx hb qd_M_take_16 rfl (lv_at hl 2 rfl) ?_
      refine lv_iadd hx hb qd_M_take_17 ?_
      refine lv_aload_n hx hb qd_M_take_18 rfl (lv_at hl 0 rfl) ?_
      refine va_get (D := (dC, dI)) (ci := 1) (v := .ref (b 6)) (C := qR_M) (T := qT_M) (N := 24) hx hb hts qin_M hown hK hP 0 rfl rfl 22 (by decide) (hts _ mw_424) (fun _ h9 => h9) rfl qd_M_take_19 ?_
      refine lv_iload_n hx hb qd_M_take_22 rfl (lv_at hl 2 rfl) ?_
      refine va_iald (i := (nI i)) hx hb hK hP 6 0 rfl rfl (vp_in_nI (by omega) (by omega)) qd_M_take_23 ?_
      refine mk_rw (y := fo i) (congrArg _ (nI_clamp (by omega))) ?_
      refine mk_rw2 (y := nI ((6 * r') + i)) (by show ((nI 6) * (nI r')) + (nI i) = _; simp only [pk_mul, nI_add]) ?_
      refine va_iast (i := (nI ((6 * r') + i))) (x := (fo i)) hx hb hK hP hD hS 4 0 rfl rfl (vp_in_nI (by omega) (by omega)) qd_M_take_24 (fun H locs hP hD hS => ?_)
      rw [show Int32.toNatClampNeg (nI ((6 * r') + i)) = ((6 * r') + i) from (nI_clamp (by omega))] at hP hD
      have hP : va_P (dC, dI) vwCl (wM b cA cB y ma ve rw (upd j1 ((6 * r') + i) (fo i)) ou fo go) H := hP
      have hD : va_D A (wM b cA cB y ma ve rw (upd j1 ((6 * r') + i) (fo i)) ou fo go) := hD
      refine lv_iinc (v := nI (i + 1)) (lv' := [(2, .int (nI (i + 1))), (0, .ref (b 0)), (1, .int (nI r'))]) hx hb qd_M_take_25 hl (k := 2) rfl (mk_inc i) (by decide) rfl (fun ls hl => ?_)
      refine lv_goto (tgt := 2) hx hb qd_M_take_28 (by decide) ?_
      exact ih_1 ((i + 1), (upd j1 ((6 * r') + i) (fo i))) H locs ls ⟨by omega, hP, hD, hS, lv_sub hl [1, 2, 0] rfl⟩
  · obtain ⟨i, j1⟩ := y9
    obtain ⟨hinv, hP, hD, hS, hl⟩ := hI
    have hinv : i + 0 = 6 := hinv
    have hP : va_P (dC, dI) vwCl (wM b cA cB y ma ve rw j1 ou fo go) H := hP
    have hD : va_D A (wM b cA cB y ma ve rw j1 ou fo go) := hD
    have hl : lv_has ls 3 [(0, .ref (b 0)), (1, .int (nI r')), (2, .int (nI i))] := hl
    refine lv_iload_n hx hb qd_M_take_2 rfl (lv_at hl 2 rfl) ?_
    refine lv_bipush (v := 6) hx hb qd_M_take_3 (by decide) ?_
    refine lv_icmp_ge (tgt := 31) hx hb qd_M_take_5 (by decide) (fun c_3 => ?_) (fun c_3 => ?_)
    · refine lv_aload_n hx hb qd_M_take_31 rfl (lv_at hl 0 rfl) ?_
      refine va_get (D := (dC, dI)) (ci := 1) (v := .ref (b 3)) (C := qR_M) (T := qT_M) (N := 24) hx hb hts qin_M hown hK hP 0 rfl rfl 11 (by decide) (hts _ mw_413) (fun _ h9 => h9) rfl qd_M_take_32 ?_
      refine lv_bipush (v := 6) hx hb qd_M_take_35 (by decide) ?_
      refine lv_iload_n hx hb qd_M_take_37 rfl (lv_at hl 1 rfl) ?_
      refine lv_imul hx hb qd_M_take_38 ?_
      refine lv_iconst (v := 4) hx hb qd_M_take_39 (by decide) ?_
      refine lv_iadd hx hb qd_M_take_40 ?_
      refine lv_iconst (v := 0) hx hb qd_M_take_41 (by decide) ?_
      refine mk_rw2 (y := nI ((6 * r') + 4)) (by show ((nI 6) * (nI r')) + (nI 4) = _; simp only [pk_mul, nI_add]) ?_
      refine va_iast (i := (nI ((6 * r') + 4))) (x := 0) hx hb hK hP hD hS 3 0 rfl rfl (vp_in_nI (by omega) (by omega)) qd_M_take_42 (fun H locs hP hD hS => ?_)
      rw [show Int32.toNatClampNeg (nI ((6 * r') + 4)) = ((6 * r') + 4) from (nI_clamp (by omega))] at hP hD
      have hP : va_P (dC, dI) vwCl (wM b cA cB y ma ve (upd rw ((6 * r') + 4) 0) j1 ou fo go) H := hP
      have hD : va_D A (wM b cA cB y ma ve (upd rw ((6 * r') + 4) 0) j1 ou fo go) := hD
      refine lv_aload_n hx hb qd_M_take_43 rfl (lv_at hl 0 rfl) ?_
      refine va_get (D := (dC, dI)) (ci := 1) (v := .ref (b 3)) (C := qR_M) (T := qT_M) (N := 24) hx hb hts qin_M hown hK hP 0 rfl rfl 11 (by decide) (hts _ mw_413) (fun _ h9 => h9) rfl qd_M_take_44 ?_
      refine lv_bipush (v := 6) hx hb qd_M_take_47 (by decide) ?_
      refine lv_iload_n hx hb qd_M_take_49 rfl (lv_at hl 1 rfl) ?_
      refine lv_imul hx hb qd_M_take_50 ?_
      refine lv_iconst (v := 5) hx hb qd_M_take_51 (by decide) ?_
      refine lv_iadd hx hb qd_M_take_52 ?_
      refine mk_meetH (D := (dC, dI)) (cl := vwCl) (ws := (wM b cA cB y ma ve (upd rw ((6 * r') + 4) 0) j1 ou fo go)) (A0 := A) (H0 := s.heap) (fun v => True) (fun v => F0 m 65 ls (.int v :: .int ((6 * (nI r')) + 5) :: .ref (b 3) :: [])) (fun v_5 H locs hv_5 hP hS => ?_) (fun J_4 => ?_)
      · have hv_5 : True := hv_5
        refine mk_rw2 (y := nI ((6 * r') + 5)) (by show ((nI 6) * (nI r')) + (nI 5) = _; simp only [pk_mul, nI_add]) ?_
        refine va_iast (i := (nI ((6 * r') + 5))) (x := v_5) hx hb hK hP hD hS 3 0 rfl rfl (vp_in_nI (by omega) (by omega)) qd_M_take_65 (fun H locs hP hD hS => ?_)
        rw [show Int32.toNatClampNeg (nI ((6 * r') + 5)) = ((6 * r') + 5) from (nI_clamp (by omega))] at hP hD
        have hP : va_P (dC, dI) vwCl (wM b cA cB y ma ve (upd (upd rw ((6 * r') + 4) 0) ((6 * r') + 5) v_5) j1 ou fo go) H := hP
        have hD : va_D A (wM b cA cB y ma ve (upd (upd rw ((6 * r') + 4) 0) ((6 * r') + 5) v_5) j1 ou fo go) := hD
        refine lv_aload_n hx hb qd_M_take_66 rfl (lv_at hl 0 rfl) ?_
        refine va_get (D := (dC, dI)) (ci := 1) (v := .ref (b 3)) (C := qR_M) (T := qT_M) (N := 24) hx hb hts qin_M hown hK hP 0 rfl rfl 11 (by decide) (hts _ mw_413) (fun _ h9 => h9) rfl qd_M_take_67 ?_
        refine lv_bipush (v := 6) hx hb qd_M_take_70 (by decide) ?_
        refine lv_iload_n hx hb qd_M_take_72 rfl (lv_at hl 1 rfl) ?_
        refine lv_imul hx hb qd_M_take_73 ?_
        refine lv_iconst (v := 5) hx hb qd_M_take_74 (by decide) ?_
        refine lv_iadd hx hb qd_M_take_75 ?_
        refine mk_rw (y := nI ((6 * r') + 5)) (by show ((nI 6) * (nI r')) + (nI 5) = _; simp only [pk_mul, nI_add]) ?_
        refine va_iald (i := (nI ((6 * r') + 5))) hx hb hK hP 3 0 rfl rfl (vp_in_nI (by omega) (by omega)) qd_M_take_76 ?_
        refine mk_rw (y := (upd (upd rw ((6 * r') + 4) 0) ((6 * r') + 5) v_5) ((6 * r') + 5)) (congrArg _ (nI_clamp (by omega))) ?_
        refine lv_iconst (v := 1) hx hb qd_M_take_77 (by decide) ?_
        refine lv_icmp_ne (tgt := 87) hx hb qd_M_take_78 (by decide) (fun c_6 => ?_) (fun c_6 => ?_)
        · exact mk_mvret (y, (upd (upd rw ((6 * r') + 4) 0) ((6 * r') + 5) v_5), j1, ou) hx hb hr hlocks hP hK hD hS qd_M_take_87 ⟨my_rf y, ⟨no, Nat.le_succ _, hno⟩, _, rfl⟩
        · refine lv_aload_n hx hb qd_M_take_81 rfl (lv_at hl 0 rfl) ?_
          refine lv_iload_n hx hb qd_M_take_82 rfl (lv_at hl 1 rfl) ?_
          refine lv_iconst (v := 1) hx hb qd_M_take_83 (by decide) ?_
          refine mk_mcallv (wr := []) (wf := (fun u => (wM b cA cB u.1 ma ve (upd (upd rw ((6 * r') + 4) 0) ((6 * r') + 5) v_5) j1 u.2 fo go))) (va_runV (As := [.int (nI r'), .int 1]) (rest := []) ⟨hx, hb, hml, hown, hts⟩ (c_M_tell l dC dI cA H.size cB b y ma ve (upd (upd rw ((6 * r') + 4) 0) ((6 * r') + 5) v_5) j1 ou fo go no hno hno2 r' hr9 1) (cwV 2 hts gc_M_94 rfl rfl rfl (by decide +kernel) ⟨Nat.le_of_ble_eq_true rfl, Nat.le_of_ble_eq_true rfl⟩) (mk_muP hP hD [0, 1, 2, 3, 4, 5, 6, 7] (by decide) rfl hK (va_recv hK hP (ci := 1) (q0 := 0) rfl rfl)) rfl rfl hl.1 rfl (lv_room (Nat.le_of_ble_eq_true rfl)) qd_M_take_84 ⟨(Nat.zero_le _), (Nat.zero_le _)⟩) hS hA hP hD [0, 1, 2, 3, 4, 5, 6, 7] [] [0, 1, 2, 3, 4, 5, 6, 7] rfl rfl (by decide) (by decide) (by decide) (fun _ => rfl) (fun u_8 H locs hu_8 hP hD hS => ?_)
          obtain ⟨y1, o1⟩ := u_8
          obtain ⟨hm1, hn1⟩ : my_same y y1 ∧ y1 21 = nI (no + 1) := hu_8
          have hP : va_P (dC, dI) vwCl (wM b cA cB y1 ma ve (upd (upd rw ((6 * r') + 4) 0) ((6 * r') + 5) v_5) j1 o1 fo go) H := hP
          have hD : va_D A (wM b cA cB y1 ma ve (upd (upd rw ((6 * r') + 4) 0) ((6 * r') + 5) v_5) j1 o1 fo go) := hD
          exact mk_mvret (y1, (upd (upd rw ((6 * r') + 4) 0) ((6 * r') + 5) v_5), j1, o1) hx hb hr hlocks hP hK hD hS qd_M_take_87 ⟨hm1, ⟨no + 1, Nat.le_refl _, hn1⟩, _, rfl⟩
      · refine lv_aload_n hx hb qd_M_take_53 rfl (lv_at hl 0 rfl) ?_
        refine mk_calli (va_runV (As := []) (rest := [.int ((6 * (nI r')) + 5), .ref (b 3)]) ⟨hx, hb, hml, hown, hts⟩ (c_M_isGiven l dC dI cA H.size cB b y ma ve (upd rw ((6 * r') + 4) 0) j1 ou fo go nt hnt ht3) (cwV 0 hts gc_M_90 rfl rfl rfl (by decide +kernel) ⟨Nat.le_of_ble_eq_true rfl, Nat.le_of_ble_eq_true rfl⟩) (mk_roV hP [0, 1, 2, 3, 4, 5, 6, 7] rfl hK (va_recv hK hP (ci := 1) (q0 := 0) rfl rfl)) rfl rfl hl.1 rfl (lv_room (Nat.le_of_ble_eq_true rfl)) qd_M_take_54 ⟨(Nat.zero_le _), (Nat.zero_le _)⟩) hS hA hP (fun r_9 H locs hr_9 hP hS => ?_)
        refine lv_if_eq (tgt := 64) hx hb qd_M_take_57 (by decide) (fun c_10 => ?_) (fun c_10 => ?_)
        · refine lv_iconst (v := 0) hx hb qd_M_take_64 (by decide) ?_
          exact J_4 _ H locs (trivial) hP hS
        · refine lv_iconst (v := 1) hx hb qd_M_take_60 (by decide) ?_
          refine lv_goto (tgt := 65) hx hb qd_M_take_61 (by decide) ?_
          exact J_4 _ H locs (trivial) hP hS
    · exact absurd (show nI 6 ≤ nI i from nI_le (by omega) (by omega)) c_3
