set_option maxHeartbeats 4000000 in
set_option maxRecDepth 100000 in
/-- dropRows() -/
theorem c_M_dropRows (l : Launch) (dC : Nat → ClassId) (dI : Nat → Nat → Nat) (cA : ClassId) (sz : Nat) (cB : ClassId) (b : Nat → Nat) (y ma ve rw jn ou fo go : Nat → Int32) (nr : Nat) (hnr : y 13 = nI nr) (hr96 : nr ≤ 96) : Met l qy_M_dropRows qw_M_dropRows ({ frames := 1, cells := 0, slots := 0, locals := 30 }) (mk_mu [.ref (b 0)] sz (dC, dI) vwCl [(cA, .int), (cB, .boolean)] (wM b cA cB y ma ve rw jn ou fo go)) (mk_muV (S := (Nat → Int32) × (Nat → Int32) × (Nat → Int32)) (fun u => ∃ n', n' ≤ nr ∧ u.1 = upd (upd y 17 (y 17 + nI nr - nI n')) 13 (nI n') ∧ mrl u.2.1 n' = (mrl rw nr).filter (mkeep (y 8 - y 5))) (fun u => (wM b cA cB u.1 ma ve u.2.1 u.2.2 ou fo go)) (dC, dI) vwCl [(cA, .int), (cB, .boolean)] (va_A (wM b cA cB y ma ve rw jn ou fo go) sz)) 0 0 (va_A (wM b cA cB y ma ve rw jn ou fo go) sz) := by
  refine Met.ofW (cc := qb_M_dropRows) (maxL := 5) (ret := none) (by decide) rfl ?_
  intro p e s m args below meth c s₁ B hml hpre
  obtain ⟨rfl, hsz, hP, hK, hD0⟩ := hpre
  have hx := B.exec
  have hb := B.bytes
  have hr := B.returns
  have hts0 := atoms_spec (ws := qw_M_dropRows) B.pre
  have hts := fun w (h : w ∈ lw_gd) => hts0 w (List.mem_cons_of_mem _ h)
  have hown : s.vm.findClass qR_M = some m.cls := findClass_of_methodNamed B.named
  have hlocks := B.notSynchronized
  subst hsz
  have hD := hD0.self (sz := s.heap.size)
  generalize hAe : va_A (wM b cA cB y ma ve rw jn ou fo go) s.heap.size = A at hD ⊢
  have hA : ∀ q : Nat, s.heap.size ≤ q → A q := fun q h => by rw [← hAe]; exact Or.inr h
  have hS : va_S A s.heap s.heap [] := va_S.rf
  have hl := lv_entry ([.ref (b 0)]) (n := 5) (Nat.le_of_ble_eq_true rfl)
  rw [lg_entry_eq]
  generalize (lg_sl ([.ref (b 0)]) ++ List.replicate (5 - (lg_sl ([.ref (b 0)])).length) Slot.unset).toArray = ls at hl ⊢
  have hl : lv_has ls 5 [(0, .ref (b 0))] := hl
  have hP : va_P (dC, dI) vwCl (wM b cA cB y ma ve rw jn ou fo go) s.heap := hP
  refine mk_start (A := A) hP (fun H locs hP hS => ?_)
  refine lv_iconst (v := 0) hx hb qd_M_dropRows_0 (by decide) ?_
  refine mk_rw (y := nI 0) (rfl) ?_
  refine lv_istore_n (lv' := [(1, .int (nI 0)), (0, .ref (b 0))]) hx hb qd_M_dropRows_1 rfl hl (by decide) rfl (fun ls hl => ?_)
  refine lv_iconst (v := 0) hx hb qd_M_dropRows_2 (by decide) ?_
  refine mk_rw (y := nI 0) (rfl) ?_
  refine lv_istore_n (lv' := [(2, .int (nI 0)), (1, .int (nI 0)), (0, .ref (b 0))]) hx hb qd_M_dropRows_3 rfl hl (by decide) rfl (fun ls hl => ?_)
  refine mk_loop (σ := Nat × Nat × (Nat → Int32) × (Nat → Int32)) (fun n y9 H locs ls => (y9.1 + n = nr ∧ y9.2.1 ≤ y9.1 ∧ mrl y9.2.2.1 y9.2.1 = (mrl rw y9.1).filter (mkeep (y 8 - y 5)) ∧ ∀ i c, y9.1 ≤ i → i < nr → c < 6 → y9.2.2.1 (6 * i + c) = rw (6 * i + c)) ∧ va_P (dC, dI) vwCl (wM b cA cB y ma ve y9.2.2.1 y9.2.2.2 ou fo go) H ∧ va_D A (wM b cA cB y ma ve y9.2.2.1 y9.2.2.2 ou fo go) ∧ va_S A s.heap H locs ∧ lv_has ls 5 [(0, .ref (b 0)), (1, .int (nI y9.2.1)), (2, .int (nI y9.1))]) (fun ls => F0 m 4 ls []) (fun n y9 H locs ls hI ih_1 => ?_) (fun y9 H locs ls hI => ?_) nr (0, 0, rw, jn) H locs ls ⟨⟨Nat.zero_add _, Nat.le_refl _, rfl, fun _ _ _ _ _ => rfl⟩, hP, hD, hS, lv_sub hl [2, 1, 0] rfl⟩
  · obtain ⟨r9, n9, w1, j1⟩ := y9
    obtain ⟨hinv, hP, hD, hS, hl⟩ := hI
    have hinv : r9 + (n + 1) = nr ∧ n9 ≤ r9 ∧ mrl w1 n9 = (mrl rw r9).filter (mkeep (y 8 - y 5)) ∧ ∀ i c, r9 ≤ i → i < nr → c < 6 → w1 (6 * i + c) = rw (6 * i + c) := hinv
    have hP : va_P (dC, dI) vwCl (wM b cA cB y ma ve w1 j1 ou fo go) H := hP
    have hD : va_D A (wM b cA cB y ma ve w1 j1 ou fo go) := hD
    have hl : lv_has ls 5 [(0, .ref (b 0)), (1, .int (nI n9)), (2, .int (nI r9))] := hl
    obtain ⟨hi1, hi2, hi3, hi4⟩ := hinv
    have hrlt : r9 < nr := by omega
    have e4 : w1 (6 * r9 + 4) = rw (6 * r9 + 4) := hi4 r9 4 (Nat.le_refl _) hrlt (by decide)
    have e2 : w1 (6 * r9 + 2) = rw (6 * r9 + 2) := hi4 r9 2 (Nat.le_refl _) hrlt (by decide)
    refine lv_iload_n hx hb qd_M_dropRows_4 rfl (lv_at hl 2 rfl) ?_
    refine lv_aload_n hx hb qd_M_dropRows_5 rfl (lv_at hl 0 rfl) ?_
    refine va_get (D := (dC, dI)) (ci := 1) (v := .int (y 13)) (C := qR_M) (T := qT_M) (N := 24) hx hb hts qin_M hown hK hP 0 rfl rfl 13 (by decide) (hts _ mw_415) (fun _ h9 => h9) rfl qd_M_dropRows_6 ?_
    refine mk_rw (y := nI nr) (hnr) ?_
    refine lv_icmp_ge (tgt := 132) hx hb qd_M_dropRows_9 (by decide) (fun c_2 => ?_) (fun c_2 => ?_)
    · exact absurd c_2 (nI_ge (by omega) (by omega))
    · refine mk_meetH (D := (dC, dI)) (cl := vwCl) (ws := (wM b cA cB y ma ve w1 j1 ou fo go)) (A0 := A) (H0 := s.heap) (fun v => (v = 0 ∧ mkeep (y 8 - y 5) (mr_row rw r9) = true) ∨ (v = 1 ∧ mkeep (y 8 - y 5) (mr_row rw r9) = false)) (fun v => F0 m 49 ls (.int v :: [])) (fun v_4 H locs hv_4 hP hS => ?_) (fun J_3 => ?_)
      · have hv_4 : (v_4 = 0 ∧ mkeep (y 8 - y 5) (mr_row rw r9) = true) ∨ (v_4 = 1 ∧ mkeep (y 8 - y 5) (mr_row rw r9) = false) := hv_4
        refine lv_istore_n (lv' := [(3, .int v_4), (0, .ref (b 0)), (1, .int (nI n9)), (2, .int (nI r9))]) hx hb qd_M_dropRows_49 rfl hl (by decide) rfl (fun ls hl => ?_)
        refine lv_iconst (v := 0) hx hb qd_M_dropRows_50 (by decide) ?_
        refine mk_rw (y := nI 0) (rfl) ?_
        refine lv_istore (lv' := [(4, .int (nI 0)), (3, .int v_4), (0, .ref (b 0)), (1, .int (nI n9)), (2, .int (nI r9))]) hx hb qd_M_dropRows_51 hl (by decide) rfl (fun ls hl => ?_)
        have hP : va_P (dC, dI) vwCl (wM b cA cB y ma ve (mcp 6 w1 n9 r9 0) (mcp 6 j1 n9 r9 0) ou fo go) H := by rw [mcp_0, mcp_0]; exact hP
        have hD : va_D A (wM b cA cB y ma ve (mcp 6 w1 n9 r9 0) (mcp 6 j1 n9 r9 0) ou fo go) := by rw [mcp_0, mcp_0]; exact hD
        refine mk_loop (σ := Nat) (fun n2 y9 H locs ls => (y9 + n2 = 6) ∧ va_P (dC, dI) vwCl (wM b cA cB y ma ve (mcp 6 w1 n9 r9 y9) (mcp 6 j1 n9 r9 y9) ou fo go) H ∧ va_D A (wM b cA cB y ma ve (mcp 6 w1 n9 r9 y9) (mcp 6 j1 n9 r9 y9) ou fo go) ∧ va_S A s.heap H locs ∧ lv_has ls 5 [(0, .ref (b 0)), (1, .int (nI n9)), (2, .int (nI r9)), (3, .int v_4), (4, .int (nI y9))]) (fun ls => F0 m 53 ls []) (fun n2 y9 H locs ls hI ih_5 => ?_) (fun y9 H locs ls hI => ?_) 6 0 H locs ls ⟨rfl, hP, hD, hS, lv_sub hl [2, 3, 4, 1, 0] rfl⟩
        · obtain ⟨k, rfl⟩ : ∃ z, z = y9 := ⟨_, rfl⟩
          obtain ⟨hinv, hP, hD, hS, hl⟩ := hI
          have hinv : k + (n2 + 1) = 6 := hinv
          have hP : va_P (dC, dI) vwCl (wM b cA cB y ma ve (mcp 6 w1 n9 r9 k) (mcp 6 j1 n9 r9 k) ou fo go) H := hP
          have hD : va_D A (wM b cA cB y ma ve (mcp 6 w1 n9 r9 k) (mcp 6 j1 n9 r9 k) ou fo go) := hD
          have hl : lv_has ls 5 [(0, .ref (b 0)), (1, .int (nI n9)), (2, .int (nI r9)), (3, .int v_4), (4, .int (nI k))] := hl
          refine lv_iload hx hb qd_M_dropRows_53 (lv_at hl 4 rfl) ?_
          refine lv_bipush (v := 6) hx hb qd_M_dropRows_55 (by decide) ?_
          refine lv_icmp_ge (tgt := 114) hx hb qd_M_dropRows_57 (by decide) (fun c_6 => ?_) (fun c_6 => ?_)
          · exact absurd c_6 (nI_ge (a := k) (b := 6) (by omega) (by decide))
          · refine lv_aload_n hx hb qd_M_dropRows_60 rfl (lv_at hl 0 rfl) ?_
            refine va_get (D := (dC, dI)) (ci := 1) (v := .ref (b 3)) (C := qR_M) (T := qT_M) (N := 24) hx hb hts qin_M hown hK hP 0 rfl rfl 11 (by decide) (hts _ mw_413) (fun _ h9 => h9) rfl qd_M_dropRows_61 ?_
            refine lv_bipush (v := 6) hx hb qd_M_dropRows_64 (by decide) ?_
            refine lv_iload_n hx hb qd_M_dropRows_66 rfl (lv_at hl 1 rfl) ?_
            refine lv_imul hx hb qd_M_dropRows_67 ?_
            refine lv_iload hx hb qd_M_dropRows_68 (lv_at hl 4 rfl) ?_
            refine lv_iadd hx hb qd_M_dropRows_70 ?_
            refine lv_aload_n hx hb qd_M_dropRows_71 rfl (lv_at hl 0 rfl) ?_
            refine va_get (D := (dC, dI)) (ci := 1) (v := .ref (b 3)) (C := qR_M) (T := qT_M) (N := 24) hx hb hts qin_M hown hK hP 0 rfl rfl 11 (by decide) (hts _ mw_413) (fun _ h9 => h9) rfl qd_M_dropRows_72 ?_
            refine lv_bipush (v := 6) hx hb qd_M_dropRows_75 (by decide) ?_
            refine lv_iload_n hx hb qd_M_dropRows_77 rfl (lv_at hl 2 rfl) ?_
            refine lv_imul hx hb qd_M_dropRows_78 ?_
            refine lv_iload hx hb qd_M_dropRows_79 (lv_at hl 4 rfl) ?_
            refine lv_iadd hx hb qd_M_dropRows_81 ?_
            refine mk_rw (y := nI ((6 * r9) + k)) (by show ((nI 6) * (nI r9)) + (nI k) = _; simp only [pk_mul, nI_add]) ?_
            refine va_iald (i := (nI ((6 * r9) + k))) hx hb hK hP 3 0 rfl rfl (vp_in_nI (by omega) (by omega)) qd_M_dropRows_82 ?_
            refine mk_rw (y := (mcp 6 w1 n9 r9 k) ((6 * r9) + k)) (congrArg _ (nI_clamp (by omega))) ?_
            refine mk_rw2 (y := nI ((6 * n9) + k)) (by show ((nI 6) * (nI n9)) + (nI k) = _; simp only [pk_mul, nI_add]) ?_
            refine va_iast (i := (nI ((6 * n9) + k))) (x := ((mcp 6 w1 n9 r9 k) ((6 * r9) + k))) hx hb hK hP hD hS 3 0 rfl rfl (vp_in_nI (by omega) (by omega)) qd_M_dropRows_83 (fun H locs hP hD hS => ?_)
            rw [show Int32.toNatClampNeg (nI ((6 * n9) + k)) = ((6 * n9) + k) from (nI_clamp (by omega))] at hP hD
            have hP : va_P (dC, dI) vwCl (wM b cA cB y ma ve (upd (mcp 6 w1 n9 r9 k) ((6 * n9) + k) ((mcp 6 w1 n9 r9 k) ((6 * r9) + k))) (mcp 6 j1 n9 r9 k) ou fo go) H := hP
            have hD : va_D A (wM b cA cB y ma ve (upd (mcp 6 w1 n9 r9 k) ((6 * n9) + k) ((mcp 6 w1 n9 r9 k) ((6 * r9) + k))) (mcp 6 j1 n9 r9 k) ou fo go) := hD
            refine lv_aload_n hx hb qd_M_dropRows_84 rfl (lv_at hl 0 rfl) ?_
            refine va_get (D := (dC, dI)) (ci := 1) (v := .ref (b 4)) (C := qR_M) (T := qT_M) (N := 24) hx hb hts qin_M hown hK hP 0 rfl rfl 12 (by decide) (hts _ mw_414) (fun _ h9 => h9) rfl qd_M_dropRows_85 ?_
            refine lv_bipush (v := 6) hx hb qd_M_dropRows_88 (by decide) ?_
            refine lv_iload_n hx hb qd_M_dropRows_90 rfl (lv_at hl 1 rfl) ?_
            refine lv_imul hx hb qd_M_dropRows_91 ?_
            refine lv_iload hx hb qd_M_dropRows_92 (lv_at hl 4 rfl) ?_
            refine lv_iadd hx hb qd_M_dropRows_94 ?_
            refine lv_aload_n hx hb qd_M_dropRows_95 rfl (lv_at hl 0 rfl) ?_
            refine va_get (D := (dC, dI)) (ci := 1) (v := .ref (b 4)) (C := qR_M) (T := qT_M) (N := 24) hx hb hts qin_M hown hK hP 0 rfl rfl 12 (by decide) (hts _ mw_414) (fun _ h9 => h9) rfl qd_M_dropRows_96 ?_
            refine lv_bipush (v := 6) hx hb qd_M_dropRows_99 (by decide) ?_
            refine lv_iload_n hx hb qd_M_dropRows_101 rfl (lv_at hl 2 rfl) ?_
            refine lv_imul hx hb qd_M_dropRows_102 ?_
            refine lv_iload hx hb qd_M_dropRows_103 (lv_at hl 4 rfl) ?_
            refine lv_iadd hx hb qd_M_dropRows_105 ?_
            refine mk_rw (y := nI ((6 * r9) + k)) (by show ((nI 6) * (nI r9)) + (nI k) = _; simp only [pk_mul, nI_add]) ?_
            refine va_iald (i := (nI ((6 * r9) + k))) hx hb hK hP 4 0 rfl rfl (vp_in_nI (by omega) (by omega)) qd_M_dropRows_106 ?_
            refine mk_rw (y := (mcp 6 j1 n9 r9 k) ((6 * r9) + k)) (congrArg _ (nI_clamp (by omega))) ?_
            refine mk_rw2 (y := nI ((6 * n9) + k)) (by show ((nI 6) * (nI n9)) + (nI k) = _; simp only [pk_mul, nI_add]) ?_
            refine va_iast (i := (nI ((6 * n9) + k))) (x := ((mcp 6 j1 n9 r9 k) ((6 * r9) + k))) hx hb hK hP hD hS 4 0 rfl rfl (vp_in_nI (by omega) (by omega)) qd_M_dropRows_107 (fun H locs hP hD hS => ?_)
            rw [show Int32.toNatClampNeg (nI ((6 * n9) + k)) = ((6 * n9) + k) from (nI_clamp (by omega))] at hP hD
            have hP : va_P (dC, dI) vwCl (wM b cA cB y ma ve (upd (mcp 6 w1 n9 r9 k) ((6 * n9) + k) ((mcp 6 w1 n9 r9 k) ((6 * r9) + k))) (upd (mcp 6 j1 n9 r9 k) ((6 * n9) + k) ((mcp 6 j1 n9 r9 k) ((6 * r9) + k))) ou fo go) H := hP
            have hD : va_D A (wM b cA cB y ma ve (upd (mcp 6 w1 n9 r9 k) ((6 * n9) + k) ((mcp 6 w1 n9 r9 k) ((6 * r9) + k))) (upd (mcp 6 j1 n9 r9 k) ((6 * n9) + k) ((mcp 6 j1 n9 r9 k) ((6 * r9) + k))) ou fo go) := hD
            refine lv_iinc (v := nI (k + 1)) (lv' := [(4, .int (nI (k + 1))), (0, .ref (b 0)), (1, .int (nI n9)), (2, .int (nI r9)), (3, .int v_4)]) hx hb qd_M_dropRows_108 hl (k := 4) rfl (mk_inc k) (by decide) rfl (fun ls hl => ?_)
            refine lv_goto (tgt := 53) hx hb qd_M_dropRows_111 (by decide) ?_
            rw [mcp_s hi2, mcp_s hi2] at hP hD
            exact ih_5 (k + 1) H locs ls ⟨by omega, hP, hD, hS, lv_sub hl [1, 2, 3, 4, 0] rfl⟩
        · obtain ⟨k, rfl⟩ : ∃ z, z = y9 := ⟨_, rfl⟩
          obtain ⟨hinv, hP, hD, hS, hl⟩ := hI
          have hinv : k + 0 = 6 := hinv
          have hP : va_P (dC, dI) vwCl (wM b cA cB y ma ve (mcp 6 w1 n9 r9 k) (mcp 6 j1 n9 r9 k) ou fo go) H := hP
          have hD : va_D A (wM b cA cB y ma ve (mcp 6 w1 n9 r9 k) (mcp 6 j1 n9 r9 k) ou fo go) := hD
          have hl : lv_has ls 5 [(0, .ref (b 0)), (1, .int (nI n9)), (2, .int (nI r9)), (3, .int v_4), (4, .int (nI k))] := hl
          have ek : k = 6 := by omega
          refine lv_iload hx hb qd_M_dropRows_53 (lv_at hl 4 rfl) ?_
          refine lv_bipush (v := 6) hx hb qd_M_dropRows_55 (by decide) ?_
          refine lv_icmp_ge (tgt := 114) hx hb qd_M_dropRows_57 (by decide) (fun c_7 => ?_) (fun c_7 => ?_)
          · rw [ek] at hP hD
            refine lv_iload_n hx hb qd_M_dropRows_114 rfl (lv_at hl 3 rfl) ?_
            refine lv_if_eq (tgt := 122) hx hb qd_M_dropRows_115 (by decide) (fun c_8 => ?_) (fun c_8 => ?_)
            · refine lv_iload_n hx hb qd_M_dropRows_122 rfl (lv_at hl 1 rfl) ?_
              refine lv_iconst (v := 1) hx hb qd_M_dropRows_123 (by decide) ?_
              refine lv_iadd hx hb qd_M_dropRows_124 ?_
              refine mk_rw (y := nI (n9 + 1)) (nI_1 n9) ?_
              refine lv_istore_n (lv' := [(1, .int (nI (n9 + 1))), (0, .ref (b 0)), (2, .int (nI r9)), (3, .int v_4), (4, .int (nI k))]) hx hb qd_M_dropRows_125 rfl hl (by decide) rfl (fun ls hl => ?_)
              refine lv_iinc (v := nI (r9 + 1)) (lv' := [(2, .int (nI (r9 + 1))), (1, .int (nI (n9 + 1))), (0, .ref (b 0)), (3, .int v_4), (4, .int (nI k))]) hx hb qd_M_dropRows_126 hl (k := 2) rfl (mk_inc r9) (by decide) rfl (fun ls hl => ?_)
              refine lv_goto (tgt := 4) hx hb qd_M_dropRows_129 (by decide) ?_
              have hkk := (hv_4.resolve_right (fun q => absurd (q.1.symm.trans c_8) (by decide))).2
              exact ih_1 ((r9 + 1), (n9 + 1), (mcp 6 w1 n9 r9 6), (mcp 6 j1 n9 r9 6)) H locs ls ⟨⟨by omega, (show n9 + 1 ≤ r9 + 1 by omega), md_keep hrlt hi3 hi4 hkk, fun i c h1 h2 h3 => (md_hi hi2 h1).trans (hi4 i c (by omega) h2 h3)⟩, hP, hD, hS, lv_sub hl [2, 1, 0] rfl⟩
            · refine lv_iload_n hx hb qd_M_dropRows_118 rfl (lv_at hl 1 rfl) ?_
              refine lv_goto (tgt := 125) hx hb qd_M_dropRows_119 (by decide) ?_
              refine lv_istore_n (lv' := [(1, .int (nI n9)), (0, .ref (b 0)), (2, .int (nI r9)), (3, .int v_4), (4, .int (nI k))]) hx hb qd_M_dropRows_125 rfl hl (by decide) rfl (fun ls hl => ?_)
              refine lv_iinc (v := nI (r9 + 1)) (lv' := [(2, .int (nI (r9 + 1))), (1, .int (nI n9)), (0, .ref (b 0)), (3, .int v_4), (4, .int (nI k))]) hx hb qd_M_dropRows_126 hl (k := 2) rfl (mk_inc r9) (by decide) rfl (fun ls hl => ?_)
              refine lv_goto (tgt := 4) hx hb qd_M_dropRows_129 (by decide) ?_
              have hkk := (hv_4.resolve_left (fun q => c_8 q.1)).2
              exact ih_1 ((r9 + 1), n9, (mcp 6 w1 n9 r9 6), (mcp 6 j1 n9 r9 6)) H locs ls ⟨⟨by omega, (show n9 ≤ r9 + 1 by omega), md_goes hi3 hkk, fun i c h1 h2 h3 => (md_hi hi2 h1).trans (hi4 i c (by omega) h2 h3)⟩, hP, hD, hS, lv_sub hl [2, 1, 0] rfl⟩
          · exact absurd (show nI 6 ≤ nI k from nI_le (by omega) (by omega)) c_7
      · refine lv_aload_n hx hb qd_M_dropRows_12 rfl (lv_at hl 0 rfl) ?_
        refine va_get (D := (dC, dI)) (ci := 1) (v := .ref (b 3)) (C := qR_M) (T := qT_M) (N := 24) hx hb hts qin_M hown hK hP 0 rfl rfl 11 (by decide) (hts _ mw_413) (fun _ h9 => h9) rfl qd_M_dropRows_13 ?_
        refine lv_bipush (v := 6) hx hb qd_M_dropRows_16 (by decide) ?_
        refine lv_iload_n hx hb qd_M_dropRows_18 rfl (lv_at hl 2 rfl) ?_
        refine lv_imul hx hb qd_M_dropRows_19 ?_
        refine lv_iconst (v := 4) hx hb qd_M_dropRows_20 (by decide) ?_
        refine lv_iadd hx hb qd_M_dropRows_21 ?_
        refine mk_rw (y := nI ((6 * r9) + 4)) (by show ((nI 6) * (nI r9)) + (nI 4) = _; simp only [pk_mul, nI_add]) ?_
        refine va_iald (i := (nI ((6 * r9) + 4))) hx hb hK hP 3 0 rfl rfl (vp_in_nI (by omega) (by omega)) qd_M_dropRows_22 ?_
        refine mk_rw (y := w1 ((6 * r9) + 4)) (congrArg _ (nI_clamp (by omega))) ?_
        refine lv_if_ne (tgt := 48) hx hb qd_M_dropRows_23 (by decide) (fun c_9 => ?_) (fun c_9 => ?_)
        · refine lv_iconst (v := 0) hx hb qd_M_dropRows_48 (by decide) ?_
          exact J_3 _ H locs (Or.inl ⟨rfl, mk_k1 (by rw [← e4]; exact c_9)⟩) hP hS
        · refine lv_aload_n hx hb qd_M_dropRows_26 rfl (lv_at hl 0 rfl) ?_
          refine va_get (D := (dC, dI)) (ci := 1) (v := .ref (b 3)) (C := qR_M) (T := qT_M) (N := 24) hx hb hts qin_M hown hK hP 0 rfl rfl 11 (by decide) (hts _ mw_413) (fun _ h9 => h9) rfl qd_M_dropRows_27 ?_
          refine lv_bipush (v := 6) hx hb qd_M_dropRows_30 (by decide) ?_
          refine lv_iload_n hx hb qd_M_dropRows_32 rfl (lv_at hl 2 rfl) ?_
          refine lv_imul hx hb qd_M_dropRows_33 ?_
          refine lv_iconst (v := 2) hx hb qd_M_dropRows_34 (by decide) ?_
          refine lv_iadd hx hb qd_M_dropRows_35 ?_
          refine mk_rw (y := nI ((6 * r9) + 2)) (by show ((nI 6) * (nI r9)) + (nI 2) = _; simp only [pk_mul, nI_add]) ?_
          refine va_iald (i := (nI ((6 * r9) + 2))) hx hb hK hP 3 0 rfl rfl (vp_in_nI (by omega) (by omega)) qd_M_dropRows_36 ?_
          refine mk_rw (y := w1 ((6 * r9) + 2)) (congrArg _ (nI_clamp (by omega))) ?_
          refine lv_aload_n hx hb qd_M_dropRows_37 rfl (lv_at hl 0 rfl) ?_
          refine mk_calli (va_runV (As := []) (rest := [.int (w1 ((6 * r9) + 2))]) ⟨hx, hb, hml, hown, hts⟩ (c_M_horizon l dC dI cA H.size cB b y ma ve w1 j1 ou fo go) (cwV 0 hts gc_M_122 rfl rfl rfl (by decide +kernel) ⟨Nat.le_of_ble_eq_true rfl, Nat.le_of_ble_eq_true rfl⟩) (mk_roV hP [0, 1, 2, 3, 4, 5, 6, 7] rfl hK (va_recv hK hP (ci := 1) (q0 := 0) rfl rfl)) rfl rfl hl.1 rfl (lv_room (Nat.le_of_ble_eq_true rfl)) qd_M_dropRows_38 ⟨(Nat.zero_le _), (Nat.zero_le _)⟩) hS hA hP (fun r_10 H locs hr_10 hP hS => ?_)
          obtain rfl : r_10 = y 8 - y 5 := hr_10
          refine lv_icmp_gt (tgt := 48) hx hb qd_M_dropRows_41 (by decide) (fun c_11 => ?_) (fun c_11 => ?_)
          · refine lv_iconst (v := 0) hx hb qd_M_dropRows_48 (by decide) ?_
            exact J_3 _ H locs (Or.inl ⟨rfl, mk_k2 (by rw [← e2]; exact c_11)⟩) hP hS
          · refine lv_iconst (v := 1) hx hb qd_M_dropRows_44 (by decide) ?_
            refine lv_goto (tgt := 49) hx hb qd_M_dropRows_45 (by decide) ?_
            exact J_3 _ H locs (Or.inr ⟨rfl, mk_k3 (by rw [← e4]; exact c_9) (by rw [← e2]; exact c_11)⟩) hP hS
  · obtain ⟨r9, n9, w1, j1⟩ := y9
    obtain ⟨hinv, hP, hD, hS, hl⟩ := hI
    have hinv : r9 + 0 = nr ∧ n9 ≤ r9 ∧ mrl w1 n9 = (mrl rw r9).filter (mkeep (y 8 - y 5)) ∧ ∀ i c, r9 ≤ i → i < nr → c < 6 → w1 (6 * i + c) = rw (6 * i + c) := hinv
    have hP : va_P (dC, dI) vwCl (wM b cA cB y ma ve w1 j1 ou fo go) H := hP
    have hD : va_D A (wM b cA cB y ma ve w1 j1 ou fo go) := hD
    have hl : lv_has ls 5 [(0, .ref (b 0)), (1, .int (nI n9)), (2, .int (nI r9))] := hl
    obtain ⟨hi1, hi2, hi3, hi4⟩ := hinv
    have er : r9 = nr := by omega
    refine lv_iload_n hx hb qd_M_dropRows_4 rfl (lv_at hl 2 rfl) ?_
    refine lv_aload_n hx hb qd_M_dropRows_5 rfl (lv_at hl 0 rfl) ?_
    refine va_get (D := (dC, dI)) (ci := 1) (v := .int (y 13)) (C := qR_M) (T := qT_M) (N := 24) hx hb hts qin_M hown hK hP 0 rfl rfl 13 (by decide) (hts _ mw_415) (fun _ h9 => h9) rfl qd_M_dropRows_6 ?_
    refine mk_rw (y := nI nr) (hnr) ?_
    refine lv_icmp_ge (tgt := 132) hx hb qd_M_dropRows_9 (by decide) (fun c_12 => ?_) (fun c_12 => ?_)
    · refine lv_aload_n hx hb qd_M_dropRows_132 rfl (lv_at hl 0 rfl) ?_
      refine lv_aload_n hx hb qd_M_dropRows_133 rfl (lv_at hl 0 rfl) ?_
      refine va_get (D := (dC, dI)) (ci := 1) (v := .int (y 17)) (C := qR_M) (T := qT_M) (N := 24) hx hb hts qin_M hown hK hP 0 rfl rfl 17 (by decide) (hts _ mw_419) (fun _ h9 => h9) rfl qd_M_dropRows_134 ?_
      refine lv_aload_n hx hb qd_M_dropRows_137 rfl (lv_at hl 0 rfl) ?_
      refine va_get (D := (dC, dI)) (ci := 1) (v := .int (y 13)) (C := qR_M) (T := qT_M) (N := 24) hx hb hts qin_M hown hK hP 0 rfl rfl 13 (by decide) (hts _ mw_415) (fun _ h9 => h9) rfl qd_M_dropRows_138 ?_
      refine mk_rw (y := nI nr) (hnr) ?_
      refine lv_iadd hx hb qd_M_dropRows_141 ?_
      refine lv_iload_n hx hb qd_M_dropRows_142 rfl (lv_at hl 1 rfl) ?_
      refine lv_isub hx hb qd_M_dropRows_143 ?_
      refine va_put (D := (dC, dI)) (ci := 1) (v := .int (((y 17) + (nI nr)) - (nI n9))) (ty := .int) (C := qR_M) (T := qT_M) (N := 24) hx hb hts qin_M qty_M qtyok_M qnm_M hown hK hP hD hS 0 rfl rfl 17 (by decide) (hts _ mw_419) (fun _ h9 => h9) rfl (by decide +kernel) rfl rfl (Nat.le_of_ble_eq_true rfl) qd_M_dropRows_144 (fun H locs hP hD hS => ?_)
      have hP : va_P (dC, dI) vwCl (wM b cA cB (upd y 17 (((y 17) + (nI nr)) - (nI n9))) ma ve w1 j1 ou fo go) H := hP
      have hD : va_D A (wM b cA cB (upd y 17 (((y 17) + (nI nr)) - (nI n9))) ma ve w1 j1 ou fo go) := hD
      refine lv_aload_n hx hb qd_M_dropRows_147 rfl (lv_at hl 0 rfl) ?_
      refine lv_iload_n hx hb qd_M_dropRows_148 rfl (lv_at hl 1 rfl) ?_
      refine va_put (D := (dC, dI)) (ci := 1) (v := .int (nI n9)) (ty := .int) (C := qR_M) (T := qT_M) (N := 24) hx hb hts qin_M qty_M qtyok_M qnm_M hown hK hP hD hS 0 rfl rfl 13 (by decide) (hts _ mw_415) (fun _ h9 => h9) rfl (by decide +kernel) rfl rfl (Nat.le_of_ble_eq_true rfl) qd_M_dropRows_149 (fun H locs hP hD hS => ?_)
      have hP : va_P (dC, dI) vwCl (wM b cA cB (upd (upd y 17 (((y 17) + (nI nr)) - (nI n9))) 13 (nI n9)) ma ve w1 j1 ou fo go) H := hP
      have hD : va_D A (wM b cA cB (upd (upd y 17 (((y 17) + (nI nr)) - (nI n9))) 13 (nI n9)) ma ve w1 j1 ou fo go) := hD
      exact mk_mvret (upd (upd y 17 (y 17 + nI nr - nI n9)) 13 (nI n9), w1, j1) hx hb hr hlocks hP hK hD hS qd_M_dropRows_152 (⟨n9, by omega, rfl, by rw [hi3, er]⟩)
    · exact absurd (nI_le (by omega) (by omega)) c_12
set_option maxHeartbeats 4000000 in
set_option maxRecDepth 100000 in
/-- serves(from, next, time): 0 or 1 -/
theorem c_M_serves (l : Launch) (dC : Nat → ClassId) (dI : Nat → Nat → Nat) (cA : ClassId) (sz : Nat) (cB : ClassId) (b : Nat → Nat) (y ma ve rw jn ou fo go : Nat → Int32) (f nx tm : Int32) : Met l qy_M_serves qw_M_serves ({ frames := 1, cells := 0, slots := 0, locals := 30 }) (mk_ro [.ref (b 0), .int f, .int nx, .int tm] sz (dC, dI) vwCl [(cA, .int), (cB, .boolean)] (wM b cA cB y ma ve rw jn ou fo go)) (mk_roQ (fun r => r = 0 ∨ r = 1) sz) 0 0 (mk_new sz) := by
  refine Met.ofW (cc := qb_M_serves) (maxL := 4) (ret := (some .boolean)) (by decide) rfl ?_
  intro p e s m args below meth c s₁ B hml hpre
  obtain ⟨rfl, hsz, hP, hK⟩ := hpre
  have hx := B.exec
  have hb := B.bytes
  have hr := B.returns
  have hts0 := atoms_spec (ws := qw_M_serves) B.pre
  have hts := fun w (h : w ∈ lw_gd) => hts0 w (List.mem_cons_of_mem _ h)
  have hown : s.vm.findClass qR_M = some m.cls := findClass_of_methodNamed B.named
  have hlocks := B.notSynchronized
  subst hsz
  have hA : ∀ q : Nat, s.heap.size ≤ q → mk_new s.heap.size q := fun _ h => h
  have hS : va_S (mk_new s.heap.size) s.heap s.heap [] := va_S.rf
  have hl := lv_entry ([.ref (b 0), .int f, .int nx, .int tm]) (n := 4) (Nat.le_of_ble_eq_true rfl)
  rw [lg_entry_eq]
  generalize (lg_sl ([.ref (b 0), .int f, .int nx, .int tm]) ++ List.replicate (4 - (lg_sl ([.ref (b 0), .int f, .int nx, .int tm])).length) Slot.unset).toArray = ls at hl ⊢
  have hl : lv_has ls 4 [(0, .ref (b 0)), (1, .int f), (2, .int nx), (3, .int tm)] := hl
  have hP : va_P (dC, dI) vwCl (wM b cA cB y ma ve rw jn ou fo go) s.heap := hP
  refine mk_start (A := (mk_new s.heap.size)) hP (fun H locs hP hS => ?_)
  refine lv_aload_n hx hb qd_M_serves_0 rfl (lv_at hl 0 rfl) ?_
  refine lv_iload_n hx hb qd_M_serves_1 rfl (lv_at hl 1 rfl) ?_
  refine lv_iload_n hx hb qd_M_serves_2 rfl (lv_at hl 3 rfl) ?_
  refine mk_calli (va_runV (As := [.int f, .int tm]) (rest := []) ⟨hx, hb, hml, hown, hts⟩ (c_M_reaches l dC dI cA H.size cB b y ma ve rw jn ou fo go f tm) (cwV 2 hts gc_M_73 rfl rfl rfl (by decide +kernel) ⟨Nat.le_of_ble_eq_true rfl, Nat.le_of_ble_eq_true rfl⟩) (mk_roV hP [0, 1, 2, 3, 4, 5, 6, 7] rfl hK (va_recv hK hP (ci := 1) (q0 := 0) rfl rfl)) rfl rfl hl.1 rfl (lv_room (Nat.le_of_ble_eq_true rfl)) qd_M_serves_3 ⟨(Nat.zero_le _), (Nat.zero_le _)⟩) hS hA hP (fun r_1 H locs hr_1 hP hS => ?_)
  refine lv_if_eq (tgt := 22) hx hb qd_M_serves_6 (by decide) (fun c_2 => ?_) (fun c_2 => ?_)
  · refine lv_iconst (v := 0) hx hb qd_M_serves_22 (by decide) ?_
    exact mk_zret hx hb hr hlocks hS qd_M_serves_23 (by decide) (Or.inl rfl)
  · refine lv_aload_n hx hb qd_M_serves_9 rfl (lv_at hl 0 rfl) ?_
    refine lv_iload_n hx hb qd_M_serves_10 rfl (lv_at hl 2 rfl) ?_
    refine lv_iload_n hx hb qd_M_serves_11 rfl (lv_at hl 3 rfl) ?_
    refine mk_calli (va_runV (As := [.int nx, .int tm]) (rest := []) ⟨hx, hb, hml, hown, hts⟩ (c_M_reaches l dC dI cA H.size cB b y ma ve rw jn ou fo go nx tm) (cwV 2 hts gc_M_73 rfl rfl rfl (by decide +kernel) ⟨Nat.le_of_ble_eq_true rfl, Nat.le_of_ble_eq_true rfl⟩) (mk_roV hP [0, 1, 2, 3, 4, 5, 6, 7] rfl hK (va_recv hK hP (ci := 1) (q0 := 0) rfl rfl)) rfl rfl hl.1 rfl (lv_room (Nat.le_of_ble_eq_true rfl)) qd_M_serves_12 ⟨(Nat.zero_le _), (Nat.zero_le _)⟩) hS hA hP (fun r_3 H locs hr_3 hP hS => ?_)
    refine lv_if_ne (tgt := 22) hx hb qd_M_serves_15 (by decide) (fun c_4 => ?_) (fun c_4 => ?_)
    · refine lv_iconst (v := 0) hx hb qd_M_serves_22 (by decide) ?_
      exact mk_zret hx hb hr hlocks hS qd_M_serves_23 (by decide) (Or.inl rfl)
    · refine lv_iconst (v := 1) hx hb qd_M_serves_18 (by decide) ?_
      refine lv_goto (tgt := 23) hx hb qd_M_serves_19 (by decide) ?_
      exact mk_zret hx hb hr hlocks hS qd_M_serves_23 (by decide) (Or.inr rfl)
set_option maxHeartbeats 4000000 in
set_option maxRecDepth 100000 in
/-- isNeeded(i): 0 or 1 -/
theorem c_M_isNeeded (l : Launch) (dC : Nat → ClassId) (dI : Nat → Nat → Nat) (cA : ClassId) (sz : Nat) (cB : ClassId) (b : Nat → Nat) (y ma ve rw jn ou fo go : Nat → Int32) (nv : Nat) (hnv : y 10 = nI nv) (hv : nv ≤ 160) (nr : Nat) (hnr : y 13 = nI nr) (hr96 : nr ≤ 96) (i' : Nat) (hi9 : i' < nv) : Met l qy_M_isNeeded qw_M_isNeeded ({ frames := 2, cells := 0, slots := 0, locals := 60 }) (mk_ro [.ref (b 0), .int (nI i')] sz (dC, dI) vwCl [(cA, .int), (cB, .boolean)] (wM b cA cB y ma ve rw jn ou fo go)) (mk_roQ (fun r => r = 0 ∨ r = 1) sz) 0 0 (mk_new sz) := by
  refine Met.ofW (cc := qb_M_isNeeded) (maxL := 7) (ret := (some .boolean)) (by decide) rfl ?_
  intro p e s m args below meth c s₁ B hml hpre
  obtain ⟨rfl, hsz, hP, hK⟩ := hpre
  have hx := B.exec
  have hb := B.bytes
  have hr := B.returns
  have hts0 := atoms_spec (ws := qw_M_isNeeded) B.pre
  have hts := fun w (h : w ∈ lw_gd) => hts0 w (List.mem_cons_of_mem _ h)
  have hown : s.vm.findClass qR_M = some m.cls := findClass_of_methodNamed B.named
  have hlocks := B.notSynchronized
  subst hsz
  have hA : ∀ q : Nat, s.heap.size ≤ q → mk_new s.heap.size q := fun _ h => h
  have hS : va_S (mk_new s.heap.size) s.heap s.heap [] := va_S.rf
  have hl := lv_entry ([.ref (b 0), .int (nI i')]) (n := 7) (Nat.le_of_ble_eq_true rfl)
  rw [lg_entry_eq]
  generalize (lg_sl ([.ref (b 0), .int (nI i')]) ++ List.replicate (7 - (lg_sl ([.ref (b 0), .int (nI i')])).length) Slot.unset).toArray = ls at hl ⊢
  have hl : lv_has ls 7 [(0, .ref (b 0)), (1, .int (nI i'))] := hl
  have hP : va_P (dC, dI) vwCl (wM b cA cB y ma ve rw jn ou fo go) s.heap := hP
  refine mk_start (A := (mk_new s.heap.size)) hP (fun H locs hP hS => ?_)
  refine lv_ldc (v := 100001) hx hb hown (hts _ mw_572) qd_M_isNeeded_0 ?_
  refine lv_istore_n (lv' := [(2, .int 100001), (0, .ref (b 0)), (1, .int (nI i'))]) hx hb qd_M_isNeeded_2 rfl hl (by decide) rfl (fun ls hl => ?_)
  refine lv_iconst (v := 0) hx hb qd_M_isNeeded_3 (by decide) ?_
  refine mk_rw (y := nI 0) (rfl) ?_
  refine lv_istore_n (lv' := [(3, .int (nI 0)), (2, .int 100001), (0, .ref (b 0)), (1, .int (nI i'))]) hx hb qd_M_isNeeded_4 rfl hl (by decide) rfl (fun ls hl => ?_)
  refine mk_loop (σ := Nat × Int32) (fun n y9 H locs ls => (y9.1 + n = nv) ∧ va_P (dC, dI) vwCl (wM b cA cB y ma ve rw jn ou fo go) H ∧ va_S (mk_new s.heap.size) s.heap H locs ∧ lv_has ls 7 [(0, .ref (b 0)), (1, .int (nI i')), (2, .int y9.2), (3, .int (nI y9.1))]) (fun ls => F0 m 5 ls []) (fun n y9 H locs ls hI ih_1 => ?_) (fun y9 H locs ls hI => ?_) nv (0, 100001) H locs ls ⟨Nat.zero_add _, hP, hS, lv_sub hl [2, 3, 1, 0] rfl⟩
  · obtain ⟨k, z⟩ := y9
    obtain ⟨hinv, hP, hS, hl⟩ := hI
    have hinv : k + (n + 1) = nv := hinv
    have hP : va_P (dC, dI) vwCl (wM b cA cB y ma ve rw jn ou fo go) H := hP
    have hl : lv_has ls 7 [(0, .ref (b 0)), (1, .int (nI i')), (2, .int z), (3, .int (nI k))] := hl
    refine lv_iload_n hx hb qd_M_isNeeded_5 rfl (lv_at hl 3 rfl) ?_
    refine lv_aload_n hx hb qd_M_isNeeded_6 rfl (lv_at hl 0 rfl) ?_
    refine va_get (D := (dC, dI)) (ci := 1) (v := .int (y 10)) (C := qR_M) (T := qT_M) (N := 24) hx hb hts qin_M hown hK hP 0 rfl rfl 10 (by decide) (hts _ mw_412) (fun _ h9 => h9) rfl qd_M_isNeeded_7 ?_
    refine mk_rw (y := nI nv) (hnv) ?_
    refine lv_icmp_ge (tgt := 85) hx hb qd_M_isNeeded_10 (by decide) (fun c_2 => ?_) (fun c_2 => ?_)
    · exact absurd c_2 (nI_ge (by omega) (by omega))
    · refine lv_aload_n hx hb qd_M_isNeeded_13 rfl (lv_at hl 0 rfl) ?_
      refine va_get (D := (dC, dI)) (ci := 1) (v := .ref (b 2)) (C := qR_M) (T := qT_M) (N := 24) hx hb hts qin_M hown hK hP 0 rfl rfl 9 (by decide) (hts _ mw_411) (fun _ h9 => h9) rfl qd_M_isNeeded_14 ?_
      refine lv_iconst (v := 4) hx hb qd_M_isNeeded_17 (by decide) ?_
      refine lv_iload_n hx hb qd_M_isNeeded_18 rfl (lv_at hl 3 rfl) ?_
      refine lv_imul hx hb qd_M_isNeeded_19 ?_
      refine lv_iconst (v := 2) hx hb qd_M_isNeeded_20 (by decide) ?_
      refine lv_iadd hx hb qd_M_isNeeded_21 ?_
      refine mk_rw (y := nI ((4 * k) + 2)) (by show ((nI 4) * (nI k)) + (nI 2) = _; simp only [pk_mul, nI_add]) ?_
      refine va_iald (i := (nI ((4 * k) + 2))) hx hb hK hP 2 0 rfl rfl (vp_in_nI (by omega) (by omega)) qd_M_isNeeded_22 ?_
      refine mk_rw (y := ve ((4 * k) + 2)) (congrArg _ (nI_clamp (by omega))) ?_
      refine lv_istore (lv' := [(4, .int (ve ((4 * k) + 2))), (0, .ref (b 0)), (1, .int (nI i')), (2, .int z), (3, .int (nI k))]) hx hb qd_M_isNeeded_23 hl (by decide) rfl (fun ls hl => ?_)
      refine lv_aload_n hx hb qd_M_isNeeded_25 rfl (lv_at hl 1 rfl) ?_
      refine lv_iload_n hx hb qd_M_isNeeded_26 rfl (lv_at hl 4 rfl) ?_
      refine lv_aload_n hx hb qd_M_isNeeded_27 rfl (lv_at hl 1 rfl) ?_
      refine va_get (D := (dC, dI)) (ci := 1) (v := .ref (b 2)) (C := qR_M) (T := qT_M) (N := 24) hx hb hts qin_M hown hK hP 0 rfl rfl 9 (by decide) (hts _ mw_411) (fun _ h9 => h9) rfl qd_M_isNeeded_28 ?_
      refine lv_iconst (v := 4) hx hb qd_M_isNeeded_31 (by decide) ?_
      refine lv_iload_n hx hb qd_M_isNeeded_32 rfl (lv_at hl 2 rfl) ?_
      refine lv_imul hx hb qd_M_isNeeded_33 ?_
      refine mk_rw (y := nI (4 * i')) (by show (nI 4) * (nI i') = _; simp only [pk_mul, nI_add]) ?_
      refine va_iald (i := (nI (4 * i'))) hx hb hK hP 2 0 rfl rfl (vp_in_nI (by omega) (by omega)) qd_M_isNeeded_34 ?_
      refine mk_rw (y := ve (4 * i')) (congrArg _ (nI_clamp (by omega))) ?_
      refine lv_aload_n hx hb qd_M_isNeeded_35 rfl (lv_at hl 1 rfl) ?_
      refine va_get (D := (dC, dI)) (ci := 1) (v := .ref (b 2)) (C := qR_M) (T := qT_M) (N := 24) hx hb hts qin_M hown hK hP 0 rfl rfl 9 (by decide) (hts _ mw_411) (fun _ h9 => h9) rfl qd_M_isNeeded_36 ?_
      refine lv_iconst (v := 4) hx hb qd_M_isNeeded_39 (by decide) ?_
      refine lv_iload_n hx hb qd_M_isNeeded_40 rfl (lv_at hl 2 rfl) ?_
      refine lv_imul hx hb qd_M_isNeeded_41 ?_
      refine lv_iconst (v := 1) hx hb qd_M_isNeeded_42 (by decide) ?_
      refine lv_iadd hx hb qd_M_isNeeded_43 ?_
      refine mk_rw (y := nI ((4 * i') + 1)) (by show ((nI 4) * (nI i')) + (nI 1) = _; simp only [pk_mul, nI_add]) ?_
      refine va_iald (i := (nI ((4 * i') + 1))) hx hb hK hP 2 0 rfl rfl (vp_in_nI (by omega) (by omega)) qd_M_isNeeded_44 ?_
      refine mk_rw (y := ve ((4 * i') + 1)) (congrArg _ (nI_clamp (by omega))) ?_
      refine mk_calli (va_runV (As := [.int (nI k), .int (ve (4 * i')), .int (ve ((4 * i') + 1))]) (rest := []) ⟨hx, hb, hml, hown, hts⟩ (c_M_isOf l dC dI cA H.size cB b y ma ve rw jn ou fo go k (by omega) (ve (4 * i')) (ve ((4 * i') + 1))) (cwV 3 hts gc_M_69 rfl rfl rfl (by decide +kernel) ⟨Nat.le_of_ble_eq_true rfl, Nat.le_of_ble_eq_true rfl⟩) (mk_roV hP [0, 1, 2, 3, 4, 5, 6, 7] rfl hK (va_recv hK hP (ci := 1) (q0 := 0) rfl rfl)) rfl rfl hl.1 rfl (lv_room (Nat.le_of_ble_eq_true rfl)) qd_M_isNeeded_45 ⟨(Nat.zero_le _), (Nat.zero_le _)⟩) hS hA hP (fun r_3 H locs hr_3 hP hS => ?_)
      refine lv_if_eq (tgt := 77) hx hb qd_M_isNeeded_48 (by decide) (fun c_4 => ?_) (fun c_4 => ?_)
      · refine lv_iload_n hx hb qd_M_isNeeded_77 rfl (lv_at hl 3 rfl) ?_
        refine lv_istore_n (lv' := [(2, .int z), (4, .int (ve ((4 * k) + 2))), (0, .ref (b 0)), (1, .int (nI i')), (3, .int (nI k))]) hx hb qd_M_isNeeded_78 rfl hl (by decide) rfl (fun ls hl => ?_)
        refine lv_iinc (v := nI (k + 1)) (lv' := [(3, .int (nI (k + 1))), (2, .int z), (4, .int (ve ((4 * k) + 2))), (0, .ref (b 0)), (1, .int (nI i'))]) hx hb qd_M_isNeeded_79 hl (k := 4) rfl (mk_inc k) (by decide) rfl (fun ls hl => ?_)
        refine lv_goto (tgt := 5) hx hb qd_M_isNeeded_82 (by decide) ?_
        exact ih_1 ((k + 1), z) H locs ls ⟨by omega, hP, hS, lv_sub hl [3, 4, 1, 0] rfl⟩
      · refine lv_iload hx hb qd_M_isNeeded_51 (lv_at hl 0 rfl) ?_
        refine lv_aload_n hx hb qd_M_isNeeded_53 rfl (lv_at hl 1 rfl) ?_
        refine va_get (D := (dC, dI)) (ci := 1) (v := .ref (b 2)) (C := qR_M) (T := qT_M) (N := 24) hx hb hts qin_M hown hK hP 0 rfl rfl 9 (by decide) (hts _ mw_411) (fun _ h9 => h9) rfl qd_M_isNeeded_54 ?_
        refine lv_iconst (v := 4) hx hb qd_M_isNeeded_57 (by decide) ?_
        refine lv_iload_n hx hb qd_M_isNeeded_58 rfl (lv_at hl 2 rfl) ?_
        refine lv_imul hx hb qd_M_isNeeded_59 ?_
        refine lv_iconst (v := 2) hx hb qd_M_isNeeded_60 (by decide) ?_
        refine lv_iadd hx hb qd_M_isNeeded_61 ?_
        refine mk_rw (y := nI ((4 * i') + 2)) (by show ((nI 4) * (nI i')) + (nI 2) = _; simp only [pk_mul, nI_add]) ?_
        refine va_iald (i := (nI ((4 * i') + 2))) hx hb hK hP 2 0 rfl rfl (vp_in_nI (by omega) (by omega)) qd_M_isNeeded_62 ?_
        refine mk_rw (y := ve ((4 * i') + 2)) (congrArg _ (nI_clamp (by omega))) ?_
        refine lv_icmp_le (tgt := 77) hx hb qd_M_isNeeded_63 (by decide) (fun c_5 => ?_) (fun c_5 => ?_)
        · refine lv_iload_n hx hb qd_M_isNeeded_77 rfl (lv_at hl 3 rfl) ?_
          refine lv_istore_n (lv' := [(2, .int z), (4, .int (ve ((4 * k) + 2))), (0, .ref (b 0)), (1, .int (nI i')), (3, .int (nI k))]) hx hb qd_M_isNeeded_78 rfl hl (by decide) rfl (fun ls hl => ?_)
          refine lv_iinc (v := nI (k + 1)) (lv' := [(3, .int (nI (k + 1))), (2, .int z), (4, .int (ve ((4 * k) + 2))), (0, .ref (b 0)), (1, .int (nI i'))]) hx hb qd_M_isNeeded_79 hl (k := 4) rfl (mk_inc k) (by decide) rfl (fun ls hl => ?_)
          refine lv_goto (tgt := 5) hx hb qd_M_isNeeded_82 (by decide) ?_
          exact ih_1 ((k + 1), z) H locs ls ⟨by omega, hP, hS, lv_sub hl [3, 4, 1, 0] rfl⟩
        · refine lv_iload hx hb qd_M_isNeeded_66 (lv_at hl 0 rfl) ?_
          refine lv_iload_n hx hb qd_M_isNeeded_68 rfl (lv_at hl 3 rfl) ?_
          refine lv_icmp_ge (tgt := 77) hx hb qd_M_isNeeded_69 (by decide) (fun c_6 => ?_) (fun c_6 => ?_)
          · refine lv_iload_n hx hb qd_M_isNeeded_77 rfl (lv_at hl 3 rfl) ?_
            refine lv_istore_n (lv' := [(2, .int z), (4, .int (ve ((4 * k) + 2))), (0, .ref (b 0)), (1, .int (nI i')), (3, .int (nI k))]) hx hb qd_M_isNeeded_78 rfl hl (by decide) rfl (fun ls hl => ?_)
            refine lv_iinc (v := nI (k + 1)) (lv' := [(3, .int (nI (k + 1))), (2, .int z), (4, .int (ve ((4 * k) + 2))), (0, .ref (b 0)), (1, .int (nI i'))]) hx hb qd_M_isNeeded_79 hl (k := 4) rfl (mk_inc k) (by decide) rfl (fun ls hl => ?_)
            refine lv_goto (tgt := 5) hx hb qd_M_isNeeded_82 (by decide) ?_
            exact ih_1 ((k + 1), z) H locs ls ⟨by omega, hP, hS, lv_sub hl [3, 4, 1, 0] rfl⟩
          · refine lv_iload hx hb qd_M_isNeeded_72 (lv_at hl 0 rfl) ?_
            refine lv_goto (tgt := 78) hx hb qd_M_isNeeded_74 (by decide) ?_
            refine lv_istore_n (lv' := [(2, .int (ve ((4 * k) + 2))), (4, .int (ve ((4 * k) + 2))), (0, .ref (b 0)), (1, .int (nI i')), (3, .int (nI k))]) hx hb qd_M_isNeeded_78 rfl hl (by decide) rfl (fun ls hl => ?_)
            refine lv_iinc (v := nI (k + 1)) (lv' := [(3, .int (nI (k + 1))), (2, .int (ve ((4 * k) + 2))), (4, .int (ve ((4 * k) + 2))), (0, .ref (b 0)), (1, .int (nI i'))]) hx hb qd_M_isNeeded_79 hl (k := 4) rfl (mk_inc k) (by decide) rfl (fun ls hl => ?_)
            refine lv_goto (tgt := 5) hx hb qd_M_isNeeded_82 (by decide) ?_
            exact ih_1 ((k + 1), (ve ((4 * k) + 2))) H locs ls ⟨by omega, hP, hS, lv_sub hl [3, 4, 1, 0] rfl⟩
  · obtain ⟨k, z⟩ := y9
    obtain ⟨hinv, hP, hS, hl⟩ := hI
    have hinv : k + 0 = nv := hinv
    have hP : va_P (dC, dI) vwCl (wM b cA cB y ma ve rw jn ou fo go) H := hP
    have hl : lv_has ls 7 [(0, .ref (b 0)), (1, .int (nI i')), (2, .int z), (3, .int (nI k))] := hl
    refine lv_iload_n hx hb qd_M_isNeeded_5 rfl (lv_at hl 3 rfl) ?_
    refine lv_aload_n hx hb qd_M_isNeeded_6 rfl (lv_at hl 0 rfl) ?_
    refine va_get (D := (dC, dI)) (ci := 1) (v := .int (y 10)) (C := qR_M) (T := qT_M) (N := 24) hx hb hts qin_M hown hK hP 0 rfl rfl 10 (by decide) (hts _ mw_412) (fun _ h9 => h9) rfl qd_M_isNeeded_7 ?_
    refine mk_rw (y := nI nv) (hnv) ?_
    refine lv_icmp_ge (tgt := 85) hx hb qd_M_isNeeded_10 (by decide) (fun c_7 => ?_) (fun c_7 => ?_)
    · refine lv_iload_n hx hb qd_M_isNeeded_85 rfl (lv_at hl 2 rfl) ?_
      refine lv_ldc (v := 100000) hx hb hown (hts _ mw_573) qd_M_isNeeded_86 ?_
      refine lv_icmp_le (tgt := 93) hx hb qd_M_isNeeded_88 (by decide) (fun c_8 => ?_) (fun c_8 => ?_)
      · refine mk_meetH (D := (dC, dI)) (cl := vwCl) (ws := (wM b cA cB y ma ve rw jn ou fo go)) (A0 := (mk_new s.heap.size)) (H0 := s.heap) (fun v => True) (fun v => F0 m 107 ls (.int v :: [])) (fun v_10 H locs hv_10 hP hS => ?_) (fun J_9 => ?_)
        · have hv_10 : True := hv_10
          refine lv_istore_n (lv' := [(3, .int v_10), (0, .ref (b 0)), (1, .int (nI i')), (2, .int z)]) hx hb qd_M_isNeeded_107 rfl hl (by decide) rfl (fun ls hl => ?_)
          refine mk_meetH (D := (dC, dI)) (cl := vwCl) (ws := (wM b cA cB y ma ve rw jn ou fo go)) (A0 := (mk_new s.heap.size)) (H0 := s.heap) (fun v => v = 0 ∨ v = 1) (fun v => F0 m 121 ls (.int v :: [])) (fun v_12 H locs hv_12 hP hS => ?_) (fun J_11 => ?_)
          · have hv_12 : v_12 = 0 ∨ v_12 = 1 := hv_12
            refine lv_istore (lv' := [(4, .int v_12), (3, .int v_10), (0, .ref (b 0)), (1, .int (nI i')), (2, .int z)]) hx hb qd_M_isNeeded_121 hl (by decide) rfl (fun ls hl => ?_)
            refine lv_iconst (v := 0) hx hb qd_M_isNeeded_123 (by decide) ?_
            refine mk_rw (y := nI 0) (rfl) ?_
            refine lv_istore (lv' := [(5, .int (nI 0)), (4, .int v_12), (3, .int v_10), (0, .ref (b 0)), (1, .int (nI i')), (2, .int z)]) hx hb qd_M_isNeeded_124 hl (by decide) rfl (fun ls hl => ?_)
            refine mk_loop (σ := Nat × Int32 × Int32) (fun n2 y9 H locs ls => (y9.1 + n2 = nr ∧ (y9.2.2 = 0 ∨ y9.2.2 = 1)) ∧ va_P (dC, dI) vwCl (wM b cA cB y ma ve rw jn ou fo go) H ∧ va_S (mk_new s.heap.size) s.heap H locs ∧ lv_has ls 7 [(0, .ref (b 0)), (1, .int (nI i')), (2, .int z), (3, .int y9.2.1), (4, .int y9.2.2), (5, .int (nI y9.1))]) (fun ls => F0 m 126 ls []) (fun n2 y9 H locs ls hI ih_13 => ?_) (fun y9 H locs ls hI => ?_) nr (0, v_10, v_12) H locs ls ⟨⟨Nat.zero_add _, hv_12⟩, hP, hS, lv_sub hl [3, 4, 5, 2, 1, 0] rfl⟩
            · obtain ⟨j, q3, q4⟩ := y9
              obtain ⟨hinv, hP, hS, hl⟩ := hI
              have hinv : j + (n2 + 1) = nr ∧ (q4 = 0 ∨ q4 = 1) := hinv
              have hP : va_P (dC, dI) vwCl (wM b cA cB y ma ve rw jn ou fo go) H := hP
              have hl : lv_has ls 7 [(0, .ref (b 0)), (1, .int (nI i')), (2, .int z), (3, .int q3), (4, .int q4), (5, .int (nI j))] := hl
              refine lv_iload hx hb qd_M_isNeeded_126 (lv_at hl 5 rfl) ?_
              refine lv_aload_n hx hb qd_M_isNeeded_128 rfl (lv_at hl 0 rfl) ?_
              refine va_get (D := (dC, dI)) (ci := 1) (v := .int (y 13)) (C := qR_M) (T := qT_M) (N := 24) hx hb hts qin_M hown hK hP 0 rfl rfl 13 (by decide) (hts _ mw_415) (fun _ h9 => h9) rfl qd_M_isNeeded_129 ?_
              refine mk_rw (y := nI nr) (hnr) ?_
              refine lv_icmp_ge (tgt := 236) hx hb qd_M_isNeeded_132 (by decide) (fun c_14 => ?_) (fun c_14 => ?_)
              · exact absurd c_14 (nI_ge (by omega) (by omega))
              · refine mk_meetH (D := (dC, dI)) (cl := vwCl) (ws := (wM b cA cB y ma ve rw jn ou fo go)) (A0 := (mk_new s.heap.size)) (H0 := s.heap) (fun v => True) (fun v => F0 m 181 ls (.int v :: [])) (fun v_16 H locs hv_16 hP hS => ?_) (fun J_15 => ?_)
                · have hv_16 : True := hv_16
                  refine lv_istore (lv' := [(6, .int v_16), (0, .ref (b 0)), (1, .int (nI i')), (2, .int z), (3, .int q3), (4, .int q4), (5, .int (nI j))]) hx hb qd_M_isNeeded_181 hl (by decide) rfl (fun ls hl => ?_)
                  refine mk_meetH (D := (dC, dI)) (cl := vwCl) (ws := (wM b cA cB y ma ve rw jn ou fo go)) (A0 := (mk_new s.heap.size)) (H0 := s.heap) (fun v => v = 0 ∨ v = 1) (fun v => F0 m 228 ls (.int v :: [])) (fun v_18 H locs hv_18 hP hS => ?_) (fun J_17 => ?_)
                  · have hv_18 : v_18 = 0 ∨ v_18 = 1 := hv_18
                    refine lv_istore (lv' := [(4, .int v_18), (6, .int v_16), (0, .ref (b 0)), (1, .int (nI i')), (2, .int z), (3, .int q3), (5, .int (nI j))]) hx hb qd_M_isNeeded_228 hl (by decide) rfl (fun ls hl => ?_)
                    refine lv_iinc (v := nI (j + 1)) (lv' := [(5, .int (nI (j + 1))), (4, .int v_18), (6, .int v_16), (0, .ref (b 0)), (1, .int (nI i')), (2, .int z), (3, .int q3)]) hx hb qd_M_isNeeded_230 hl (k := 6) rfl (mk_inc j) (by decide) rfl (fun ls hl => ?_)
                    refine lv_goto (tgt := 126) hx hb qd_M_isNeeded_233 (by decide) ?_
                    exact ih_13 ((j + 1), q3, v_18) H locs ls ⟨⟨by omega, hv_18⟩, hP, hS, lv_sub hl [3, 4, 5, 6, 1, 0] rfl⟩
                  · refine lv_iload hx hb qd_M_isNeeded_183 (lv_at hl 5 rfl) ?_
                    refine lv_if_ne (tgt := 223) hx hb qd_M_isNeeded_185 (by decide) (fun c_19 => ?_) (fun c_19 => ?_)
                    · refine lv_iconst (v := 1) hx hb qd_M_isNeeded_223 (by decide) ?_
                      refine lv_goto (tgt := 228) hx hb qd_M_isNeeded_224 (by decide) ?_
                      exact J_17 _ H locs (Or.inr rfl) hP hS
                    · refine lv_iload hx hb qd_M_isNeeded_188 (lv_at hl 0 rfl) ?_
                      refine lv_if_eq (tgt := 227) hx hb qd_M_isNeeded_190 (by decide) (fun c_20 => ?_) (fun c_20 => ?_)
                      · refine lv_iconst (v := 0) hx hb qd_M_isNeeded_227 (by decide) ?_
                        exact J_17 _ H locs (Or.inl rfl) hP hS
                      · refine lv_aload_n hx hb qd_M_isNeeded_193 rfl (lv_at hl 1 rfl) ?_
                        refine lv_aload_n hx hb qd_M_isNeeded_194 rfl (lv_at hl 1 rfl) ?_
                        refine va_get (D := (dC, dI)) (ci := 1) (v := .ref (b 2)) (C := qR_M) (T := qT_M) (N := 24) hx hb hts qin_M hown hK hP 0 rfl rfl 9 (by decide) (hts _ mw_411) (fun _ h9 => h9) rfl qd_M_isNeeded_195 ?_
                        refine lv_iconst (v := 4) hx hb qd_M_isNeeded_198 (by decide) ?_
                        refine lv_iload_n hx hb qd_M_isNeeded_199 rfl (lv_at hl 2 rfl) ?_
                        refine lv_imul hx hb qd_M_isNeeded_200 ?_
                        refine lv_iconst (v := 2) hx hb qd_M_isNeeded_201 (by decide) ?_
                        refine lv_iadd hx hb qd_M_isNeeded_202 ?_
                        refine mk_rw (y := nI ((4 * i') + 2)) (by show ((nI 4) * (nI i')) + (nI 2) = _; simp only [pk_mul, nI_add]) ?_
                        refine va_iald (i := (nI ((4 * i') + 2))) hx hb hK hP 2 0 rfl rfl (vp_in_nI (by omega) (by omega)) qd_M_isNeeded_203 ?_
                        refine mk_rw (y := ve ((4 * i') + 2)) (congrArg _ (nI_clamp (by omega))) ?_
                        refine lv_iload_n hx hb qd_M_isNeeded_204 rfl (lv_at hl 3 rfl) ?_
                        refine lv_aload_n hx hb qd_M_isNeeded_205 rfl (lv_at hl 1 rfl) ?_
                        refine va_get (D := (dC, dI)) (ci := 1) (v := .ref (b 3)) (C := qR_M) (T := qT_M) (N := 24) hx hb hts qin_M hown hK hP 0 rfl rfl 11 (by decide) (hts _ mw_413) (fun _ h9 => h9) rfl qd_M_isNeeded_206 ?_
                        refine lv_bipush (v := 6) hx hb qd_M_isNeeded_209 (by decide) ?_
                        refine lv_iload hx hb qd_M_isNeeded_211 (lv_at hl 6 rfl) ?_
                        refine lv_imul hx hb qd_M_isNeeded_213 ?_
                        refine lv_iconst (v := 2) hx hb qd_M_isNeeded_214 (by decide) ?_
                        refine lv_iadd hx hb qd_M_isNeeded_215 ?_
                        refine mk_rw (y := nI ((6 * j) + 2)) (by show ((nI 6) * (nI j)) + (nI 2) = _; simp only [pk_mul, nI_add]) ?_
                        refine va_iald (i := (nI ((6 * j) + 2))) hx hb hK hP 3 0 rfl rfl (vp_in_nI (by omega) (by omega)) qd_M_isNeeded_216 ?_
                        refine mk_rw (y := rw ((6 * j) + 2)) (congrArg _ (nI_clamp (by omega))) ?_
                        refine mk_calli (va_runV (As := [.int (ve ((4 * i') + 2)), .int z, .int (rw ((6 * j) + 2))]) (rest := []) ⟨hx, hb, hml, hown, hts⟩ (c_M_serves l dC dI cA H.size cB b y ma ve rw jn ou fo go (ve ((4 * i') + 2)) z (rw ((6 * j) + 2))) (cwV 3 hts gc_M_156 rfl rfl rfl (by decide +kernel) ⟨Nat.le_of_ble_eq_true rfl, Nat.le_of_ble_eq_true rfl⟩) (mk_roV hP [0, 1, 2, 3, 4, 5, 6, 7] rfl hK (va_recv hK hP (ci := 1) (q0 := 0) rfl rfl)) rfl rfl hl.1 rfl (lv_room (Nat.le_of_ble_eq_true rfl)) qd_M_isNeeded_217 ⟨(Nat.zero_le _), (Nat.zero_le _)⟩) hS hA hP (fun r_21 H locs hr_21 hP hS => ?_)
                        refine lv_if_eq (tgt := 227) hx hb qd_M_isNeeded_220 (by decide) (fun c_22 => ?_) (fun c_22 => ?_)
                        · refine lv_iconst (v := 0) hx hb qd_M_isNeeded_227 (by decide) ?_
                          exact J_17 _ H locs (Or.inl rfl) hP hS
                        · refine lv_iconst (v := 1) hx hb qd_M_isNeeded_223 (by decide) ?_
                          refine lv_goto (tgt := 228) hx hb qd_M_isNeeded_224 (by decide) ?_
                          exact J_17 _ H locs (Or.inr rfl) hP hS
                · refine lv_aload_n hx hb qd_M_isNeeded_135 rfl (lv_at hl 0 rfl) ?_
                  refine va_get (D := (dC, dI)) (ci := 1) (v := .ref (b 3)) (C := qR_M) (T := qT_M) (N := 24) hx hb hts qin_M hown hK hP 0 rfl rfl 11 (by decide) (hts _ mw_413) (fun _ h9 => h9) rfl qd_M_isNeeded_136 ?_
                  refine lv_bipush (v := 6) hx hb qd_M_isNeeded_139 (by decide) ?_
                  refine lv_iload hx hb qd_M_isNeeded_141 (lv_at hl 5 rfl) ?_
                  refine lv_imul hx hb qd_M_isNeeded_143 ?_
                  refine lv_iconst (v := 4) hx hb qd_M_isNeeded_144 (by decide) ?_
                  refine lv_iadd hx hb qd_M_isNeeded_145 ?_
                  refine mk_rw (y := nI ((6 * j) + 4)) (by show ((nI 6) * (nI j)) + (nI 4) = _; simp only [pk_mul, nI_add]) ?_
                  refine va_iald (i := (nI ((6 * j) + 4))) hx hb hK hP 3 0 rfl rfl (vp_in_nI (by omega) (by omega)) qd_M_isNeeded_146 ?_
                  refine mk_rw (y := rw ((6 * j) + 4)) (congrArg _ (nI_clamp (by omega))) ?_
                  refine lv_iconst (v := 1) hx hb qd_M_isNeeded_147 (by decide) ?_
                  refine lv_icmp_ne (tgt := 180) hx hb qd_M_isNeeded_148 (by decide) (fun c_23 => ?_) (fun c_23 => ?_)
                  · refine lv_iconst (v := 0) hx hb qd_M_isNeeded_180 (by decide) ?_
                    exact J_15 _ H locs (trivial) hP hS
                  · refine lv_aload_n hx hb qd_M_isNeeded_151 rfl (lv_at hl 0 rfl) ?_
                    refine va_get (D := (dC, dI)) (ci := 1) (v := .ref (b 3)) (C := qR_M) (T := qT_M) (N := 24) hx hb hts qin_M hown hK hP 0 rfl rfl 11 (by decide) (hts _ mw_413) (fun _ h9 => h9) rfl qd_M_isNeeded_152 ?_
                    refine lv_bipush (v := 6) hx hb qd_M_isNeeded_155 (by decide) ?_
                    refine lv_iload hx hb qd_M_isNeeded_157 (lv_at hl 5 rfl) ?_
                    refine lv_imul hx hb qd_M_isNeeded_159 ?_
                    refine lv_iconst (v := 1) hx hb qd_M_isNeeded_160 (by decide) ?_
                    refine lv_iadd hx hb qd_M_isNeeded_161 ?_
                    refine mk_rw (y := nI ((6 * j) + 1)) (by show ((nI 6) * (nI j)) + (nI 1) = _; simp only [pk_mul, nI_add]) ?_
                    refine va_iald (i := (nI ((6 * j) + 1))) hx hb hK hP 3 0 rfl rfl (vp_in_nI (by omega) (by omega)) qd_M_isNeeded_162 ?_
                    refine mk_rw (y := rw ((6 * j) + 1)) (congrArg _ (nI_clamp (by omega))) ?_
                    refine lv_aload_n hx hb qd_M_isNeeded_163 rfl (lv_at hl 0 rfl) ?_
                    refine va_get (D := (dC, dI)) (ci := 1) (v := .ref (b 2)) (C := qR_M) (T := qT_M) (N := 24) hx hb hts qin_M hown hK hP 0 rfl rfl 9 (by decide) (hts _ mw_411) (fun _ h9 => h9) rfl qd_M_isNeeded_164 ?_
                    refine lv_iconst (v := 4) hx hb qd_M_isNeeded_167 (by decide) ?_
                    refine lv_iload_n hx hb qd_M_isNeeded_168 rfl (lv_at hl 1 rfl) ?_
                    refine lv_imul hx hb qd_M_isNeeded_169 ?_
                    refine lv_iconst (v := 1) hx hb qd_M_isNeeded_170 (by decide) ?_
                    refine lv_iadd hx hb qd_M_isNeeded_171 ?_
                    refine mk_rw (y := nI ((4 * i') + 1)) (by show ((nI 4) * (nI i')) + (nI 1) = _; simp only [pk_mul, nI_add]) ?_
                    refine va_iald (i := (nI ((4 * i') + 1))) hx hb hK hP 2 0 rfl rfl (vp_in_nI (by omega) (by omega)) qd_M_isNeeded_172 ?_
                    refine mk_rw (y := ve ((4 * i') + 1)) (congrArg _ (nI_clamp (by omega))) ?_
                    refine lv_icmp_ne (tgt := 180) hx hb qd_M_isNeeded_173 (by decide) (fun c_24 => ?_) (fun c_24 => ?_)
                    · refine lv_iconst (v := 0) hx hb qd_M_isNeeded_180 (by decide) ?_
                      exact J_15 _ H locs (trivial) hP hS
                    · refine lv_iconst (v := 1) hx hb qd_M_isNeeded_176 (by decide) ?_
                      refine lv_goto (tgt := 181) hx hb qd_M_isNeeded_177 (by decide) ?_
                      exact J_15 _ H locs (trivial) hP hS
            · obtain ⟨j, q3, q4⟩ := y9
              obtain ⟨hinv, hP, hS, hl⟩ := hI
              have hinv : j + 0 = nr ∧ (q4 = 0 ∨ q4 = 1) := hinv
              have hP : va_P (dC, dI) vwCl (wM b cA cB y ma ve rw jn ou fo go) H := hP
              have hl : lv_has ls 7 [(0, .ref (b 0)), (1, .int (nI i')), (2, .int z), (3, .int q3), (4, .int q4), (5, .int (nI j))] := hl
              refine lv_iload hx hb qd_M_isNeeded_126 (lv_at hl 5 rfl) ?_
              refine lv_aload_n hx hb qd_M_isNeeded_128 rfl (lv_at hl 0 rfl) ?_
              refine va_get (D := (dC, dI)) (ci := 1) (v := .int (y 13)) (C := qR_M) (T := qT_M) (N := 24) hx hb hts qin_M hown hK hP 0 rfl rfl 13 (by decide) (hts _ mw_415) (fun _ h9 => h9) rfl qd_M_isNeeded_129 ?_
              refine mk_rw (y := nI nr) (hnr) ?_
              refine lv_icmp_ge (tgt := 236) hx hb qd_M_isNeeded_132 (by decide) (fun c_25 => ?_) (fun c_25 => ?_)
              · refine lv_iload hx hb qd_M_isNeeded_236 (lv_at hl 4 rfl) ?_
                exact mk_zret hx hb hr hlocks hS qd_M_isNeeded_238 hinv.2 hinv.2
              · exact absurd (nI_le (by omega) (by omega)) c_25
          · refine lv_iload_n hx hb qd_M_isNeeded_108 rfl (lv_at hl 0 rfl) ?_
            refine lv_aload_n hx hb qd_M_isNeeded_109 rfl (lv_at hl 1 rfl) ?_
            refine mk_calli (va_runV (As := []) (rest := [.int v_10]) ⟨hx, hb, hml, hown, hts⟩ (c_M_horizon l dC dI cA H.size cB b y ma ve rw jn ou fo go) (cwV 0 hts gc_M_122 rfl rfl rfl (by decide +kernel) ⟨Nat.le_of_ble_eq_true rfl, Nat.le_of_ble_eq_true rfl⟩) (mk_roV hP [0, 1, 2, 3, 4, 5, 6, 7] rfl hK (va_recv hK hP (ci := 1) (q0 := 0) rfl rfl)) rfl rfl hl.1 rfl (lv_room (Nat.le_of_ble_eq_true rfl)) qd_M_isNeeded_110 ⟨(Nat.zero_le _), (Nat.zero_le _)⟩) hS hA hP (fun r_26 H locs hr_26 hP hS => ?_)
            refine lv_icmp_le (tgt := 120) hx hb qd_M_isNeeded_113 (by decide) (fun c_27 => ?_) (fun c_27 => ?_)
            · refine lv_iconst (v := 0) hx hb qd_M_isNeeded_120 (by decide) ?_
              exact J_11 _ H locs (Or.inl rfl) hP hS
            · refine lv_iconst (v := 1) hx hb qd_M_isNeeded_116 (by decide) ?_
              refine lv_goto (tgt := 121) hx hb qd_M_isNeeded_117 (by decide) ?_
              exact J_11 _ H locs (Or.inr rfl) hP hS
        · refine lv_aload_n hx hb qd_M_isNeeded_93 rfl (lv_at hl 0 rfl) ?_
          refine va_get (D := (dC, dI)) (ci := 1) (v := .int (y 2)) (C := qR_M) (T := qT_M) (N := 24) hx hb hts qin_M hown hK hP 0 rfl rfl 2 (by decide) (hts _ mw_404) (fun _ h9 => h9) rfl qd_M_isNeeded_94 ?_
          refine lv_if_ne (tgt := 106) hx hb qd_M_isNeeded_97 (by decide) (fun c_28 => ?_) (fun c_28 => ?_)
          · refine lv_iload_n hx hb qd_M_isNeeded_106 rfl (lv_at hl 2 rfl) ?_
            exact J_9 _ H locs (trivial) hP hS
          · refine lv_iload_n hx hb qd_M_isNeeded_100 rfl (lv_at hl 2 rfl) ?_
            refine lv_iconst (v := 1) hx hb qd_M_isNeeded_101 (by decide) ?_
            refine lv_isub hx hb qd_M_isNeeded_102 ?_
            refine lv_goto (tgt := 107) hx hb qd_M_isNeeded_103 (by decide) ?_
            exact J_9 _ H locs (trivial) hP hS
      · refine lv_iconst (v := 1) hx hb qd_M_isNeeded_91 (by decide) ?_
        exact mk_zret hx hb hr hlocks hS qd_M_isNeeded_92 (by decide) (Or.inr rfl)
    · exact absurd (nI_le (by omega) (by omega)) c_7
