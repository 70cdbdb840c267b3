set_option maxHeartbeats 4000000 in
set_option maxRecDepth 100000 in
/-- rowBy(many) -/
theorem c_M_rowBy (l : Launch) (dC : Nat → ClassId) (dI : Nat → Nat → Nat) (cA : ClassId) (sz : Nat) (cB : ClassId) (b : Nat → Nat) (y ma ve rw jn ou fo go : Nat → Int32) (nr : Nat) (hnr : y 13 = nI nr) (hr96 : nr ≤ 96) (km : Nat) (hkm : km < 2 ^ 30) : Met l qy_M_rowBy qw_M_rowBy ({ frames := 0, cells := 0, slots := 0, locals := 0 }) (mk_ro [.ref (b 0), .int (nI km)] sz (dC, dI) vwCl [(cA, .int), (cB, .boolean)] (wM b cA cB y ma ve rw jn ou fo go)) (mk_roQ (fun r => (r = -2 ∧ ∀ i, i < nr → ¬ mr_rank rw i nr = km) ∨ ∃ i, i < nr ∧ r = nI i ∧ mr_rank rw i nr = km) sz) 0 0 (mk_new sz) := by
  refine Met.ofW (cc := qb_M_rowBy) (maxL := 7) (ret := (some .int)) (by decide) rfl ?_
  intro p e s m args below meth c s₁ B hml hpre
  obtain ⟨rfl, hsz, hP, hK⟩ := hpre
  have hx := B.exec
  have hb := B.bytes
  have hr := B.returns
  have hts0 := atoms_spec (ws := qw_M_rowBy) B.pre
  have hts := fun w (h : w ∈ lw_gd) => hts0 w (List.mem_cons_of_mem _ h)
  have hown : s.vm.findClass qR_M = some m.cls := findClass_of_methodNamed B.named
  have hlocks := B.notSynchronized
  subst hsz
  have hA : ∀ q : Nat, s.heap.size ≤ q → mk_new s.heap.size q := fun _ h => h
  have hS : va_S (mk_new s.heap.size) s.heap s.heap [] := va_S.rf
  have hl := lv_entry ([.ref (b 0), .int (nI km)]) (n := 7) (Nat.le_of_ble_eq_true rfl)
  rw [lg_entry_eq]
  generalize (lg_sl ([.ref (b 0), .int (nI km)]) ++ List.replicate (7 - (lg_sl ([.ref (b 0), .int (nI km)])).length) Slot.unset).toArray = ls at hl ⊢
  have hl : lv_has ls 7 [(0, .ref (b 0)), (1, .int (nI km))] := hl
  have hP : va_P (dC, dI) vwCl (wM b cA cB y ma ve rw jn ou fo go) s.heap := hP
  refine mk_start (A := (mk_new s.heap.size)) hP (fun H locs hP hS => ?_)
  refine lv_iconst (v := 0) hx hb qd_M_rowBy_0 (by decide) ?_
  refine mk_rw (y := nI 0) (rfl) ?_
  refine lv_istore_n (lv' := [(2, .int (nI 0)), (0, .ref (b 0)), (1, .int (nI km))]) hx hb qd_M_rowBy_1 rfl hl (by decide) rfl (fun ls hl => ?_)
  refine mk_loop (σ := Nat) (fun n y9 H locs ls => (y9 + n = nr ∧ ∀ j, j < y9 → ¬ mr_rank rw j nr = km) ∧ va_P (dC, dI) vwCl (wM b cA cB y ma ve rw jn ou fo go) H ∧ va_S (mk_new s.heap.size) s.heap H locs ∧ lv_has ls 7 [(0, .ref (b 0)), (1, .int (nI km)), (2, .int (nI y9))]) (fun ls => F0 m 2 ls []) (fun n y9 H locs ls hI ih_1 => ?_) (fun y9 H locs ls hI => ?_) nr 0 H locs ls ⟨⟨Nat.zero_add _, fun _ q => absurd q (Nat.not_lt_zero _)⟩, hP, hS, lv_sub hl [1, 2, 0] rfl⟩
  · obtain ⟨i, rfl⟩ : ∃ z, z = y9 := ⟨_, rfl⟩
    obtain ⟨hinv, hP, hS, hl⟩ := hI
    have hinv : i + (n + 1) = nr ∧ ∀ j, j < i → ¬ mr_rank rw j nr = km := hinv
    have hP : va_P (dC, dI) vwCl (wM b cA cB y ma ve rw jn ou fo go) H := hP
    have hl : lv_has ls 7 [(0, .ref (b 0)), (1, .int (nI km)), (2, .int (nI i))] := hl
    have hinv0 := hinv
    have hi9 : i < nr := by omega
    refine lv_iload_n hx hb qd_M_rowBy_2 rfl (lv_at hl 2 rfl) ?_
    refine lv_aload_n hx hb qd_M_rowBy_3 rfl (lv_at hl 0 rfl) ?_
    refine va_get (D := (dC, dI)) (ci := 1) (v := .int (y 13)) (C := qR_M) (T := qT_M) (N := 24) hx hb hts qin_M hown hK hP 0 rfl rfl 13 (by decide) (hts _ mw_415) (fun _ h9 => h9) rfl qd_M_rowBy_4 ?_
    refine mk_rw (y := nI nr) (hnr) ?_
    refine lv_icmp_ge (tgt := 114) hx hb qd_M_rowBy_7 (by decide) (fun c_2 => ?_) (fun c_2 => ?_)
    · exact absurd c_2 (nI_ge (by omega) (by omega))
    · refine lv_iconst (v := 0) hx hb qd_M_rowBy_10 (by decide) ?_
      refine mk_rw (y := nI (mr_rank rw i 0)) (rfl) ?_
      refine lv_istore_n (lv' := [(3, .int (nI (mr_rank rw i 0))), (0, .ref (b 0)), (1, .int (nI km)), (2, .int (nI i))]) hx hb qd_M_rowBy_11 rfl hl (by decide) rfl (fun ls hl => ?_)
      refine lv_iconst (v := 0) hx hb qd_M_rowBy_12 (by decide) ?_
      refine mk_rw (y := nI 0) (rfl) ?_
      refine lv_istore (lv' := [(4, .int (nI 0)), (3, .int (nI (mr_rank rw i 0))), (0, .ref (b 0)), (1, .int (nI km)), (2, .int (nI i))]) hx hb qd_M_rowBy_13 hl (by decide) rfl (fun ls hl => ?_)
      refine mk_loop (σ := Nat) (fun n2 y9 H locs ls => (y9 + n2 = nr) ∧ va_P (dC, dI) vwCl (wM b cA cB y ma ve rw jn ou fo go) H ∧ va_S (mk_new s.heap.size) s.heap H locs ∧ lv_has ls 7 [(0, .ref (b 0)), (1, .int (nI km)), (2, .int (nI i)), (3, .int (nI (mr_rank rw i y9))), (4, .int (nI y9))]) (fun ls => F0 m 15 ls []) (fun n2 y9 H locs ls hI ih_3 => ?_) (fun y9 H locs ls hI => ?_) nr 0 H locs ls ⟨Nat.zero_add _, hP, hS, lv_sub hl [2, 3, 4, 1, 0] rfl⟩
      · obtain ⟨j, rfl⟩ : ∃ z, z = y9 := ⟨_, rfl⟩
        obtain ⟨hinv, hP, hS, hl⟩ := hI
        have hinv : j + (n2 + 1) = nr := hinv
        have hP : va_P (dC, dI) vwCl (wM b cA cB y ma ve rw jn ou fo go) H := hP
        have hl : lv_has ls 7 [(0, .ref (b 0)), (1, .int (nI km)), (2, .int (nI i)), (3, .int (nI (mr_rank rw i j))), (4, .int (nI j))] := hl
        refine lv_iload hx hb qd_M_rowBy_15 (lv_at hl 4 rfl) ?_
        refine lv_aload_n hx hb qd_M_rowBy_17 rfl (lv_at hl 0 rfl) ?_
        refine va_get (D := (dC, dI)) (ci := 1) (v := .int (y 13)) (C := qR_M) (T := qT_M) (N := 24) hx hb hts qin_M hown hK hP 0 rfl rfl 13 (by decide) (hts _ mw_415) (fun _ h9 => h9) rfl qd_M_rowBy_18 ?_
        refine mk_rw (y := nI nr) (hnr) ?_
        refine lv_icmp_ge (tgt := 101) hx hb qd_M_rowBy_21 (by decide) (fun c_4 => ?_) (fun c_4 => ?_)
        · exact absurd c_4 (nI_ge (by omega) (by omega))
        · refine lv_aload_n hx hb qd_M_rowBy_24 rfl (lv_at hl 0 rfl) ?_
          refine va_get (D := (dC, dI)) (ci := 1) (v := .ref (b 3)) (C := qR_M) (T := qT_M) (N := 24) hx hb hts qin_M hown hK hP 0 rfl rfl 11 (by decide) (hts _ mw_413) (fun _ h9 => h9) rfl qd_M_rowBy_25 ?_
          refine lv_bipush (v := 6) hx hb qd_M_rowBy_28 (by decide) ?_
          refine lv_iload hx hb qd_M_rowBy_30 (lv_at hl 4 rfl) ?_
          refine lv_imul hx hb qd_M_rowBy_32 ?_
          refine lv_iconst (v := 2) hx hb qd_M_rowBy_33 (by decide) ?_
          refine lv_iadd hx hb qd_M_rowBy_34 ?_
          refine mk_rw (y := nI ((6 * j) + 2)) (by show ((nI 6) * (nI j)) + (nI 2) = _; simp only [pk_mul, nI_add]) ?_
          refine va_iald (i := (nI ((6 * j) + 2))) hx hb hK hP 3 0 rfl rfl (vp_in_nI (by omega) (by omega)) qd_M_rowBy_35 ?_
          refine mk_rw (y := rw ((6 * j) + 2)) (congrArg _ (nI_clamp (by omega))) ?_
          refine lv_istore (lv' := [(5, .int (rw ((6 * j) + 2))), (0, .ref (b 0)), (1, .int (nI km)), (2, .int (nI i)), (3, .int (nI (mr_rank rw i j))), (4, .int (nI j))]) hx hb qd_M_rowBy_36 hl (by decide) rfl (fun ls hl => ?_)
          refine lv_aload_n hx hb qd_M_rowBy_38 rfl (lv_at hl 1 rfl) ?_
          refine va_get (D := (dC, dI)) (ci := 1) (v := .ref (b 3)) (C := qR_M) (T := qT_M) (N := 24) hx hb hts qin_M hown hK hP 0 rfl rfl 11 (by decide) (hts _ mw_413) (fun _ h9 => h9) rfl qd_M_rowBy_39 ?_
          refine lv_bipush (v := 6) hx hb qd_M_rowBy_42 (by decide) ?_
          refine lv_iload_n hx hb qd_M_rowBy_44 rfl (lv_at hl 3 rfl) ?_
          refine lv_imul hx hb qd_M_rowBy_45 ?_
          refine lv_iconst (v := 2) hx hb qd_M_rowBy_46 (by decide) ?_
          refine lv_iadd hx hb qd_M_rowBy_47 ?_
          refine mk_rw (y := nI ((6 * i) + 2)) (by show ((nI 6) * (nI i)) + (nI 2) = _; simp only [pk_mul, nI_add]) ?_
          refine va_iald (i := (nI ((6 * i) + 2))) hx hb hK hP 3 0 rfl rfl (vp_in_nI (by omega) (by omega)) qd_M_rowBy_48 ?_
          refine mk_rw (y := rw ((6 * i) + 2)) (congrArg _ (nI_clamp (by omega))) ?_
          refine lv_istore (lv' := [(6, .int (rw ((6 * i) + 2))), (5, .int (rw ((6 * j) + 2))), (0, .ref (b 0)), (1, .int (nI km)), (2, .int (nI i)), (3, .int (nI (mr_rank rw i j))), (4, .int (nI j))]) hx hb qd_M_rowBy_49 hl (by decide) rfl (fun ls hl => ?_)
          refine lv_iload hx hb qd_M_rowBy_51 (lv_at hl 1 rfl) ?_
          refine lv_iload hx hb qd_M_rowBy_53 (lv_at hl 0 rfl) ?_
          refine lv_icmp_lt (tgt := 87) hx hb qd_M_rowBy_55 (by decide) (fun c_5 => ?_) (fun c_5 => ?_)
          · refine lv_iload_n hx hb qd_M_rowBy_87 rfl (lv_at hl 5 rfl) ?_
            refine lv_iconst (v := 1) hx hb qd_M_rowBy_88 (by decide) ?_
            refine lv_iadd hx hb qd_M_rowBy_89 ?_
            refine lv_goto (tgt := 94) hx hb qd_M_rowBy_90 (by decide) ?_
            refine mk_rw (y := nI (mr_rank rw i (j + 1))) (mr_s1 (Or.inl c_5)) ?_
            refine lv_istore_n (lv' := [(3, .int (nI (mr_rank rw i (j + 1)))), (6, .int (rw ((6 * i) + 2))), (5, .int (rw ((6 * j) + 2))), (0, .ref (b 0)), (1, .int (nI km)), (2, .int (nI i)), (4, .int (nI j))]) hx hb qd_M_rowBy_94 rfl hl (by decide) rfl (fun ls hl => ?_)
            refine lv_iinc (v := nI (j + 1)) (lv' := [(4, .int (nI (j + 1))), (3, .int (nI (mr_rank rw i (j + 1)))), (6, .int (rw ((6 * i) + 2))), (5, .int (rw ((6 * j) + 2))), (0, .ref (b 0)), (1, .int (nI km)), (2, .int (nI i))]) hx hb qd_M_rowBy_95 hl (k := 6) rfl (mk_inc j) (by decide) rfl (fun ls hl => ?_)
            refine lv_goto (tgt := 15) hx hb qd_M_rowBy_98 (by decide) ?_
            exact ih_3 (j + 1) H locs ls ⟨by omega, hP, hS, lv_sub hl [4, 5, 6, 1, 0] rfl⟩
          · refine lv_iload hx hb qd_M_rowBy_58 (lv_at hl 1 rfl) ?_
            refine lv_iload hx hb qd_M_rowBy_60 (lv_at hl 0 rfl) ?_
            refine lv_icmp_ne (tgt := 93) hx hb qd_M_rowBy_62 (by decide) (fun c_6 => ?_) (fun c_6 => ?_)
            · refine lv_iload_n hx hb qd_M_rowBy_93 rfl (lv_at hl 5 rfl) ?_
              refine mk_rw (y := nI (mr_rank rw i (j + 1))) (mr_s0 (fun q => q.elim c_5 (fun z => c_6 z.1))) ?_
              refine lv_istore_n (lv' := [(3, .int (nI (mr_rank rw i (j + 1)))), (6, .int (rw ((6 * i) + 2))), (5, .int (rw ((6 * j) + 2))), (0, .ref (b 0)), (1, .int (nI km)), (2, .int (nI i)), (4, .int (nI j))]) hx hb qd_M_rowBy_94 rfl hl (by decide) rfl (fun ls hl => ?_)
              refine lv_iinc (v := nI (j + 1)) (lv' := [(4, .int (nI (j + 1))), (3, .int (nI (mr_rank rw i (j + 1)))), (6, .int (rw ((6 * i) + 2))), (5, .int (rw ((6 * j) + 2))), (0, .ref (b 0)), (1, .int (nI km)), (2, .int (nI i))]) hx hb qd_M_rowBy_95 hl (k := 6) rfl (mk_inc j) (by decide) rfl (fun ls hl => ?_)
              refine lv_goto (tgt := 15) hx hb qd_M_rowBy_98 (by decide) ?_
              exact ih_3 (j + 1) H locs ls ⟨by omega, hP, hS, lv_sub hl [4, 5, 6, 1, 0] rfl⟩
            · refine lv_aload_n hx hb qd_M_rowBy_65 rfl (lv_at hl 2 rfl) ?_
              refine va_get (D := (dC, dI)) (ci := 1) (v := .ref (b 3)) (C := qR_M) (T := qT_M) (N := 24) hx hb hts qin_M hown hK hP 0 rfl rfl 11 (by decide) (hts _ mw_413) (fun _ h9 => h9) rfl qd_M_rowBy_66 ?_
              refine lv_bipush (v := 6) hx hb qd_M_rowBy_69 (by decide) ?_
              refine lv_iload hx hb qd_M_rowBy_71 (lv_at hl 6 rfl) ?_
              refine lv_imul hx hb qd_M_rowBy_73 ?_
              refine mk_rw (y := nI (6 * j)) (by show (nI 6) * (nI j) = _; simp only [pk_mul, nI_add]) ?_
              refine va_iald (i := (nI (6 * j))) hx hb hK hP 3 0 rfl rfl (vp_in_nI (by omega) (by omega)) qd_M_rowBy_74 ?_
              refine mk_rw (y := rw (6 * j)) (congrArg _ (nI_clamp (by omega))) ?_
              refine lv_aload_n hx hb qd_M_rowBy_75 rfl (lv_at hl 2 rfl) ?_
              refine va_get (D := (dC, dI)) (ci := 1) (v := .ref (b 3)) (C := qR_M) (T := qT_M) (N := 24) hx hb hts qin_M hown hK hP 0 rfl rfl 11 (by decide) (hts _ mw_413) (fun _ h9 => h9) rfl qd_M_rowBy_76 ?_
              refine lv_bipush (v := 6) hx hb qd_M_rowBy_79 (by decide) ?_
              refine lv_iload_n hx hb qd_M_rowBy_81 rfl (lv_at hl 4 rfl) ?_
              refine lv_imul hx hb qd_M_rowBy_82 ?_
              refine mk_rw (y := nI (6 * i)) (by show (nI 6) * (nI i) = _; simp only [pk_mul, nI_add]) ?_
              refine va_iald (i := (nI (6 * i))) hx hb hK hP 3 0 rfl rfl (vp_in_nI (by omega) (by omega)) qd_M_rowBy_83 ?_
              refine mk_rw (y := rw (6 * i)) (congrArg _ (nI_clamp (by omega))) ?_
              refine lv_icmp_ge (tgt := 93) hx hb qd_M_rowBy_84 (by decide) (fun c_7 => ?_) (fun c_7 => ?_)
              · refine lv_iload_n hx hb qd_M_rowBy_93 rfl (lv_at hl 5 rfl) ?_
                refine mk_rw (y := nI (mr_rank rw i (j + 1))) (mr_s0 (fun q => q.elim c_5 (fun z => sh_nlt c_7 z.2))) ?_
                refine lv_istore_n (lv' := [(3, .int (nI (mr_rank rw i (j + 1)))), (6, .int (rw ((6 * i) + 2))), (5, .int (rw ((6 * j) + 2))), (0, .ref (b 0)), (1, .int (nI km)), (2, .int (nI i)), (4, .int (nI j))]) hx hb qd_M_rowBy_94 rfl hl (by decide) rfl (fun ls hl => ?_)
                refine lv_iinc (v := nI (j + 1)) (lv' := [(4, .int (nI (j + 1))), (3, .int (nI (mr_rank rw i (j + 1)))), (6, .int (rw ((6 * i) + 2))), (5, .int (rw ((6 * j) + 2))), (0, .ref (b 0)), (1, .int (nI km)), (2, .int (nI i))]) hx hb qd_M_rowBy_95 hl (k := 6) rfl (mk_inc j) (by decide) rfl (fun ls hl => ?_)
                refine lv_goto (tgt := 15) hx hb qd_M_rowBy_98 (by decide) ?_
                exact ih_3 (j + 1) H locs ls ⟨by omega, hP, hS, lv_sub hl [4, 5, 6, 1, 0] rfl⟩
              · refine lv_iload_n hx hb qd_M_rowBy_87 rfl (lv_at hl 5 rfl) ?_
                refine lv_iconst (v := 1) hx hb qd_M_rowBy_88 (by decide) ?_
                refine lv_iadd hx hb qd_M_rowBy_89 ?_
                refine lv_goto (tgt := 94) hx hb qd_M_rowBy_90 (by decide) ?_
                refine mk_rw (y := nI (mr_rank rw i (j + 1))) (mr_s1 (Or.inr ⟨c_6, sh_lt_of c_7⟩)) ?_
                refine lv_istore_n (lv' := [(3, .int (nI (mr_rank rw i (j + 1)))), (6, .int (rw ((6 * i) + 2))), (5, .int (rw ((6 * j) + 2))), (0, .ref (b 0)), (1, .int (nI km)), (2, .int (nI i)), (4, .int (nI j))]) hx hb qd_M_rowBy_94 rfl hl (by decide) rfl (fun ls hl => ?_)
                refine lv_iinc (v := nI (j + 1)) (lv' := [(4, .int (nI (j + 1))), (3, .int (nI (mr_rank rw i (j + 1)))), (6, .int (rw ((6 * i) + 2))), (5, .int (rw ((6 * j) + 2))), (0, .ref (b 0)), (1, .int (nI km)), (2, .int (nI i))]) hx hb qd_M_rowBy_95 hl (k := 6) rfl (mk_inc j) (by decide) rfl (fun ls hl => ?_)
                refine lv_goto (tgt := 15) hx hb qd_M_rowBy_98 (by decide) ?_
                exact ih_3 (j + 1) H locs ls ⟨by omega, hP, hS, lv_sub hl [4, 5, 6, 1, 0] rfl⟩
      · obtain ⟨j, rfl⟩ : ∃ z, z = y9 := ⟨_, rfl⟩
        obtain ⟨hinv, hP, hS, hl⟩ := hI
        have hinv : j + 0 = nr := hinv
        have hP : va_P (dC, dI) vwCl (wM b cA cB y ma ve rw jn ou fo go) H := hP
        have hl : lv_has ls 7 [(0, .ref (b 0)), (1, .int (nI km)), (2, .int (nI i)), (3, .int (nI (mr_rank rw i j))), (4, .int (nI j))] := hl
        have ej : j = nr := by omega
        refine lv_iload hx hb qd_M_rowBy_15 (lv_at hl 4 rfl) ?_
        refine lv_aload_n hx hb qd_M_rowBy_17 rfl (lv_at hl 0 rfl) ?_
        refine va_get (D := (dC, dI)) (ci := 1) (v := .int (y 13)) (C := qR_M) (T := qT_M) (N := 24) hx hb hts qin_M hown hK hP 0 rfl rfl 13 (by decide) (hts _ mw_415) (fun _ h9 => h9) rfl qd_M_rowBy_18 ?_
        refine mk_rw (y := nI nr) (hnr) ?_
        refine lv_icmp_ge (tgt := 101) hx hb qd_M_rowBy_21 (by decide) (fun c_8 => ?_) (fun c_8 => ?_)
        · refine lv_iload_n hx hb qd_M_rowBy_101 rfl (lv_at hl 3 rfl) ?_
          refine mk_rw (y := nI (mr_rank rw i nr)) (by rw [ej]) ?_
          refine lv_iload_n hx hb qd_M_rowBy_102 rfl (lv_at hl 1 rfl) ?_
          refine lv_icmp_ne (tgt := 108) hx hb qd_M_rowBy_103 (by decide) (fun c_9 => ?_) (fun c_9 => ?_)
          · refine lv_iinc (v := nI (i + 1)) (lv' := [(2, .int (nI (i + 1))), (0, .ref (b 0)), (1, .int (nI km)), (3, .int (nI (mr_rank rw i j))), (4, .int (nI j))]) hx hb qd_M_rowBy_108 hl (k := 2) rfl (mk_inc i) (by decide) rfl (fun ls hl => ?_)
            refine lv_goto (tgt := 2) hx hb qd_M_rowBy_111 (by decide) ?_
            exact ih_1 (i + 1) H locs ls ⟨⟨by omega, fun j hj => by rcases Nat.lt_or_ge j i with q | q; exact hinv0.2 j q; obtain rfl : i = j := (by omega); exact fun z => c_9 (by rw [z])⟩, hP, hS, lv_sub hl [1, 2, 0] rfl⟩
          · refine lv_iload_n hx hb qd_M_rowBy_106 rfl (lv_at hl 2 rfl) ?_
            exact mk_iret hx hb hr hlocks hS qd_M_rowBy_107 (Or.inr ⟨i, hi9, rfl, (nI_eq (by have := mr_le rw i nr; omega) (by omega)).mp c_9⟩)
        · exact absurd (nI_le (by omega) (by omega)) c_8
  · obtain ⟨i, rfl⟩ : ∃ z, z = y9 := ⟨_, rfl⟩
    obtain ⟨hinv, hP, hS, hl⟩ := hI
    have hinv : i + 0 = nr ∧ ∀ j, j < i → ¬ mr_rank rw j nr = km := hinv
    have hP : va_P (dC, dI) vwCl (wM b cA cB y ma ve rw jn ou fo go) H := hP
    have hl : lv_has ls 7 [(0, .ref (b 0)), (1, .int (nI km)), (2, .int (nI i))] := hl
    refine lv_iload_n hx hb qd_M_rowBy_2 rfl (lv_at hl 2 rfl) ?_
    refine lv_aload_n hx hb qd_M_rowBy_3 rfl (lv_at hl 0 rfl) ?_
    refine va_get (D := (dC, dI)) (ci := 1) (v := .int (y 13)) (C := qR_M) (T := qT_M) (N := 24) hx hb hts qin_M hown hK hP 0 rfl rfl 13 (by decide) (hts _ mw_415) (fun _ h9 => h9) rfl qd_M_rowBy_4 ?_
    refine mk_rw (y := nI nr) (hnr) ?_
    refine lv_icmp_ge (tgt := 114) hx hb qd_M_rowBy_7 (by decide) (fun c_10 => ?_) (fun c_10 => ?_)
    · refine lv_bipush (v := (-2)) hx hb qd_M_rowBy_114 (by decide) ?_
      exact mk_iret hx hb hr hlocks hS qd_M_rowBy_116 (Or.inl ⟨rfl, fun j hj => hinv.2 j (by omega)⟩)
    · exact absurd (nI_le (by omega) (by omega)) c_10
set_option maxHeartbeats 4000000 in
set_option maxRecDepth 100000 in
/-- canJoin(r) -/
theorem c_M_canJoin (l : Launch) (dC : Nat → ClassId) (dI : Nat → Nat → Nat) (cA : ClassId) (sz : Nat) (cB : ClassId) (b : Nat → Nat) (y ma ve rw jn ou fo go : Nat → Int32) (nt : Nat) (hnt : y 1 = nI nt) (ht3 : nt ≤ 3) (r' : Nat) (hr9 : r' < 96) : Met l qy_M_canJoin qw_M_canJoin ({ frames := 0, cells := 0, slots := 0, locals := 0 }) (mk_ro [.ref (b 0), .int (nI r')] sz (dC, dI) vwCl [(cA, .int), (cB, .boolean)] (wM b cA cB y ma ve rw jn ou fo go)) (mk_roQ (fun r => r = mc_b rw ma r' nt) sz) 0 0 (mk_new sz) := by
  refine Met.ofW (cc := qb_M_canJoin) (maxL := 4) (ret := (some .boolean)) (by decide) rfl ?_
  intro p e s m args below meth c s₁ B hml hpre
  obtain ⟨rfl, hsz, hP, hK⟩ := hpre
  have hx := B.exec
  have hb := B.bytes
  have hr := B.returns
  have hts0 := atoms_spec (ws := qw_M_canJoin) B.pre
  have hts := fun w (h : w ∈ lw_gd) => hts0 w (List.mem_cons_of_mem _ h)
  have hown : s.vm.findClass qR_M = some m.cls := findClass_of_methodNamed B.named
  have hlocks := B.notSynchronized
  subst hsz
  have hA : ∀ q : Nat, s.heap.size ≤ q → mk_new s.heap.size q := fun _ h => h
  have hS : va_S (mk_new s.heap.size) s.heap s.heap [] := va_S.rf
  have hl := lv_entry ([.ref (b 0), .int (nI r')]) (n := 4) (Nat.le_of_ble_eq_true rfl)
  rw [lg_entry_eq]
  generalize (lg_sl ([.ref (b 0), .int (nI r')]) ++ List.replicate (4 - (lg_sl ([.ref (b 0), .int (nI r')])).length) Slot.unset).toArray = ls at hl ⊢
  have hl : lv_has ls 4 [(0, .ref (b 0)), (1, .int (nI r'))] := hl
  have hP : va_P (dC, dI) vwCl (wM b cA cB y ma ve rw jn ou fo go) s.heap := hP
  refine mk_start (A := (mk_new s.heap.size)) hP (fun H locs hP hS => ?_)
  refine lv_iconst (v := 1) hx hb qd_M_canJoin_0 (by decide) ?_
  refine mk_rw (y := mc_b rw ma r' 0) ((if_pos (fun c q => absurd q (Nat.not_lt_zero _))).symm) ?_
  refine lv_istore_n (lv' := [(2, .int (mc_b rw ma r' 0)), (0, .ref (b 0)), (1, .int (nI r'))]) hx hb qd_M_canJoin_1 rfl hl (by decide) rfl (fun ls hl => ?_)
  refine lv_iconst (v := 0) hx hb qd_M_canJoin_2 (by decide) ?_
  refine mk_rw (y := nI 0) (rfl) ?_
  refine lv_istore_n (lv' := [(3, .int (nI 0)), (2, .int (mc_b rw ma r' 0)), (0, .ref (b 0)), (1, .int (nI r'))]) hx hb qd_M_canJoin_3 rfl hl (by decide) rfl (fun ls hl => ?_)
  refine mk_loop (σ := Nat) (fun n y9 H locs ls => (y9 + n = nt) ∧ va_P (dC, dI) vwCl (wM b cA cB y ma ve rw jn ou fo go) H ∧ va_S (mk_new s.heap.size) s.heap H locs ∧ lv_has ls 4 [(0, .ref (b 0)), (1, .int (nI r')), (2, .int (mc_b rw ma r' y9)), (3, .int (nI y9))]) (fun ls => F0 m 4 ls []) (fun n y9 H locs ls hI ih_1 => ?_) (fun y9 H locs ls hI => ?_) nt 0 H locs ls ⟨Nat.zero_add _, hP, hS, lv_sub hl [2, 3, 1, 0] rfl⟩
  · obtain ⟨i, rfl⟩ : ∃ z, z = y9 := ⟨_, rfl⟩
    obtain ⟨hinv, hP, hS, hl⟩ := hI
    have hinv : i + (n + 1) = nt := hinv
    have hP : va_P (dC, dI) vwCl (wM b cA cB y ma ve rw jn ou fo go) H := hP
    have hl : lv_has ls 4 [(0, .ref (b 0)), (1, .int (nI r')), (2, .int (mc_b rw ma r' i)), (3, .int (nI i))] := hl
    refine lv_iload_n hx hb qd_M_canJoin_4 rfl (lv_at hl 3 rfl) ?_
    refine lv_aload_n hx hb qd_M_canJoin_5 rfl (lv_at hl 0 rfl) ?_
    refine va_get (D := (dC, dI)) (ci := 1) (v := .int (y 1)) (C := qR_M) (T := qT_M) (N := 24) hx hb hts qin_M hown hK hP 0 rfl rfl 1 (by decide) (hts _ mw_403) (fun _ h9 => h9) rfl qd_M_canJoin_6 ?_
    refine mk_rw (y := nI nt) (hnt) ?_
    refine lv_icmp_ge (tgt := 48) hx hb qd_M_canJoin_9 (by decide) (fun c_2 => ?_) (fun c_2 => ?_)
    · exact absurd c_2 (nI_ge (by omega) (by omega))
    · refine lv_iload_n hx hb qd_M_canJoin_12 rfl (lv_at hl 2 rfl) ?_
      refine lv_if_eq (tgt := 40) hx hb qd_M_canJoin_13 (by decide) (fun c_3 => ?_) (fun c_3 => ?_)
      · refine lv_iconst (v := 0) hx hb qd_M_canJoin_40 (by decide) ?_
        refine mk_rw (y := mc_b rw ma r' (i + 1)) (mc_s2 c_3) ?_
        refine lv_istore_n (lv' := [(2, .int (mc_b rw ma r' (i + 1))), (0, .ref (b 0)), (1, .int (nI r')), (3, .int (nI i))]) hx hb qd_M_canJoin_41 rfl hl (by decide) rfl (fun ls hl => ?_)
        refine lv_iinc (v := nI (i + 1)) (lv' := [(3, .int (nI (i + 1))), (2, .int (mc_b rw ma r' (i + 1))), (0, .ref (b 0)), (1, .int (nI r'))]) hx hb qd_M_canJoin_42 hl (k := 3) rfl (mk_inc i) (by decide) rfl (fun ls hl => ?_)
        refine lv_goto (tgt := 4) hx hb qd_M_canJoin_45 (by decide) ?_
        exact ih_1 (i + 1) H locs ls ⟨by omega, hP, hS, lv_sub hl [2, 3, 1, 0] rfl⟩
      · refine lv_aload_n hx hb qd_M_canJoin_16 rfl (lv_at hl 0 rfl) ?_
        refine va_get (D := (dC, dI)) (ci := 1) (v := .ref (b 1)) (C := qR_M) (T := qT_M) (N := 24) hx hb hts qin_M hown hK hP 0 rfl rfl 7 (by decide) (hts _ mw_409) (fun _ h9 => h9) rfl qd_M_canJoin_17 ?_
        refine lv_iload_n hx hb qd_M_canJoin_20 rfl (lv_at hl 3 rfl) ?_
        refine va_iald (i := (nI i)) hx hb hK hP 1 0 rfl rfl (vp_in_nI (by omega) (by omega)) qd_M_canJoin_21 ?_
        refine mk_rw (y := ma i) (congrArg _ (nI_clamp (by omega))) ?_
        refine lv_aload_n hx hb qd_M_canJoin_22 rfl (lv_at hl 0 rfl) ?_
        refine va_get (D := (dC, dI)) (ci := 1) (v := .ref (b 3)) (C := qR_M) (T := qT_M) (N := 24) hx hb hts qin_M hown hK hP 0 rfl rfl 11 (by decide) (hts _ mw_413) (fun _ h9 => h9) rfl qd_M_canJoin_23 ?_
        refine lv_bipush (v := 6) hx hb qd_M_canJoin_26 (by decide) ?_
        refine lv_iload_n hx hb qd_M_canJoin_28 rfl (lv_at hl 1 rfl) ?_
        refine lv_imul hx hb qd_M_canJoin_29 ?_
        refine lv_iconst (v := 2) hx hb qd_M_canJoin_30 (by decide) ?_
        refine lv_iadd hx hb qd_M_canJoin_31 ?_
        refine mk_rw (y := nI ((6 * r') + 2)) (by show ((nI 6) * (nI r')) + (nI 2) = _; simp only [pk_mul, nI_add]) ?_
        refine va_iald (i := (nI ((6 * r') + 2))) hx hb hK hP 3 0 rfl rfl (vp_in_nI (by omega) (by omega)) qd_M_canJoin_32 ?_
        refine mk_rw (y := rw ((6 * r') + 2)) (congrArg _ (nI_clamp (by omega))) ?_
        refine lv_icmp_lt (tgt := 40) hx hb qd_M_canJoin_33 (by decide) (fun c_4 => ?_) (fun c_4 => ?_)
        · refine lv_iconst (v := 0) hx hb qd_M_canJoin_40 (by decide) ?_
          refine mk_rw (y := mc_b rw ma r' (i + 1)) (mc_s3 c_4) ?_
          refine lv_istore_n (lv' := [(2, .int (mc_b rw ma r' (i + 1))), (0, .ref (b 0)), (1, .int (nI r')), (3, .int (nI i))]) hx hb qd_M_canJoin_41 rfl hl (by decide) rfl (fun ls hl => ?_)
          refine lv_iinc (v := nI (i + 1)) (lv' := [(3, .int (nI (i + 1))), (2, .int (mc_b rw ma r' (i + 1))), (0, .ref (b 0)), (1, .int (nI r'))]) hx hb qd_M_canJoin_42 hl (k := 3) rfl (mk_inc i) (by decide) rfl (fun ls hl => ?_)
          refine lv_goto (tgt := 4) hx hb qd_M_canJoin_45 (by decide) ?_
          exact ih_1 (i + 1) H locs ls ⟨by omega, hP, hS, lv_sub hl [2, 3, 1, 0] rfl⟩
        · refine lv_iconst (v := 1) hx hb qd_M_canJoin_36 (by decide) ?_
          refine lv_goto (tgt := 41) hx hb qd_M_canJoin_37 (by decide) ?_
          refine mk_rw (y := mc_b rw ma r' (i + 1)) (mc_s1 c_3 c_4) ?_
          refine lv_istore_n (lv' := [(2, .int (mc_b rw ma r' (i + 1))), (0, .ref (b 0)), (1, .int (nI r')), (3, .int (nI i))]) hx hb qd_M_canJoin_41 rfl hl (by decide) rfl (fun ls hl => ?_)
          refine lv_iinc (v := nI (i + 1)) (lv' := [(3, .int (nI (i + 1))), (2, .int (mc_b rw ma r' (i + 1))), (0, .ref (b 0)), (1, .int (nI r'))]) hx hb qd_M_canJoin_42 hl (k := 3) rfl (mk_inc i) (by decide) rfl (fun ls hl => ?_)
          refine lv_goto (tgt := 4) hx hb qd_M_canJoin_45 (by decide) ?_
          exact ih_1 (i + 1) H locs ls ⟨by omega, hP, hS, lv_sub hl [2, 3, 1, 0] rfl⟩
  · obtain ⟨i, rfl⟩ : ∃ z, z = y9 := ⟨_, rfl⟩
    obtain ⟨hinv, hP, hS, hl⟩ := hI
    have hinv : i + 0 = nt := hinv
    have hP : va_P (dC, dI) vwCl (wM b cA cB y ma ve rw jn ou fo go) H := hP
    have hl : lv_has ls 4 [(0, .ref (b 0)), (1, .int (nI r')), (2, .int (mc_b rw ma r' i)), (3, .int (nI i))] := hl
    have ei : i = nt := by omega
    refine lv_iload_n hx hb qd_M_canJoin_4 rfl (lv_at hl 3 rfl) ?_
    refine lv_aload_n hx hb qd_M_canJoin_5 rfl (lv_at hl 0 rfl) ?_
    refine va_get (D := (dC, dI)) (ci := 1) (v := .int (y 1)) (C := qR_M) (T := qT_M) (N := 24) hx hb hts qin_M hown hK hP 0 rfl rfl 1 (by decide) (hts _ mw_403) (fun _ h9 => h9) rfl qd_M_canJoin_6 ?_
    refine mk_rw (y := nI nt) (hnt) ?_
    refine lv_icmp_ge (tgt := 48) hx hb qd_M_canJoin_9 (by decide) (fun c_5 => ?_) (fun c_5 => ?_)
    · refine lv_iload_n hx hb qd_M_canJoin_48 rfl (lv_at hl 2 rfl) ?_
      exact mk_zret hx hb hr hlocks hS qd_M_canJoin_49 (mc_01 _ _ _ _) (by rw [ei])
    · exact absurd (nI_le (by omega) (by omega)) c_5
set_option maxHeartbeats 4000000 in
set_option maxRecDepth 100000 in
/-- isGiven(): 0 or 1 -/
theorem c_M_isGiven (l : Launch) (dC : Nat → ClassId) (dI : Nat → Nat → Nat) (cA : ClassId) (sz : Nat) (cB : ClassId) (b : Nat → Nat) (y ma ve rw jn ou fo go : Nat → Int32) (nt : Nat) (hnt : y 1 = nI nt) (ht3 : nt ≤ 3) : Met l qy_M_isGiven qw_M_isGiven ({ frames := 0, cells := 0, slots := 0, locals := 0 }) (mk_ro [.ref (b 0)] sz (dC, dI) vwCl [(cA, .int), (cB, .boolean)] (wM b cA cB y ma ve rw jn ou fo go)) (mk_roQ (fun r => r = 0 ∨ r = 1) sz) 0 0 (mk_new sz) := by
  refine Met.ofW (cc := qb_M_isGiven) (maxL := 3) (ret := (some .boolean)) (by decide) rfl ?_
  intro p e s m args below meth c s₁ B hml hpre
  obtain ⟨rfl, hsz, hP, hK⟩ := hpre
  have hx := B.exec
  have hb := B.bytes
  have hr := B.returns
  have hts0 := atoms_spec (ws := qw_M_isGiven) B.pre
  have hts := fun w (h : w ∈ lw_gd) => hts0 w (List.mem_cons_of_mem _ h)
  have hown : s.vm.findClass qR_M = some m.cls := findClass_of_methodNamed B.named
  have hlocks := B.notSynchronized
  subst hsz
  have hA : ∀ q : Nat, s.heap.size ≤ q → mk_new s.heap.size q := fun _ h => h
  have hS : va_S (mk_new s.heap.size) s.heap s.heap [] := va_S.rf
  have hl := lv_entry ([.ref (b 0)]) (n := 3) (Nat.le_of_ble_eq_true rfl)
  rw [lg_entry_eq]
  generalize (lg_sl ([.ref (b 0)]) ++ List.replicate (3 - (lg_sl ([.ref (b 0)])).length) Slot.unset).toArray = ls at hl ⊢
  have hl : lv_has ls 3 [(0, .ref (b 0))] := hl
  have hP : va_P (dC, dI) vwCl (wM b cA cB y ma ve rw jn ou fo go) s.heap := hP
  refine mk_start (A := (mk_new s.heap.size)) hP (fun H locs hP hS => ?_)
  refine lv_iconst (v := 1) hx hb qd_M_isGiven_0 (by decide) ?_
  refine lv_istore_n (lv' := [(1, .int 1), (0, .ref (b 0))]) hx hb qd_M_isGiven_1 rfl hl (by decide) rfl (fun ls hl => ?_)
  refine lv_iconst (v := 0) hx hb qd_M_isGiven_2 (by decide) ?_
  refine mk_rw (y := nI 0) (rfl) ?_
  refine lv_istore_n (lv' := [(2, .int (nI 0)), (1, .int 1), (0, .ref (b 0))]) hx hb qd_M_isGiven_3 rfl hl (by decide) rfl (fun ls hl => ?_)
  refine mk_loop (σ := Nat × Int32) (fun n y9 H locs ls => (y9.1 + n = nt) ∧ va_P (dC, dI) vwCl (wM b cA cB y ma ve rw jn ou fo go) H ∧ va_S (mk_new s.heap.size) s.heap H locs ∧ lv_has ls 3 [(0, .ref (b 0)), (1, .int y9.2), (2, .int (nI y9.1))]) (fun ls => F0 m 4 ls []) (fun n y9 H locs ls hI ih_1 => ?_) (fun y9 H locs ls hI => ?_) nt (0, 1) H locs ls ⟨Nat.zero_add _, hP, hS, lv_sub hl [2, 1, 0] rfl⟩
  · obtain ⟨i, z⟩ := y9
    obtain ⟨hinv, hP, hS, hl⟩ := hI
    have hinv : i + (n + 1) = nt := hinv
    have hP : va_P (dC, dI) vwCl (wM b cA cB y ma ve rw jn ou fo go) H := hP
    have hl : lv_has ls 3 [(0, .ref (b 0)), (1, .int z), (2, .int (nI i))] := hl
    refine lv_iload_n hx hb qd_M_isGiven_4 rfl (lv_at hl 2 rfl) ?_
    refine lv_aload_n hx hb qd_M_isGiven_5 rfl (lv_at hl 0 rfl) ?_
    refine va_get (D := (dC, dI)) (ci := 1) (v := .int (y 1)) (C := qR_M) (T := qT_M) (N := 24) hx hb hts qin_M hown hK hP 0 rfl rfl 1 (by decide) (hts _ mw_403) (fun _ h9 => h9) rfl qd_M_isGiven_6 ?_
    refine mk_rw (y := nI nt) (hnt) ?_
    refine lv_icmp_ge (tgt := 41) hx hb qd_M_isGiven_9 (by decide) (fun c_2 => ?_) (fun c_2 => ?_)
    · exact absurd c_2 (nI_ge (by omega) (by omega))
    · refine lv_iload_n hx hb qd_M_isGiven_12 rfl (lv_at hl 1 rfl) ?_
      refine lv_if_eq (tgt := 33) hx hb qd_M_isGiven_13 (by decide) (fun c_3 => ?_) (fun c_3 => ?_)
      · refine lv_iconst (v := 0) hx hb qd_M_isGiven_33 (by decide) ?_
        refine lv_istore_n (lv' := [(1, .int 0), (0, .ref (b 0)), (2, .int (nI i))]) hx hb qd_M_isGiven_34 rfl hl (by decide) rfl (fun ls hl => ?_)
        refine lv_iinc (v := nI (i + 1)) (lv' := [(2, .int (nI (i + 1))), (1, .int 0), (0, .ref (b 0))]) hx hb qd_M_isGiven_35 hl (k := 2) rfl (mk_inc i) (by decide) rfl (fun ls hl => ?_)
        refine lv_goto (tgt := 4) hx hb qd_M_isGiven_38 (by decide) ?_
        exact ih_1 ((i + 1), 0) H locs ls ⟨by omega, hP, hS, lv_sub hl [2, 1, 0] rfl⟩
      · refine lv_aload_n hx hb qd_M_isGiven_16 rfl (lv_at hl 0 rfl) ?_
        refine va_get (D := (dC, dI)) (ci := 1) (v := .ref (b 6)) (C := qR_M) (T := qT_M) (N := 24) hx hb hts qin_M hown hK hP 0 rfl rfl 22 (by decide) (hts _ mw_424) (fun _ h9 => h9) rfl qd_M_isGiven_17 ?_
        refine lv_iconst (v := 2) hx hb qd_M_isGiven_20 (by decide) ?_
        refine lv_iload_n hx hb qd_M_isGiven_21 rfl (lv_at hl 2 rfl) ?_
        refine lv_imul hx hb qd_M_isGiven_22 ?_
        refine mk_rw (y := nI (2 * i)) (by show (nI 2) * (nI i) = _; simp only [pk_mul, nI_add]) ?_
        refine va_iald (i := (nI (2 * i))) hx hb hK hP 6 0 rfl rfl (vp_in_nI (by omega) (by omega)) qd_M_isGiven_23 ?_
        refine mk_rw (y := fo (2 * i)) (congrArg _ (nI_clamp (by omega))) ?_
        refine lv_bipush (v := (-2)) hx hb qd_M_isGiven_24 (by decide) ?_
        refine lv_icmp_eq (tgt := 33) hx hb qd_M_isGiven_26 (by decide) (fun c_4 => ?_) (fun c_4 => ?_)
        · refine lv_iconst (v := 0) hx hb qd_M_isGiven_33 (by decide) ?_
          refine lv_istore_n (lv' := [(1, .int 0), (0, .ref (b 0)), (2, .int (nI i))]) hx hb qd_M_isGiven_34 rfl hl (by decide) rfl (fun ls hl => ?_)
          refine lv_iinc (v := nI (i + 1)) (lv' := [(2, .int (nI (i + 1))), (1, .int 0), (0, .ref (b 0))]) hx hb qd_M_isGiven_35 hl (k := 2) rfl (mk_inc i) (by decide) rfl (fun ls hl => ?_)
          refine lv_goto (tgt := 4) hx hb qd_M_isGiven_38 (by decide) ?_
          exact ih_1 ((i + 1), 0) H locs ls ⟨by omega, hP, hS, lv_sub hl [2, 1, 0] rfl⟩
        · refine lv_iconst (v := 1) hx hb qd_M_isGiven_29 (by decide) ?_
          refine lv_goto (tgt := 34) hx hb qd_M_isGiven_30 (by decide) ?_
          refine lv_istore_n (lv' := [(1, .int 1), (0, .ref (b 0)), (2, .int (nI i))]) hx hb qd_M_isGiven_34 rfl hl (by decide) rfl (fun ls hl => ?_)
          refine lv_iinc (v := nI (i + 1)) (lv' := [(2, .int (nI (i + 1))), (1, .int 1), (0, .ref (b 0))]) hx hb qd_M_isGiven_35 hl (k := 2) rfl (mk_inc i) (by decide) rfl (fun ls hl => ?_)
          refine lv_goto (tgt := 4) hx hb qd_M_isGiven_38 (by decide) ?_
          exact ih_1 ((i + 1), 1) H locs ls ⟨by omega, hP, hS, lv_sub hl [2, 1, 0] rfl⟩
  · obtain ⟨i, z⟩ := y9
    obtain ⟨hinv, hP, hS, hl⟩ := hI
    have hinv : i + 0 = nt := hinv
    have hP : va_P (dC, dI) vwCl (wM b cA cB y ma ve rw jn ou fo go) H := hP
    have hl : lv_has ls 3 [(0, .ref (b 0)), (1, .int z), (2, .int (nI i))] := hl
    refine lv_iload_n hx hb qd_M_isGiven_4 rfl (lv_at hl 2 rfl) ?_
    refine lv_aload_n hx hb qd_M_isGiven_5 rfl (lv_at hl 0 rfl) ?_
    refine va_get (D := (dC, dI)) (ci := 1) (v := .int (y 1)) (C := qR_M) (T := qT_M) (N := 24) hx hb hts qin_M hown hK hP 0 rfl rfl 1 (by decide) (hts _ mw_403) (fun _ h9 => h9) rfl qd_M_isGiven_6 ?_
    refine mk_rw (y := nI nt) (hnt) ?_
    refine lv_icmp_ge (tgt := 41) hx hb qd_M_isGiven_9 (by decide) (fun c_5 => ?_) (fun c_5 => ?_)
    · refine lv_aload_n hx hb qd_M_isGiven_41 rfl (lv_at hl 0 rfl) ?_
      refine va_get (D := (dC, dI)) (ci := 1) (v := .int (y 4)) (C := qR_M) (T := qT_M) (N := 24) hx hb hts qin_M hown hK hP 0 rfl rfl 4 (by decide) (hts _ mw_406) (fun _ h9 => h9) rfl qd_M_isGiven_42 ?_
      refine lv_if_eq (tgt := 52) hx hb qd_M_isGiven_45 (by decide) (fun c_6 => ?_) (fun c_6 => ?_)
      · refine lv_iconst (v := 1) hx hb qd_M_isGiven_52 (by decide) ?_
        refine lv_goto (tgt := 57) hx hb qd_M_isGiven_53 (by decide) ?_
        exact mk_zret hx hb hr hlocks hS qd_M_isGiven_57 (by decide) (Or.inr rfl)
      · refine lv_iload_n hx hb qd_M_isGiven_48 rfl (lv_at hl 1 rfl) ?_
        refine lv_if_eq (tgt := 56) hx hb qd_M_isGiven_49 (by decide) (fun c_7 => ?_) (fun c_7 => ?_)
        · refine lv_iconst (v := 0) hx hb qd_M_isGiven_56 (by decide) ?_
          exact mk_zret hx hb hr hlocks hS qd_M_isGiven_57 (by decide) (Or.inl rfl)
        · refine lv_iconst (v := 1) hx hb qd_M_isGiven_52 (by decide) ?_
          refine lv_goto (tgt := 57) hx hb qd_M_isGiven_53 (by decide) ?_
          exact mk_zret hx hb hr hlocks hS qd_M_isGiven_57 (by decide) (Or.inr rfl)
    · exact absurd (nI_le (by omega) (by omega)) c_5
set_option maxHeartbeats 4000000 in
set_option maxRecDepth 100000 in
/-- versionBy(table, key, many) -/
theorem c_M_versionBy (l : Launch) (dC : Nat → ClassId) (dI : Nat → Nat → Nat) (cA : ClassId) (sz : Nat) (cB : ClassId) (b : Nat → Nat) (y ma ve rw jn ou fo go : Nat → Int32) (nv : Nat) (hnv : y 10 = nI nv) (hv : nv ≤ 160) (t k : Int32) (km : Nat) (hkm : km < 2 ^ 30) : Met l qy_M_versionBy qw_M_versionBy ({ frames := 1, cells := 0, slots := 0, locals := 30 }) (mk_ro [.ref (b 0), .int t, .int k, .int (nI km)] sz (dC, dI) vwCl [(cA, .int), (cB, .boolean)] (wM b cA cB y ma ve rw jn ou fo go)) (mk_roQ (fun r => (r = -2 ∧ ∀ i, i < nv → ¬ mo_b ve i t k = 0 → ¬ mb_rank ve t k i nv = km) ∨ ∃ i, i < nv ∧ r = nI i ∧ ¬ mo_b ve i t k = 0 ∧ mb_rank ve t k i nv = km) sz) 0 0 (mk_new sz) := by
  refine Met.ofW (cc := qb_M_versionBy) (maxL := 7) (ret := (some .int)) (by decide) rfl ?_
  intro p e s m args below meth c s₁ B hml hpre
  obtain ⟨rfl, hsz, hP, hK⟩ := hpre
  have hx := B.exec
  have hb := B.bytes
  have hr := B.returns
  have hts0 := atoms_spec (ws := qw_M_versionBy) B.pre
  have hts := fun w (h : w ∈ lw_gd) => hts0 w (List.mem_cons_of_mem _ h)
  have hown : s.vm.findClass qR_M = some m.cls := findClass_of_methodNamed B.named
  have hlocks := B.notSynchronized
  subst hsz
  have hA : ∀ q : Nat, s.heap.size ≤ q → mk_new s.heap.size q := fun _ h => h
  have hS : va_S (mk_new s.heap.size) s.heap s.heap [] := va_S.rf
  have hl := lv_entry ([.ref (b 0), .int t, .int k, .int (nI km)]) (n := 7) (Nat.le_of_ble_eq_true rfl)
  rw [lg_entry_eq]
  generalize (lg_sl ([.ref (b 0), .int t, .int k, .int (nI km)]) ++ List.replicate (7 - (lg_sl ([.ref (b 0), .int t, .int k, .int (nI km)])).length) Slot.unset).toArray = ls at hl ⊢
  have hl : lv_has ls 7 [(0, .ref (b 0)), (1, .int t), (2, .int k), (3, .int (nI km))] := hl
  have hP : va_P (dC, dI) vwCl (wM b cA cB y ma ve rw jn ou fo go) s.heap := hP
  refine mk_start (A := (mk_new s.heap.size)) hP (fun H locs hP hS => ?_)
  refine lv_iconst (v := 0) hx hb qd_M_versionBy_0 (by decide) ?_
  refine mk_rw (y := nI 0) (rfl) ?_
  refine lv_istore (lv' := [(4, .int (nI 0)), (0, .ref (b 0)), (1, .int t), (2, .int k), (3, .int (nI km))]) hx hb qd_M_versionBy_1 hl (by decide) rfl (fun ls hl => ?_)
  refine mk_loop (σ := Nat) (fun n y9 H locs ls => (y9 + n = nv ∧ ∀ j, j < y9 → ¬ mo_b ve j t k = 0 → ¬ mb_rank ve t k j nv = km) ∧ va_P (dC, dI) vwCl (wM b cA cB y ma ve rw jn ou fo go) H ∧ va_S (mk_new s.heap.size) s.heap H locs ∧ lv_has ls 7 [(0, .ref (b 0)), (1, .int t), (2, .int k), (3, .int (nI km)), (4, .int (nI y9))]) (fun ls => F0 m 3 ls []) (fun n y9 H locs ls hI ih_1 => ?_) (fun y9 H locs ls hI => ?_) nv 0 H locs ls ⟨⟨Nat.zero_add _, fun _ q => absurd q (Nat.not_lt_zero _)⟩, hP, hS, lv_sub hl [1, 2, 3, 4, 0] rfl⟩
  · obtain ⟨i, rfl⟩ : ∃ z, z = y9 := ⟨_, rfl⟩
    obtain ⟨hinv, hP, hS, hl⟩ := hI
    have hinv : i + (n + 1) = nv ∧ ∀ j, j < i → ¬ mo_b ve j t k = 0 → ¬ mb_rank ve t k j nv = km := hinv
    have hP : va_P (dC, dI) vwCl (wM b cA cB y ma ve rw jn ou fo go) H := hP
    have hl : lv_has ls 7 [(0, .ref (b 0)), (1, .int t), (2, .int k), (3, .int (nI km)), (4, .int (nI i))] := hl
    have hinv0 := hinv
    have hi9 : i < nv := by omega
    refine lv_iload hx hb qd_M_versionBy_3 (lv_at hl 4 rfl) ?_
    refine lv_aload_n hx hb qd_M_versionBy_5 rfl (lv_at hl 0 rfl) ?_
    refine va_get (D := (dC, dI)) (ci := 1) (v := .int (y 10)) (C := qR_M) (T := qT_M) (N := 24) hx hb hts qin_M hown hK hP 0 rfl rfl 10 (by decide) (hts _ mw_412) (fun _ h9 => h9) rfl qd_M_versionBy_6 ?_
    refine mk_rw (y := nI nv) (hnv) ?_
    refine lv_icmp_ge (tgt := 106) hx hb qd_M_versionBy_9 (by decide) (fun c_2 => ?_) (fun c_2 => ?_)
    · exact absurd c_2 (nI_ge (by omega) (by omega))
    · refine lv_iconst (v := 0) hx hb qd_M_versionBy_12 (by decide) ?_
      refine mk_rw (y := nI (mb_rank ve t k i 0)) (rfl) ?_
      refine lv_istore (lv' := [(5, .int (nI (mb_rank ve t k i 0))), (0, .ref (b 0)), (1, .int t), (2, .int k), (3, .int (nI km)), (4, .int (nI i))]) hx hb qd_M_versionBy_13 hl (by decide) rfl (fun ls hl => ?_)
      refine lv_iconst (v := 0) hx hb qd_M_versionBy_15 (by decide) ?_
      refine mk_rw (y := nI 0) (rfl) ?_
      refine lv_istore (lv' := [(6, .int (nI 0)), (5, .int (nI (mb_rank ve t k i 0))), (0, .ref (b 0)), (1, .int t), (2, .int k), (3, .int (nI km)), (4, .int (nI i))]) hx hb qd_M_versionBy_16 hl (by decide) rfl (fun ls hl => ?_)
      refine mk_loop (σ := Nat) (fun n2 y9 H locs ls => (y9 + n2 = nv) ∧ va_P (dC, dI) vwCl (wM b cA cB y ma ve rw jn ou fo go) H ∧ va_S (mk_new s.heap.size) s.heap H locs ∧ lv_has ls 7 [(0, .ref (b 0)), (1, .int t), (2, .int k), (3, .int (nI km)), (4, .int (nI i)), (5, .int (nI (mb_rank ve t k i y9))), (6, .int (nI y9))]) (fun ls => F0 m 18 ls []) (fun n2 y9 H locs ls hI ih_3 => ?_) (fun y9 H locs ls hI => ?_) nv 0 H locs ls ⟨Nat.zero_add _, hP, hS, lv_sub hl [2, 3, 4, 5, 6, 1, 0] rfl⟩
      · obtain ⟨j, rfl⟩ : ∃ z, z = y9 := ⟨_, rfl⟩
        obtain ⟨hinv, hP, hS, hl⟩ := hI
        have hinv : j + (n2 + 1) = nv := hinv
        have hP : va_P (dC, dI) vwCl (wM b cA cB y ma ve rw jn ou fo go) H := hP
        have hl : lv_has ls 7 [(0, .ref (b 0)), (1, .int t), (2, .int k), (3, .int (nI km)), (4, .int (nI i)), (5, .int (nI (mb_rank ve t k i j))), (6, .int (nI j))] := hl
        refine lv_iload hx hb qd_M_versionBy_18 (lv_at hl 6 rfl) ?_
        refine lv_aload_n hx hb qd_M_versionBy_20 rfl (lv_at hl 0 rfl) ?_
        refine va_get (D := (dC, dI)) (ci := 1) (v := .int (y 10)) (C := qR_M) (T := qT_M) (N := 24) hx hb hts qin_M hown hK hP 0 rfl rfl 10 (by decide) (hts _ mw_412) (fun _ h9 => h9) rfl qd_M_versionBy_21 ?_
        refine mk_rw (y := nI nv) (hnv) ?_
        refine lv_icmp_ge (tgt := 80) hx hb qd_M_versionBy_24 (by decide) (fun c_4 => ?_) (fun c_4 => ?_)
        · exact absurd c_4 (nI_ge (by omega) (by omega))
        · refine lv_aload_n hx hb qd_M_versionBy_27 rfl (lv_at hl 0 rfl) ?_
          refine lv_iload hx hb qd_M_versionBy_28 (lv_at hl 6 rfl) ?_
          refine lv_iload_n hx hb qd_M_versionBy_30 rfl (lv_at hl 1 rfl) ?_
          refine lv_iload_n hx hb qd_M_versionBy_31 rfl (lv_at hl 2 rfl) ?_
          refine mk_calli (va_runV (As := [.int (nI j), .int t, .int k]) (rest := []) ⟨hx, hb, hml, hown, hts⟩ (c_M_isOf l dC dI cA H.size cB b y ma ve rw jn ou fo go j (by omega) t k) (cwV 3 hts gc_M_69 rfl rfl rfl (by decide +kernel) ⟨Nat.le_of_ble_eq_true rfl, Nat.le_of_ble_eq_true rfl⟩) (mk_roV hP [0, 1, 2, 3, 4, 5, 6, 7] rfl hK (va_recv hK hP (ci := 1) (q0 := 0) rfl rfl)) rfl rfl hl.1 rfl (lv_room (Nat.le_of_ble_eq_true rfl)) qd_M_versionBy_32 ⟨(Nat.zero_le _), (Nat.zero_le _)⟩) hS hA hP (fun r_5 H locs hr_5 hP hS => ?_)
          obtain rfl : r_5 = mo_b ve j t k := hr_5
          refine lv_if_eq (tgt := 70) hx hb qd_M_versionBy_35 (by decide) (fun c_6 => ?_) (fun c_6 => ?_)
          · refine lv_iload hx hb qd_M_versionBy_70 (lv_at hl 5 rfl) ?_
            refine mk_rw (y := nI (mb_rank ve t k i (j + 1))) (mb_s0 (fun q => q.1 c_6)) ?_
            refine lv_istore (lv' := [(5, .int (nI (mb_rank ve t k i (j + 1)))), (0, .ref (b 0)), (1, .int t), (2, .int k), (3, .int (nI km)), (4, .int (nI i)), (6, .int (nI j))]) hx hb qd_M_versionBy_72 hl (by decide) rfl (fun ls hl => ?_)
            refine lv_iinc (v := nI (j + 1)) (lv' := [(6, .int (nI (j + 1))), (5, .int (nI (mb_rank ve t k i (j + 1)))), (0, .ref (b 0)), (1, .int t), (2, .int k), (3, .int (nI km)), (4, .int (nI i))]) hx hb qd_M_versionBy_74 hl (k := 6) rfl (mk_inc j) (by decide) rfl (fun ls hl => ?_)
            refine lv_goto (tgt := 18) hx hb qd_M_versionBy_77 (by decide) ?_
            exact ih_3 (j + 1) H locs ls ⟨by omega, hP, hS, lv_sub hl [2, 3, 4, 5, 6, 1, 0] rfl⟩
          · refine lv_aload_n hx hb qd_M_versionBy_38 rfl (lv_at hl 0 rfl) ?_
            refine va_get (D := (dC, dI)) (ci := 1) (v := .ref (b 2)) (C := qR_M) (T := qT_M) (N := 24) hx hb hts qin_M hown hK hP 0 rfl rfl 9 (by decide) (hts _ mw_411) (fun _ h9 => h9) rfl qd_M_versionBy_39 ?_
            refine lv_iconst (v := 4) hx hb qd_M_versionBy_42 (by decide) ?_
            refine lv_iload hx hb qd_M_versionBy_43 (lv_at hl 6 rfl) ?_
            refine lv_imul hx hb qd_M_versionBy_45 ?_
            refine lv_iconst (v := 2) hx hb qd_M_versionBy_46 (by decide) ?_
            refine lv_iadd hx hb qd_M_versionBy_47 ?_
            refine mk_rw (y := nI ((4 * j) + 2)) (by show ((nI 4) * (nI j)) + (nI 2) = _; simp only [pk_mul, nI_add]) ?_
            refine va_iald (i := (nI ((4 * j) + 2))) hx hb hK hP 2 0 rfl rfl (vp_in_nI (by omega) (by omega)) qd_M_versionBy_48 ?_
            refine mk_rw (y := ve ((4 * j) + 2)) (congrArg _ (nI_clamp (by omega))) ?_
            refine lv_aload_n hx hb qd_M_versionBy_49 rfl (lv_at hl 0 rfl) ?_
            refine va_get (D := (dC, dI)) (ci := 1) (v := .ref (b 2)) (C := qR_M) (T := qT_M) (N := 24) hx hb hts qin_M hown hK hP 0 rfl rfl 9 (by decide) (hts _ mw_411) (fun _ h9 => h9) rfl qd_M_versionBy_50 ?_
            refine lv_iconst (v := 4) hx hb qd_M_versionBy_53 (by decide) ?_
            refine lv_iload hx hb qd_M_versionBy_54 (lv_at hl 4 rfl) ?_
            refine lv_imul hx hb qd_M_versionBy_56 ?_
            refine lv_iconst (v := 2) hx hb qd_M_versionBy_57 (by decide) ?_
            refine lv_iadd hx hb qd_M_versionBy_58 ?_
            refine mk_rw (y := nI ((4 * i) + 2)) (by show ((nI 4) * (nI i)) + (nI 2) = _; simp only [pk_mul, nI_add]) ?_
            refine va_iald (i := (nI ((4 * i) + 2))) hx hb hK hP 2 0 rfl rfl (vp_in_nI (by omega) (by omega)) qd_M_versionBy_59 ?_
            refine mk_rw (y := ve ((4 * i) + 2)) (congrArg _ (nI_clamp (by omega))) ?_
            refine lv_icmp_ge (tgt := 70) hx hb qd_M_versionBy_60 (by decide) (fun c_7 => ?_) (fun c_7 => ?_)
            · refine lv_iload hx hb qd_M_versionBy_70 (lv_at hl 5 rfl) ?_
              refine mk_rw (y := nI (mb_rank ve t k i (j + 1))) (mb_s0 (fun q => sh_nlt c_7 q.2)) ?_
              refine lv_istore (lv' := [(5, .int (nI (mb_rank ve t k i (j + 1)))), (0, .ref (b 0)), (1, .int t), (2, .int k), (3, .int (nI km)), (4, .int (nI i)), (6, .int (nI j))]) hx hb qd_M_versionBy_72 hl (by decide) rfl (fun ls hl => ?_)
              refine lv_iinc (v := nI (j + 1)) (lv' := [(6, .int (nI (j + 1))), (5, .int (nI (mb_rank ve t k i (j + 1)))), (0, .ref (b 0)), (1, .int t), (2, .int k), (3, .int (nI km)), (4, .int (nI i))]) hx hb qd_M_versionBy_74 hl (k := 6) rfl (mk_inc j) (by decide) rfl (fun ls hl => ?_)
              refine lv_goto (tgt := 18) hx hb qd_M_versionBy_77 (by decide) ?_
              exact ih_3 (j + 1) H locs ls ⟨by omega, hP, hS, lv_sub hl [2, 3, 4, 5, 6, 1, 0] rfl⟩
            · refine lv_iload hx hb qd_M_versionBy_63 (lv_at hl 5 rfl) ?_
              refine lv_iconst (v := 1) hx hb qd_M_versionBy_65 (by decide) ?_
              refine lv_iadd hx hb qd_M_versionBy_66 ?_
              refine lv_goto (tgt := 72) hx hb qd_M_versionBy_67 (by decide) ?_
              refine mk_rw (y := nI (mb_rank ve t k i (j + 1))) (mb_s1 ⟨c_6, sh_lt_of c_7⟩) ?_
              refine lv_istore (lv' := [(5, .int (nI (mb_rank ve t k i (j + 1)))), (0, .ref (b 0)), (1, .int t), (2, .int k), (3, .int (nI km)), (4, .int (nI i)), (6, .int (nI j))]) hx hb qd_M_versionBy_72 hl (by decide) rfl (fun ls hl => ?_)
              refine lv_iinc (v := nI (j + 1)) (lv' := [(6, .int (nI (j + 1))), (5, .int (nI (mb_rank ve t k i (j + 1)))), (0, .ref (b 0)), (1, .int t), (2, .int k), (3, .int (nI km)), (4, .int (nI i))]) hx hb qd_M_versionBy_74 hl (k := 6) rfl (mk_inc j) (by decide) rfl (fun ls hl => ?_)
              refine lv_goto (tgt := 18) hx hb qd_M_versionBy_77 (by decide) ?_
              exact ih_3 (j + 1) H locs ls ⟨by omega, hP, hS, lv_sub hl [2, 3, 4, 5, 6, 1, 0] rfl⟩
      · obtain ⟨j, rfl⟩ : ∃ z, z = y9 := ⟨_, rfl⟩
        obtain ⟨hinv, hP, hS, hl⟩ := hI
        have hinv : j + 0 = nv := hinv
        have hP : va_P (dC, dI) vwCl (wM b cA cB y ma ve rw jn ou fo go) H := hP
        have hl : lv_has ls 7 [(0, .ref (b 0)), (1, .int t), (2, .int k), (3, .int (nI km)), (4, .int (nI i)), (5, .int (nI (mb_rank ve t k i j))), (6, .int (nI j))] := hl
        have ej : j = nv := by omega
        refine lv_iload hx hb qd_M_versionBy_18 (lv_at hl 6 rfl) ?_
        refine lv_aload_n hx hb qd_M_versionBy_20 rfl (lv_at hl 0 rfl) ?_
        refine va_get (D := (dC, dI)) (ci := 1) (v := .int (y 10)) (C := qR_M) (T := qT_M) (N := 24) hx hb hts qin_M hown hK hP 0 rfl rfl 10 (by decide) (hts _ mw_412) (fun _ h9 => h9) rfl qd_M_versionBy_21 ?_
        refine mk_rw (y := nI nv) (hnv) ?_
        refine lv_icmp_ge (tgt := 80) hx hb qd_M_versionBy_24 (by decide) (fun c_8 => ?_) (fun c_8 => ?_)
        · refine lv_aload_n hx hb qd_M_versionBy_80 rfl (lv_at hl 0 rfl) ?_
          refine lv_iload hx hb qd_M_versionBy_81 (lv_at hl 4 rfl) ?_
          refine lv_iload_n hx hb qd_M_versionBy_83 rfl (lv_at hl 1 rfl) ?_
          refine lv_iload_n hx hb qd_M_versionBy_84 rfl (lv_at hl 2 rfl) ?_
          refine mk_calli (va_runV (As := [.int (nI i), .int t, .int k]) (rest := []) ⟨hx, hb, hml, hown, hts⟩ (c_M_isOf l dC dI cA H.size cB b y ma ve rw jn ou fo go i (by omega) t k) (cwV 3 hts gc_M_69 rfl rfl rfl (by decide +kernel) ⟨Nat.le_of_ble_eq_true rfl, Nat.le_of_ble_eq_true rfl⟩) (mk_roV hP [0, 1, 2, 3, 4, 5, 6, 7] rfl hK (va_recv hK hP (ci := 1) (q0 := 0) rfl rfl)) rfl rfl hl.1 rfl (lv_room (Nat.le_of_ble_eq_true rfl)) qd_M_versionBy_85 ⟨(Nat.zero_le _), (Nat.zero_le _)⟩) hS hA hP (fun r_9 H locs hr_9 hP hS => ?_)
          obtain rfl : r_9 = mo_b ve i t k := hr_9
          refine lv_if_eq (tgt := 100) hx hb qd_M_versionBy_88 (by decide) (fun c_10 => ?_) (fun c_10 => ?_)
          · refine lv_iinc (v := nI (i + 1)) (lv' := [(4, .int (nI (i + 1))), (0, .ref (b 0)), (1, .int t), (2, .int k), (3, .int (nI km)), (5, .int (nI (mb_rank ve t k i j))), (6, .int (nI j))]) hx hb qd_M_versionBy_100 hl (k := 4) rfl (mk_inc i) (by decide) rfl (fun ls hl => ?_)
            refine lv_goto (tgt := 3) hx hb qd_M_versionBy_103 (by decide) ?_
            exact ih_1 (i + 1) H locs ls ⟨⟨by omega, fun j hj => by rcases Nat.lt_or_ge j i with q | q; exact hinv0.2 j q; obtain rfl : i = j := (by omega); exact fun z1 z2 => z1 c_10⟩, hP, hS, lv_sub hl [1, 2, 3, 4, 0] rfl⟩
          · refine lv_iload hx hb qd_M_versionBy_91 (lv_at hl 5 rfl) ?_
            refine mk_rw (y := nI (mb_rank ve t k i nv)) (by rw [ej]) ?_
            refine lv_iload_n hx hb qd_M_versionBy_93 rfl (lv_at hl 3 rfl) ?_
            refine lv_icmp_ne (tgt := 100) hx hb qd_M_versionBy_94 (by decide) (fun c_11 => ?_) (fun c_11 => ?_)
            · refine lv_iinc (v := nI (i + 1)) (lv' := [(4, .int (nI (i + 1))), (0, .ref (b 0)), (1, .int t), (2, .int k), (3, .int (nI km)), (5, .int (nI (mb_rank ve t k i j))), (6, .int (nI j))]) hx hb qd_M_versionBy_100 hl (k := 4) rfl (mk_inc i) (by decide) rfl (fun ls hl => ?_)
              refine lv_goto (tgt := 3) hx hb qd_M_versionBy_103 (by decide) ?_
              exact ih_1 (i + 1) H locs ls ⟨⟨by omega, fun j hj => by rcases Nat.lt_or_ge j i with q | q; exact hinv0.2 j q; obtain rfl : i = j := (by omega); exact fun z1 z2 => c_11 (by rw [z2])⟩, hP, hS, lv_sub hl [1, 2, 3, 4, 0] rfl⟩
            · refine lv_iload hx hb qd_M_versionBy_97 (lv_at hl 4 rfl) ?_
              exact mk_iret hx hb hr hlocks hS qd_M_versionBy_99 (Or.inr ⟨i, hi9, rfl, c_10, (nI_eq (by have := mb_le ve t k i nv; omega) (by omega)).mp c_11⟩)
        · exact absurd (nI_le (by omega) (by omega)) c_8
  · obtain ⟨i, rfl⟩ : ∃ z, z = y9 := ⟨_, rfl⟩
    obtain ⟨hinv, hP, hS, hl⟩ := hI
    have hinv : i + 0 = nv ∧ ∀ j, j < i → ¬ mo_b ve j t k = 0 → ¬ mb_rank ve t k j nv = km := hinv
    have hP : va_P (dC, dI) vwCl (wM b cA cB y ma ve rw jn ou fo go) H := hP
    have hl : lv_has ls 7 [(0, .ref (b 0)), (1, .int t), (2, .int k), (3, .int (nI km)), (4, .int (nI i))] := hl
    refine lv_iload hx hb qd_M_versionBy_3 (lv_at hl 4 rfl) ?_
    refine lv_aload_n hx hb qd_M_versionBy_5 rfl (lv_at hl 0 rfl) ?_
    refine va_get (D := (dC, dI)) (ci := 1) (v := .int (y 10)) (C := qR_M) (T := qT_M) (N := 24) hx hb hts qin_M hown hK hP 0 rfl rfl 10 (by decide) (hts _ mw_412) (fun _ h9 => h9) rfl qd_M_versionBy_6 ?_
    refine mk_rw (y := nI nv) (hnv) ?_
    refine lv_icmp_ge (tgt := 106) hx hb qd_M_versionBy_9 (by decide) (fun c_12 => ?_) (fun c_12 => ?_)
    · refine lv_bipush (v := (-2)) hx hb qd_M_versionBy_106 (by decide) ?_
      exact mk_iret hx hb hr hlocks hS qd_M_versionBy_108 (Or.inl ⟨rfl, fun j hj => hinv.2 j (by omega)⟩)
    · exact absurd (nI_le (by omega) (by omega)) c_12
