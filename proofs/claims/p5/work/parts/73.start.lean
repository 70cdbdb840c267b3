set_option maxHeartbeats 4000000 in
set_option maxRecDepth 100000 in
/-- the law, from its entry -/
theorem whole_start {p : Program} {e : Env} {s : State} {m : MethodId} {below : List Frame} {meth : Method} {c : Code} (l : Launch) {b0 L : Nat} {xs : Nat → Int32} (hL : L ≤ 2560) (C0 : lw_At p s m meth c b0 L xs) : W p l e room_1 s m #[Value.ref b0] below meth c s.heap [] 0 0 (lw_Z below #[Value.ref b0] s) (entryFrame m ([Value.ref b0] : List Value).toArray 4) := by
  obtain ⟨hx, hb, hr, hml, hown, hts0, hX, hbl, hlocks, hgv⟩ := id C0
  have hts := fun w (h : w ∈ lw_gd) => hts0 w (List.mem_filter.mp h).1
  obtain ⟨A, hAe⟩ : ∃ A : Nat → Prop, A = fun q => s.heap.size ≤ q := ⟨_, rfl⟩
  have hA : ∀ q : Nat, s.heap.size ≤ q → A q := fun q h => by rw [hAe]; exact h
  obtain ⟨c0, i0, hK0⟩ := u_known (C := qR_X) (T := qT_X) (N := 13) (n := 13) hts qin_X (hts _ mw_44)
  obtain ⟨c1, i1, hK1⟩ := u_known (C := qR_M) (T := qT_M) (N := 24) (n := 24) hts qin_M (hts _ mw_397)
  obtain ⟨c2, i2, hK2⟩ := u_known (C := qR_O) (T := qT_O) (N := 3) (n := 3) hts qin_O (hts _ mw_97)
  obtain ⟨c3, i3, hK3⟩ := u_known (C := qR_R) (T := qT_R) (N := 1) (n := 1) hts qin_R (hts _ mw_85)
  obtain ⟨c4, i4, hK4⟩ := u_known (C := qR_S) (T := qT_S) (N := 4) (n := 4) hts qin_S (hts _ mw_58)
  obtain ⟨c5, i5, hK5⟩ := u_known (C := qR_V) (T := qT_V) (N := 1) (n := 1) hts qin_V (hts _ mw_52)
  obtain ⟨dC, dI, hKc⟩ : ∃ (dC : Nat → ClassId) (dI : Nat → Nat → Nat), ∀ (k : Nat) (q : vw_C), vwCl[k]? = some q → u_Kn s q.1 q.2.1 q.2.2 (dC k) (dI k) := by
    refine ⟨fun k => if k = 0 then c0 else if k = 1 then c1 else if k = 2 then c2 else if k = 3 then c3 else if k = 4 then c4 else c5, fun k => if k = 0 then i0 else if k = 1 then i1 else if k = 2 then i2 else if k = 3 then i3 else if k = 4 then i4 else i5, ?_⟩
    intro k q hq
    match k, hq with
    | 0, hq => cases hq; exact hK0
    | 1, hq => cases hq; exact hK1
    | 2, hq => cases hq; exact hK2
    | 3, hq => cases hq; exact hK3
    | 4, hq => cases hq; exact hK4
    | 5, hq => cases hq; exact hK5
    | k + 6, hq => simp [vwCl] at hq
  have hK : va_K (dC, dI) vwCl [] s := ⟨hKc, fun k q h => by simp at h⟩
  obtain ⟨cA, hKX⟩ := mk_cA_of (hts _ mw_79) hK
  obtain ⟨cB, hK⟩ := mk_cB_of (hts _ mw_475) hKX
  have hP : va_P (dC, dI) vwCl [] s.heap := fun k q h => by simp at h
  have hD : va_D A [] := ⟨fun i j p q h => by simp at h, fun k q h => by simp at h⟩
  have hn1 : va_Nw (Cond.methodLinkNest "AsOfJoins" 18 ⟨"AsOfJoins$Versions", "<init>", "()V"⟩ "AsOfJoins") s := va_Nw.of rfl (hts0 _ (by decide +kernel))
  have hn2 : va_Nw (Cond.methodLinkNest "AsOfJoins" 25 ⟨"AsOfJoins$Rows", "<init>", "()V"⟩ "AsOfJoins") s := va_Nw.of rfl (hts0 _ (by decide +kernel))
  have hn3 : va_Nw (Cond.methodLinkNest "AsOfJoins" 32 ⟨"AsOfJoins$Outs", "<init>", "()V"⟩ "AsOfJoins") s := va_Nw.of rfl (hts0 _ (by decide +kernel))
  have hZ8 : ∀ U : State, s.WarmedH U.vm → ∀ w ∈ [Cond.methodLinkNest "AsOfJoins" 18 ⟨"AsOfJoins$Versions", "<init>", "()V"⟩ "AsOfJoins", Cond.methodLinkNest "AsOfJoins" 25 ⟨"AsOfJoins$Rows", "<init>", "()V"⟩ "AsOfJoins", Cond.methodLinkNest "AsOfJoins" 32 ⟨"AsOfJoins$Outs", "<init>", "()V"⟩ "AsOfJoins"], va_Nw w U := fun U hW w hw => by rcases List.mem_cons.mp hw with e | hw; (rw [e]; exact va_Nw.warmM hW hn1); rcases List.mem_cons.mp hw with e | hw; (rw [e]; exact va_Nw.warmM hW hn2); rcases List.mem_cons.mp hw with e | hw; (rw [e]; exact va_Nw.warmM hW hn3); cases hw
  have hl := lv_entry ([.ref b0]) (n := 4) (Nat.le_of_ble_eq_true rfl)
  rw [lg_entry_eq]
  generalize (lg_sl ([.ref b0]) ++ List.replicate (4 - (lg_sl ([.ref b0])).length) Slot.unset).toArray = ls at hl ⊢
  have hl : lv_has ls 4 [(0, .ref b0)] := hl
  refine mk_start (A := A) hP (fun H locs hP hS => ?_)
  refine va_new (ci := 0) (fs := [.null, .null, .null, .null, .null, .null, .int 0, .int 0, .int 0, .int 0, .int 0, .int 0, .int 0]) (C := qR_X) (T := qT_X) (N := 13) hx hb hts qin_X qty_X qtyok_X hown (hts _ mw_43) (hts _ mw_44) (hts _ mw_35) hK hP hD hS hA rfl (fun j hj => by rcases (show j = 0 ∨ j = 1 ∨ j = 2 ∨ j = 3 ∨ j = 4 ∨ j = 5 ∨ j = 6 ∨ j = 7 ∨ j = 8 ∨ j = 9 ∨ j = 10 ∨ j = 11 ∨ j = 12 by omega) with rfl | rfl | rfl | rfl | rfl | rfl | rfl | rfl | rfl | rfl | rfl | rfl | rfl <;> rfl) (by exact Nat.le_of_ble_eq_true rfl) (by exact Nat.le_of_ble_eq_true rfl) qd_L_law_0 (fun h0 H hP hD hS => ?_)
  have hP : va_P (dC, dI) vwCl ([(h0, .inr (0, [.null, .null, .null, .null, .null, .null, .int 0, .int 0, .int 0, .int 0, .int 0, .int 0, .int 0]))]) H := hP
  have hD : va_D A ([(h0, .inr (0, [.null, .null, .null, .null, .null, .null, .int 0, .int 0, .int 0, .int 0, .int 0, .int 0, .int 0]))]) := hD
  refine W.widen (k := 1) (n := 13) (by exact Nat.le_of_ble_eq_true rfl) (by exact Nat.le_of_ble_eq_true rfl) ?_
  refine lv_dup hx hb qd_L_law_3 rfl ?_
  refine mk_mcallv (wr := []) (wf := fun u => wX u cA (fun _ => 0) (fun _ => 0) (fun _ => 0) (fun _ => 0) 0 0 0 (fun _ => 0) 0 (fun _ => 0) 0 (fun _ => 0)) (va_runI (As := []) (rest := [.ref h0]) ⟨hx, hb, hml, hown, hts⟩ (c_X_init l dC dI cA H.size h0) (cwI 0 hts (lw_g1 mw_47) rfl rfl rfl (hts _ mw_35) (hts _ mw_45) (hts _ mw_46) rfl (by decide +kernel) ⟨Nat.le_of_ble_eq_true rfl, Nat.le_of_ble_eq_true rfl⟩) (mk_muNI (by decide) hP hD [0] (by decide) rfl hKX hZ8) rfl rfl hl.1 rfl (lv_room (Nat.le_of_ble_eq_true rfl)) qd_L_law_4 ⟨(by exact Nat.le_of_ble_eq_true rfl), (by exact Nat.le_of_ble_eq_true rfl)⟩) hS hA hP hD [0] [] [0, 1, 2, 3, 4, 5, 6, 7, 8, 9, 10, 11, 12] rfl rfl (by decide) (by decide) (by decide) (fun _ => rfl) (fun u H locs hu hP hD hS => ?_)
  obtain ⟨a, rfl⟩ : ∃ z, z = u := ⟨_, rfl⟩
  have hau : a 0 = h0 := hu
  have hP : va_P (dC, dI) vwCl (wX a cA (fun _ => 0) (fun _ => 0) (fun _ => 0) (fun _ => 0) 0 0 0 (fun _ => 0) 0 (fun _ => 0) 0 (fun _ => 0)) H := hP
  have hD : va_D A (wX a cA (fun _ => 0) (fun _ => 0) (fun _ => 0) (fun _ => 0) 0 0 0 (fun _ => 0) 0 (fun _ => 0) 0 (fun _ => 0)) := hD
  refine W.widen (k := 13) (n := 3787) (by exact Nat.le_of_ble_eq_true rfl) (by exact Nat.le_of_ble_eq_true rfl) ?_
  refine lv_astore_n (lv' := [(1, .ref h0), (0, .ref b0)]) hx hb qd_L_law_7 rfl hl (by decide) rfl (fun ls hl => ?_)
  refine va_new (ci := 1) (fs := [.int 0, .int 0, .int 0, .int 0, .int 0, .int 0, .int 0, .null, .int 0, .null, .int 0, .null, .null, .int 0, .int 0, .int 0, .int 0, .int 0, .int 0, .int 0, .null, .int 0, .null, .null]) (C := qR_M) (T := qT_M) (N := 24) hx hb hts qin_M qty_M qtyok_M hown (hts _ mw_396) (hts _ mw_397) (hts _ mw_41) hK hP hD hS hA rfl (fun j hj => by rcases (show j = 0 ∨ j = 1 ∨ j = 2 ∨ j = 3 ∨ j = 4 ∨ j = 5 ∨ j = 6 ∨ j = 7 ∨ j = 8 ∨ j = 9 ∨ j = 10 ∨ j = 11 ∨ j = 12 ∨ j = 13 ∨ j = 14 ∨ j = 15 ∨ j = 16 ∨ j = 17 ∨ j = 18 ∨ j = 19 ∨ j = 20 ∨ j = 21 ∨ j = 22 ∨ j = 23 by omega) with rfl | rfl | rfl | rfl | rfl | rfl | rfl | rfl | rfl | rfl | rfl | rfl | rfl | rfl | rfl | rfl | rfl | rfl | rfl | rfl | rfl | rfl | rfl | rfl <;> rfl) (by exact Nat.le_of_ble_eq_true rfl) (by exact Nat.le_of_ble_eq_true rfl) qd_L_law_8 (fun g0 H hP hD hS => ?_)
  have hP : va_P (dC, dI) vwCl (wX a cA (fun _ => 0) (fun _ => 0) (fun _ => 0) (fun _ => 0) 0 0 0 (fun _ => 0) 0 (fun _ => 0) 0 (fun _ => 0) ++ [(g0, .inr (1, [.int 0, .int 0, .int 0, .int 0, .int 0, .int 0, .int 0, .null, .int 0, .null, .int 0, .null, .null, .int 0, .int 0, .int 0, .int 0, .int 0, .int 0, .int 0, .null, .int 0, .null, .null]))]) H := hP
  have hD : va_D A (wX a cA (fun _ => 0) (fun _ => 0) (fun _ => 0) (fun _ => 0) 0 0 0 (fun _ => 0) 0 (fun _ => 0) 0 (fun _ => 0) ++ [(g0, .inr (1, [.int 0, .int 0, .int 0, .int 0, .int 0, .int 0, .int 0, .null, .int 0, .null, .int 0, .null, .null, .int 0, .int 0, .int 0, .int 0, .int 0, .int 0, .int 0, .null, .int 0, .null, .null]))]) := hD
  refine W.widen (k := 14) (n := 3811) (by exact Nat.le_of_ble_eq_true rfl) (by exact Nat.le_of_ble_eq_true rfl) ?_
  refine lv_dup hx hb qd_L_law_11 rfl ?_
  refine mk_mcallv (wr := (wX a cA (fun _ => 0) (fun _ => 0) (fun _ => 0) (fun _ => 0) 0 0 0 (fun _ => 0) 0 (fun _ => 0) 0 (fun _ => 0))) (wf := fun u => wX a cA (fun _ => 0) (fun _ => 0) (fun _ => 0) (fun _ => 0) 0 0 0 (fun _ => 0) 0 (fun _ => 0) 0 (fun _ => 0) ++ wM u cA cB (fun _ => 0) (fun _ => 0) (fun _ => 0) (fun _ => 0) (fun _ => 0) (fun _ => 0) (fun _ => 0) (fun _ => 0)) (va_runI (As := []) (rest := [.ref g0]) ⟨hx, hb, hml, hown, hts⟩ (c_M_init l dC dI cA H.size cB g0) (cwI 0 hts (lw_g1 mw_400) rfl rfl rfl (hts _ mw_41) (hts _ mw_398) (hts _ mw_399) rfl (by decide +kernel) ⟨Nat.le_of_ble_eq_true rfl, Nat.le_of_ble_eq_true rfl⟩) (mk_muI hP hD [13] (by decide) rfl hK) rfl rfl hl.1 rfl (lv_room (Nat.le_of_ble_eq_true rfl)) qd_L_law_12 ⟨(by exact Nat.le_of_ble_eq_true rfl), (by exact Nat.le_of_ble_eq_true rfl)⟩) hS hA hP hD [13] [0, 1, 2, 3, 4, 5, 6, 7, 8, 9, 10, 11, 12] [0, 1, 2, 3, 4, 5, 6, 7, 8, 9, 10, 11, 12, 13, 14, 15, 16, 17, 18, 19, 20] rfl rfl (by decide) (by decide) (by decide) (fun _ => rfl) (fun u H locs hu hP hD hS => ?_)
  obtain ⟨b, rfl⟩ : ∃ z, z = u := ⟨_, rfl⟩
  have hbu : b 0 = g0 := hu
  have hP : va_P (dC, dI) vwCl (wX a cA (fun _ => 0) (fun _ => 0) (fun _ => 0) (fun _ => 0) 0 0 0 (fun _ => 0) 0 (fun _ => 0) 0 (fun _ => 0) ++ wM b cA cB (fun _ => 0) (fun _ => 0) (fun _ => 0) (fun _ => 0) (fun _ => 0) (fun _ => 0) (fun _ => 0) (fun _ => 0)) H := hP
  have hD : va_D A (wX a cA (fun _ => 0) (fun _ => 0) (fun _ => 0) (fun _ => 0) 0 0 0 (fun _ => 0) 0 (fun _ => 0) 0 (fun _ => 0) ++ wM b cA cB (fun _ => 0) (fun _ => 0) (fun _ => 0) (fun _ => 0) (fun _ => 0) (fun _ => 0) (fun _ => 0) (fun _ => 0)) := hD
  refine W.widen (k := 21) (n := 7972) (by exact Nat.le_of_ble_eq_true rfl) (by exact Nat.le_of_ble_eq_true rfl) ?_
  refine lv_astore_n (lv' := [(2, .ref g0), (1, .ref h0), (0, .ref b0)]) hx hb qd_L_law_15 rfl hl (by decide) rfl (fun ls hl => ?_)
  refine lv_iconst (v := 0) hx hb qd_L_law_16 (by decide) ?_
  refine lv_istore_n (lv' := [(3, .int 0), (2, .ref g0), (1, .ref h0), (0, .ref b0)]) hx hb qd_L_law_17 rfl hl (by decide) rfl (fun ls hl => ?_)
  rw [hAe] at hD hS
  exact law_loop l (k9 := 21) (n9 := 7972) (Nat.le_of_ble_eq_true rfl) (Nat.le_of_ble_eq_true rfl) hL C0 cA cB hK a b (fun _ => 0) (fun _ => 0) (fun _ => 0) (fun _ => 0) 0 0 [] (fun _ => 0) [] (fun _ => 0) [] (fun _ => 0) 0 (fun _ => 0) (fun _ => 0) (fun _ => 0) (fun _ => 0) (fun _ => 0) (fun _ => 0) (fun _ => 0) (fun _ => 0) sr_0 xi_ok0 mi_ok0 sq_0 H locs hP hD hS ls (by rw [hau, hbu]; exact lv_sub hl [3, 2, 1, 0] rfl)
