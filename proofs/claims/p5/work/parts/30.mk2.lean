section MK5
variable {s : State} {H : Heap} {D : va_G} {cl : List vw_C} {ws wc : va_W} {tys : List (ClassId × FieldType)} {A0 : Nat → Prop}
/-- the same with words of nest mates, which are given with the start -/
def mk_muN (N : List Cond) (av : List Value) (sz : Nat) (D : va_G) (cl : List vw_C) (tys : List (ClassId × FieldType)) (ws : va_W) : Array Value → State → Prop := va_Pc av (fun U => U.heap.size = sz ∧ va_P D cl ws U.heap ∧ va_K D cl tys U ∧ va_D (fun _ => True) ws ∧ ∀ w ∈ N, va_Nw w U)
def mk_roN (N : List Cond) (av : List Value) (sz : Nat) (D : va_G) (cl : List vw_C) (tys : List (ClassId × FieldType)) (ws : va_W) : Array Value → State → Prop := va_Pc av (fun U => U.heap.size = sz ∧ va_P D cl ws U.heap ∧ va_K D cl tys U ∧ ∀ w ∈ N, va_Nw w U)
theorem mk_muN_blind {N : List Cond} {av : List Value} {sz : Nat} (hN : ∀ w ∈ N, w.onTables = true) : FrameBlind (mk_muN N av sz D cl tys ws) := fun a U g mk q => by
  obtain ⟨q0, q1, qP, qK, qD, qN⟩ := q
  exact ⟨q0, q1, qP, va_K.moved (u := U) (U := U.calling g mk a) (Vm.Alike.refl U.vm) qK, qD, fun w hw => va_Nw.same (u := U) (hN w hw) rfl (qN w hw)⟩
theorem mk_roN_blind {N : List Cond} {av : List Value} {sz : Nat} (hN : ∀ w ∈ N, w.onTables = true) : FrameBlind (mk_roN N av sz D cl tys ws) := fun a U g mk q => by
  obtain ⟨q0, q1, qP, qK, qN⟩ := q
  exact ⟨q0, q1, qP, va_K.moved (u := U) (U := U.calling g mk a) (Vm.Alike.refl U.vm) qK, fun w hw => va_Nw.same (u := U) (hN w hw) rfl (qN w hw)⟩
theorem mk_muNI {N : List Cond} {As : List Value} (hN : ∀ w ∈ N, w.onTables = true) (hP : va_P D cl ws H) (hD : va_D A0 ws) (is : List Nat) (hn : va_nd is = true) (hs : is.map (fun i => ws[i]?) = wc.map some) (hK : va_K D cl tys s) (hZ : ∀ U : State, s.WarmedH U.vm → ∀ w ∈ N, va_Nw w U) : PreS s H (mk_muN N As H.size D cl tys wc) As :=
  ⟨mk_muN_blind hN, fun U hU hW => ⟨rfl, by rw [hU], by rw [hU]; exact mk_Psub hP is hs, va_K.moved hW.alike hK, (hD.sub is hn hs).weaken (fun _ _ _ _ => trivial), hZ U hW⟩⟩
theorem mk_roNV {N : List Cond} {C : String} {b : Addr} {As : List Value} (hN : ∀ w ∈ N, w.onTables = true) (hP : va_P D cl ws H) (is : List Nat) (hs : is.map (fun i => ws[i]?) = wc.map some) (hK : va_K D cl tys s) (hZ : ∀ U : State, s.WarmedH U.vm → ∀ w ∈ N, va_Nw w U) (hrecv : ∃ cell : Cell, H[b]? = some cell ∧ cell.vm.isStatics = false ∧ s.vm.findClass C = some cell.cls) : PreV s H C b (mk_roN N (.ref b :: As) H.size D cl tys wc) As :=
  ⟨mk_roN_blind hN, hrecv, fun U hU hW => ⟨rfl, by rw [hU], by rw [hU]; exact mk_Psub hP is hs, va_K.moved hW.alike hK, hZ U hW⟩⟩
end MK5
