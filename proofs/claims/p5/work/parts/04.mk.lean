/-! our own rows over the kit: read-only contracts, writing contracts, their calls and ends -/
section MK
variable {p : Program} {l : Launch} {e : Env} {R : Room} {s : State} {m : MethodId} {args : Array Value} {below : List Frame} {meth : Method} {c : Code} {H : Heap} {locs : List Loc} {cells slots : Nat} {Q : State → Prop}
variable {pc : Nat} {ls : Array Slot} {rest st0 : List Value} {a : Array Value} {A A0 : Nat → Prop} {H0 : Heap} {D : va_G} {cl : List vw_C} {ws wc wr : va_W} {tys : List (ClassId × FieldType)} {cc : ByteArray}
/-- the cells that are new -/
def mk_new (sz : Nat) : Nat → Prop := fun q => sz ≤ q
/-- a start that only reads its world -/
def mk_ro (av : List Value) (sz : Nat) (D : va_G) (cl : List vw_C) (tys : List (ClassId × FieldType)) (ws : va_W) : Array Value → State → Prop := va_Pc av (fun U => U.heap.size = sz ∧ va_P D cl ws U.heap ∧ va_K D cl tys U)
/-- its end: the answer alone -/
def mk_roQ (post : Int32 → Prop) (sz : Nat) : Array Value → State → Outcome → State → Prop := va_Qi (fun r (_ : Unit) => post r) (fun _ _ => True) (mk_new sz)
/-- a start that may write its world -/
def mk_mu (av : List Value) (sz : Nat) (D : va_G) (cl : List vw_C) (tys : List (ClassId × FieldType)) (ws : va_W) : Array Value → State → Prop := va_Pc av (fun U => U.heap.size = sz ∧ va_P D cl ws U.heap ∧ va_K D cl tys U ∧ va_D (fun _ => True) ws)
def mk_B {S : Type} (wo : S → va_W) (D : va_G) (cl : List vw_C) (tys : List (ClassId × FieldType)) (A : Nat → Prop) : S → State → Prop := fun u t => va_P D cl (wo u) t.heap ∧ va_K D cl tys t ∧ va_D A (wo u)
def mk_muQ {S : Type} (post : Int32 → S → Prop) (wo : S → va_W) (D : va_G) (cl : List vw_C) (tys : List (ClassId × FieldType)) (A : Nat → Prop) : Array Value → State → Outcome → State → Prop := va_Qi post (mk_B wo D cl tys A) A
def mk_muV {S : Type} (post : S → Prop) (wo : S → va_W) (D : va_G) (cl : List vw_C) (tys : List (ClassId × FieldType)) (A : Nat → Prop) : Array Value → State → Outcome → State → Prop := va_Qv post (mk_B wo D cl tys A) A
theorem mk_ro_blind {av : List Value} {sz : Nat} : FrameBlind (mk_ro av sz D cl tys ws) := fun a U g mk q => by
  obtain ⟨q0, q1, qP, qK⟩ := q
  exact ⟨q0, q1, qP, va_K.moved (u := U) (U := U.calling g mk a) (Vm.Alike.refl U.vm) qK⟩
theorem mk_mu_blind {av : List Value} {sz : Nat} : FrameBlind (mk_mu av sz D cl tys ws) := fun a U g mk q => by
  obtain ⟨q0, q1, qP, qK, qD⟩ := q
  exact ⟨q0, q1, qP, va_K.moved (u := U) (U := U.calling g mk a) (Vm.Alike.refl U.vm) qK, qD⟩
theorem mk_Psub {ws' : va_W} (h : va_P D cl ws H) (is : List Nat) (hs : is.map (fun i => ws[i]?) = ws'.map some) : va_P D cl ws' H := by
  intro k q hk
  have h1 : (is.map (fun i => ws[i]?))[k]? = some (some q) := by rw [hs, List.getElem?_map, hk]; rfl
  rw [List.getElem?_map] at h1
  cases hi : is[k]? with
  | none => rw [hi] at h1; cases h1
  | some i => rw [hi] at h1; exact h i q (Option.some.inj h1)
theorem mk_roV {C : String} {b : Addr} {As : List Value} (hP : va_P D cl ws H) (is : List Nat) (hs : is.map (fun i => ws[i]?) = wc.map some) (hK : va_K D cl tys s) (hrecv : ∃ cell : Cell, H[b]? = some cell ∧ cell.vm.isStatics = false ∧ s.vm.findClass C = some cell.cls) : PreV s H C b (mk_ro (.ref b :: As) H.size D cl tys wc) As :=
  ⟨mk_ro_blind, hrecv, fun U hU hW => ⟨rfl, by rw [hU], by rw [hU]; exact mk_Psub hP is hs, va_K.moved hW.alike hK⟩⟩
theorem mk_roS {As : List Value} (hP : va_P D cl ws H) (is : List Nat) (hs : is.map (fun i => ws[i]?) = wc.map some) (hK : va_K D cl tys s) : PreS s H (mk_ro As H.size D cl tys wc) As :=
  ⟨mk_ro_blind, fun U hU hW => ⟨rfl, by rw [hU], by rw [hU]; exact mk_Psub hP is hs, va_K.moved hW.alike hK⟩⟩
theorem mk_muP {C : String} {b : Addr} {As : List Value} (hP : va_P D cl ws H) (hD : va_D A0 ws) (is : List Nat) (hn : va_nd is = true) (hs : is.map (fun i => ws[i]?) = wc.map some) (hK : va_K D cl tys s) (hrecv : ∃ cell : Cell, H[b]? = some cell ∧ cell.vm.isStatics = false ∧ s.vm.findClass C = some cell.cls) : PreV s H C b (mk_mu (.ref b :: As) H.size D cl tys wc) As :=
  ⟨mk_mu_blind, hrecv, fun U hU hW => ⟨rfl, by rw [hU], by rw [hU]; exact mk_Psub hP is hs, va_K.moved hW.alike hK, (hD.sub is hn hs).weaken (fun _ _ _ _ => trivial)⟩⟩
theorem mk_muI {As : List Value} (hP : va_P D cl ws H) (hD : va_D A0 ws) (is : List Nat) (hn : va_nd is = true) (hs : is.map (fun i => ws[i]?) = wc.map some) (hK : va_K D cl tys s) : PreS s H (mk_mu As H.size D cl tys wc) As :=
  ⟨mk_mu_blind, fun U hU hW => ⟨rfl, by rw [hU], by rw [hU]; exact mk_Psub hP is hs, va_K.moved hW.alike hK, (hD.sub is hn hs).weaken (fun _ _ _ _ => trivial)⟩⟩
/-- behind a call that only reads: the whole world stays -/
theorem mk_calli {post : Int32 → Prop} (hr : va_Run p l e R s m args below meth c H locs cells slots 0 0 (F0 m pc ls st0) rest (mk_roQ post H.size a) (mk_new H.size)) (hS : va_S A0 H0 H locs) (hA : ∀ q, H0.size ≤ q → A0 q) (hP : va_P D cl ws H)
    (kk : ∀ (r : Int32) (H1 : Heap) (locs1 : List Loc), post r → va_P D cl ws H1 → va_S A0 H0 H1 locs1 → W p l e R s m args below meth c H1 locs1 cells slots Q (F0 m (pc + 3) ls (.int r :: rest))) : W p l e R s m args below meth c H locs cells slots Q (F0 m pc ls st0) :=
  va_calli (A1 := mk_new H.size) (free := mk_new H.size) hr hS (fun q _ h => hA q (Nat.le_trans hS.1 h)) (fun q h => hA q (Nat.le_trans hS.1 h)) (fun r u t H1 locs1 ht hvm hpost hB hz hk hS1 => kk r H1 locs1 hpost (hP.kept (fun k q hq => hk q.1 (hP k q hq).lt (Nat.not_le.mpr (hP k q hq).lt))) hS1)
/-- behind a call that writes a part of the world: that part comes back as 'wo u', the rest stays; the order is mended by isF -/
theorem mk_mcalli {S : Type} {post : Int32 → S → Prop} {wo wf : S → va_W} {mc ms : Nat} (hr : va_Run p l e R s m args below meth c H locs cells slots mc ms (F0 m pc ls st0) rest (mk_muQ post wo D cl tys (va_A wc H.size) a) (va_A wc H.size)) (hS : va_S A0 H0 H locs) (hA : ∀ q, H0.size ≤ q → A0 q) (hP : va_P D cl ws H) (hD : va_D A0 ws)
    (isC isR isF : List Nat) (hC : isC.map (fun i => ws[i]?) = wc.map some) (hR : isR.map (fun i => ws[i]?) = wr.map some) (hn : va_nd isR = true) (hdis : ∀ i ∈ isR, i ∉ isC) (hnF : va_nd isF = true) (hF : ∀ u, isF.map (fun i => (wr ++ wo u)[i]?) = (wf u).map some)
    (kk : ∀ (r : Int32) (u : S) (H1 : Heap) (locs1 : List Loc), post r u → va_P D cl (wf u) H1 → va_D A0 (wf u) → va_S A0 H0 H1 locs1 → W p l e R s m args below meth c H1 locs1 (cells + mc) (slots + ms) Q (F0 m (pc + 3) ls (.int r :: rest))) : W p l e R s m args below meth c H locs cells slots Q (F0 m pc ls st0) := by
  have hFc := va_free (wc := wc) hD hS hA isC hC
  refine va_calli (A1 := va_A wc H.size) (free := va_A wc H.size) hr hS (fun q _ h => hFc q h) hFc (fun r u t H1 locs1 ht hvm hw hB hz hk hS1 => ?_)
  obtain ⟨hP1, hK1, hD1⟩ := hB
  rw [ht] at hP1
  obtain ⟨hP2, hD2⟩ := va_join (wr := wr) (w1 := wo u) hP hD isC isR hC hR hn hdis hk hFc hP1 hD1
  exact kk r u H1 locs1 hw (mk_Psub hP2 isF (hF u)) (hD2.sub isF hnF (hF u)) hS1
theorem mk_mcallv {S : Type} {post : S → Prop} {wo wf : S → va_W} {mc ms : Nat} (hr : va_Run p l e R s m args below meth c H locs cells slots mc ms (F0 m pc ls st0) rest (mk_muV post wo D cl tys (va_A wc H.size) a) (va_A wc H.size)) (hS : va_S A0 H0 H locs) (hA : ∀ q, H0.size ≤ q → A0 q) (hP : va_P D cl ws H) (hD : va_D A0 ws)
    (isC isR isF : List Nat) (hC : isC.map (fun i => ws[i]?) = wc.map some) (hR : isR.map (fun i => ws[i]?) = wr.map some) (hn : va_nd isR = true) (hdis : ∀ i ∈ isR, i ∉ isC) (hnF : va_nd isF = true) (hF : ∀ u, isF.map (fun i => (wr ++ wo u)[i]?) = (wf u).map some)
    (kk : ∀ (u : S) (H1 : Heap) (locs1 : List Loc), post u → va_P D cl (wf u) H1 → va_D A0 (wf u) → va_S A0 H0 H1 locs1 → W p l e R s m args below meth c H1 locs1 (cells + mc) (slots + ms) Q (F0 m (pc + 3) ls rest)) : W p l e R s m args below meth c H locs cells slots Q (F0 m pc ls st0) := by
  have hFc := va_free (wc := wc) hD hS hA isC hC
  refine va_callv (A1 := va_A wc H.size) (free := va_A wc H.size) hr hS (fun q _ h => hFc q h) hFc (fun u t H1 locs1 ht hvm hw hB hz hk hS1 => ?_)
  obtain ⟨hP1, hK1, hD1⟩ := hB
  rw [ht] at hP1
  obtain ⟨hP2, hD2⟩ := va_join (wr := wr) (w1 := wo u) hP hD isC isR hC hR hn hdis hk hFc hP1 hD1
  exact kk u H1 locs1 hw (mk_Psub hP2 isF (hF u)) (hD2.sub isF hnF (hF u)) hS1
theorem mk_rw {x y : Int32} (h : x = y) (k : W p l e R s m args below meth c H locs cells slots Q (F0 m pc ls (.int y :: rest))) : W p l e R s m args below meth c H locs cells slots Q (F0 m pc ls (.int x :: rest)) := h ▸ k
theorem mk_rw3 {x y : Int32} {v1 v2 : Value} (h : x = y) (k : W p l e R s m args below meth c H locs cells slots Q (F0 m pc ls (v1 :: v2 :: .int y :: rest))) : W p l e R s m args below meth c H locs cells slots Q (F0 m pc ls (v1 :: v2 :: .int x :: rest)) := h ▸ k
theorem mk_rw2 {x y : Int32} {v1 : Value} (h : x = y) (k : W p l e R s m args below meth c H locs cells slots Q (F0 m pc ls (v1 :: .int y :: rest))) : W p l e R s m args below meth c H locs cells slots Q (F0 m pc ls (v1 :: .int x :: rest)) := h ▸ k
/-- a place where roads meet: the top of the stack is all that differs -/
theorem mk_meet (P : Int32 → Prop) (mk : Int32 → JFrame) (J : ∀ v, P v → W p l e R s m args below meth c H locs cells slots Q (mk v)) {g : JFrame} (k : (∀ v, P v → W p l e R s m args below meth c H locs cells slots Q (mk v)) → W p l e R s m args below meth c H locs cells slots Q g) : W p l e R s m args below meth c H locs cells slots Q g := k J
/-- the same where the heap may have moved (its world hasn't) -/
theorem mk_meetH (P : Int32 → Prop) (mk : Int32 → JFrame) (J : ∀ v H1 locs1, P v → va_P D cl ws H1 → va_S A0 H0 H1 locs1 → W p l e R s m args below meth c H1 locs1 cells slots Q (mk v)) {g : JFrame} (k : (∀ v H1 locs1, P v → va_P D cl ws H1 → va_S A0 H0 H1 locs1 → W p l e R s m args below meth c H1 locs1 cells slots Q (mk v)) → W p l e R s m args below meth c H locs cells slots Q g) : W p l e R s m args below meth c H locs cells slots Q g := k J
theorem mk_iret {post : Int32 → Prop} {v : Int32} (hx : p.tables.exec = Jvm.exec) (hb : c.code = cc) (hr : meth.sig.returnType = some .int) (hlocks : meth.locks = false) (hS : va_S (mk_new s.heap.size) s.heap H locs) (hdg : decode cc pc = .ok (.ireturn, 1)) (hp : post v) :
    W p l e R s m args below meth c H locs cells slots (MQ below (mk_roQ post s.heap.size) args s cells slots (mk_new s.heap.size)) (F0 m pc ls [.int v]) :=
  W.iret (v := v) hx hb hr (fun t ht hW => ⟨⟨v, (), rfl, hp, trivial⟩, hS.F ht⟩) hS.2.2 hdg hlocks
theorem mk_zret {post : Int32 → Prop} {v : Int32} (hx : p.tables.exec = Jvm.exec) (hb : c.code = cc) (hr : meth.sig.returnType = some .boolean) (hlocks : meth.locks = false) (hS : va_S (mk_new s.heap.size) s.heap H locs) (hdg : decode cc pc = .ok (.ireturn, 1)) (hn : v = 0 ∨ v = 1) (hp : post v) :
    W p l e R s m args below meth c H locs cells slots (MQ below (mk_roQ post s.heap.size) args s cells slots (mk_new s.heap.size)) (F0 m pc ls [.int v]) :=
  W.zret (v := v) (ty := .boolean) hx hb hr (by rcases hn with rfl | rfl <;> rfl) (fun t ht hW => ⟨⟨v, (), rfl, hp, trivial⟩, hS.F ht⟩) hS.2.2 hdg hlocks
theorem mk_miret {S : Type} {post : Int32 → S → Prop} {wo : S → va_W} (u : S) {v : Int32} (hx : p.tables.exec = Jvm.exec) (hb : c.code = cc) (hr : meth.sig.returnType = some .int) (hlocks : meth.locks = false) (hP : va_P D cl (wo u) H) (hK : va_K D cl tys s) (hD : va_D A (wo u)) (hS : va_S A s.heap H locs) (hdg : decode cc pc = .ok (.ireturn, 1)) (hp : post v u) :
    W p l e R s m args below meth c H locs cells slots (MQ below (mk_muQ post wo D cl tys A) args s cells slots A) (F0 m pc ls [.int v]) :=
  W.iret (v := v) hx hb hr (fun t ht hW => ⟨⟨v, u, rfl, hp, by rw [ht]; exact hP, va_K.moved hW.alike hK, hD⟩, hS.F ht⟩) hS.2.2 hdg hlocks
theorem mk_mzret {S : Type} {post : Int32 → S → Prop} {wo : S → va_W} (u : S) {v : Int32} (hx : p.tables.exec = Jvm.exec) (hb : c.code = cc) (hr : meth.sig.returnType = some .boolean) (hlocks : meth.locks = false) (hP : va_P D cl (wo u) H) (hK : va_K D cl tys s) (hD : va_D A (wo u)) (hS : va_S A s.heap H locs) (hdg : decode cc pc = .ok (.ireturn, 1)) (hn : v = 0 ∨ v = 1) (hp : post v u) :
    W p l e R s m args below meth c H locs cells slots (MQ below (mk_muQ post wo D cl tys A) args s cells slots A) (F0 m pc ls [.int v]) :=
  W.zret (v := v) (ty := .boolean) hx hb hr (by rcases hn with rfl | rfl <;> rfl) (fun t ht hW => ⟨⟨v, u, rfl, hp, by rw [ht]; exact hP, va_K.moved hW.alike hK, hD⟩, hS.F ht⟩) hS.2.2 hdg hlocks
theorem mk_mvret {S : Type} {post : S → Prop} {wo : S → va_W} (u : S) (hx : p.tables.exec = Jvm.exec) (hb : c.code = cc) (hr : meth.sig.returnType = none) (hlocks : meth.locks = false) (hP : va_P D cl (wo u) H) (hK : va_K D cl tys s) (hD : va_D A (wo u)) (hS : va_S A s.heap H locs) (hdg : decode cc pc = .ok (.return_, 1)) (hp : post u) :
    W p l e R s m args below meth c H locs cells slots (MQ below (mk_muV post wo D cl tys A) args s cells slots A) (F0 m pc ls []) :=
  W.vret hx hb hr (fun t ht hW => ⟨⟨u, rfl, hp, by rw [ht]; exact hP, va_K.moved hW.alike hK, hD⟩, hS.F ht⟩) hS.2.2 hdg hlocks
end MK
section MK2
variable {p : Program} {l : Launch} {e : Env} {R : Room} {s : State} {m : MethodId} {args : Array Value} {below : List Frame} {meth : Method} {c : Code} {cells slots : Nat} {Q : State → Prop} {g : JFrame} {A : Nat → Prop} {D : va_G} {cl : List vw_C} {ws : va_W}
theorem mk_start (hP : va_P D cl ws s.heap) (k : ∀ (H : Heap) (locs : List Loc), va_P D cl ws H → va_S A s.heap H locs → W p l e R s m args below meth c H locs cells slots Q g) : W p l e R s m args below meth c s.heap [] cells slots Q g := k s.heap [] hP va_S.rf
/-- a loop: n turns are left -/
theorem mk_loop {σ : Type} (I : Nat → σ → Heap → List Loc → Array Slot → Prop) (fr : Array Slot → JFrame)
    (step : ∀ n x H locs ls, I (n + 1) x H locs ls → (∀ x' H' locs' ls', I n x' H' locs' ls' → W p l e R s m args below meth c H' locs' cells slots Q (fr ls')) → W p l e R s m args below meth c H locs cells slots Q (fr ls))
    (base : ∀ x H locs ls, I 0 x H locs ls → W p l e R s m args below meth c H locs cells slots Q (fr ls)) :
    ∀ n x H locs ls, I n x H locs ls → W p l e R s m args below meth c H locs cells slots Q (fr ls) := by
  intro n
  induction n with
  | zero => exact base
  | succ n ih => exact fun x H locs ls h => step n x H locs ls h ih
end MK2
section MK3
variable {p : Program} {l : Launch} {e : Env} {R : Room} {s : State} {m : MethodId} {args : Array Value} {below : List Frame} {meth : Method} {c : Code} {cells slots : Nat} {Q : State → Prop}
/-- what comes behind a place is proved first -/
theorem mk_after {σ : Type} (I : σ → Heap → List Loc → Array Slot → Prop) (fr : Array Slot → JFrame) (J : ∀ x H locs ls, I x H locs ls → W p l e R s m args below meth c H locs cells slots Q (fr ls)) {H : Heap} {locs : List Loc} {g : JFrame}
    (k : (∀ x H locs ls, I x H locs ls → W p l e R s m args below meth c H locs cells slots Q (fr ls)) → W p l e R s m args below meth c H locs cells slots Q g) : W p l e R s m args below meth c H locs cells slots Q g := k J
end MK3
theorem mk_inc (k : Nat) : nI k + Int32.ofInt 1 = nI (k + 1) := nI_1 k
theorem mk_m1 : Int32.ofInt (-1) = (-1 : Int32) := by decide
theorem mk_dec (k : Nat) : nI (k + 1) + Int32.ofInt (-1) = nI k := by rw [mk_m1]; exact pk_m1 k
theorem mk_dec2 (k : Nat) : nI (k + 1) - 1 + Int32.ofInt (-1) = nI k - 1 := by rw [nI_pred, mk_m1, Int32.sub_eq_add_neg]
section MK4
variable {D : va_G} {cl : List vw_C} {args : Array Value} {s : State}
/-- the int arrays' class is one -/
theorem mk_cA {cA cB : ClassId} (h : va_K D cl [(cA, .int), (cB, .int)] s) : cA = cB := Option.some.inj ((h.2 0 _ rfl).2.symm.trans (h.2 1 _ rfl).2)
theorem mk_cA_of (h : (Cond.arrayClass .int).before args s = true) (hK : va_K D cl [] s) : ∃ cA, va_K D cl [(cA, .int)] s := by
  obtain ⟨cA, kA, comp, h1, h2, h3⟩ := Cond.arrayClass_spec h
  refine ⟨cA, hK.1, fun k q hk => ?_⟩
  have hz : k < 1 := (List.getElem?_eq_some_iff.mp hk).1
  rw [show k = 0 by omega] at hk
  cases hk
  exact ⟨fun n z => ⟨fun k h => (by cases h), kA, h2, comp, h3⟩, h1⟩
end MK4
theorem mk_mx1 {w : Nat} (h : 1 ≤ w) (hw : w < 2 ^ 31) : (if (1 : Int32) < nI w then nI w else 1) = nI w := by
  by_cases q : 1 < w
  · exact if_pos (nI_lt q hw)
  · obtain rfl : w = 1 := by omega
    exact if_neg (by decide)
theorem mk_mx0 {w : Nat} (hw : w < 2 ^ 31) : (if (0 : Int32) < nI w then nI w else 0) = nI w := by
  by_cases q : 0 < w
  · exact if_pos (nI_lt q hw)
  · obtain rfl : w = 0 := by omega
    exact if_neg (by decide)
