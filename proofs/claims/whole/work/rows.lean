section
-- ===== PART A: goes FIRST, ahead of the names: the tables' words, and 'selects' of the private methods out of them =====
/-- a private method of a class that the tables say can be made, by its rows of tables_1 -/
def lw_okq (q : MethodName × Nat) : Prop := (q.1.cls ≠ "java/lang/invoke/MethodHandle" ∧ q.1.cls ≠ "java/lang/invoke/VarHandle") ∧ Cond.instantiable q.1.cls q.2 ∈ tables_1 ∧ Cond.privateMethod q.1 ∈ tables_1 ∧ Cond.instanceMethod q.1 ∈ tables_1
theorem lw_p0 : lw_okq (⟨"AsOfJoins", "isTable", "(I)Z"⟩, 13) := ⟨⟨by decide +kernel, by decide +kernel⟩, List.mem_of_getElem? (i := 10) (by decide +kernel), List.mem_of_getElem? (i := 135) (by decide +kernel), List.mem_of_getElem? (i := 136) (by decide +kernel)⟩
theorem lw_p1 : lw_okq (⟨"AsOfJoins", "isLateChange", "(II)Z"⟩, 13) := ⟨⟨by decide +kernel, by decide +kernel⟩, List.mem_of_getElem? (i := 10) (by decide +kernel), List.mem_of_getElem? (i := 149) (by decide +kernel), List.mem_of_getElem? (i := 150) (by decide +kernel)⟩
theorem lw_p2 : lw_okq (⟨"AsOfJoins", "horizon", "()I"⟩, 13) := ⟨⟨by decide +kernel, by decide +kernel⟩, List.mem_of_getElem? (i := 10) (by decide +kernel), List.mem_of_getElem? (i := 153) (by decide +kernel), List.mem_of_getElem? (i := 154) (by decide +kernel)⟩
theorem lw_p3 : lw_okq (⟨"AsOfJoins", "begin", "()V"⟩, 13) := ⟨⟨by decide +kernel, by decide +kernel⟩, List.mem_of_getElem? (i := 10) (by decide +kernel), List.mem_of_getElem? (i := 165) (by decide +kernel), List.mem_of_getElem? (i := 166) (by decide +kernel)⟩
theorem lw_p4 : lw_okq (⟨"AsOfJoins$Versions", "linesUpTo", "(II)I"⟩, 1) := ⟨⟨by decide +kernel, by decide +kernel⟩, List.mem_of_getElem? (i := 18) (by decide +kernel), List.mem_of_getElem? (i := 184) (by decide +kernel), List.mem_of_getElem? (i := 185) (by decide +kernel)⟩
theorem lw_p5 : lw_okq (⟨"AsOfJoins", "correctRows", "(I)V"⟩, 13) := ⟨⟨by decide +kernel, by decide +kernel⟩, List.mem_of_getElem? (i := 10) (by decide +kernel), List.mem_of_getElem? (i := 203) (by decide +kernel), List.mem_of_getElem? (i := 204) (by decide +kernel)⟩
theorem lw_p6 : lw_okq (⟨"AsOfJoins", "correctRow", "(I)V"⟩, 13) := ⟨⟨by decide +kernel, by decide +kernel⟩, List.mem_of_getElem? (i := 10) (by decide +kernel), List.mem_of_getElem? (i := 221) (by decide +kernel), List.mem_of_getElem? (i := 222) (by decide +kernel)⟩
theorem lw_p7 : lw_okq (⟨"AsOfJoins", "findJoin", "(II)V"⟩, 13) := ⟨⟨by decide +kernel, by decide +kernel⟩, List.mem_of_getElem? (i := 10) (by decide +kernel), List.mem_of_getElem? (i := 225) (by decide +kernel), List.mem_of_getElem? (i := 226) (by decide +kernel)⟩
theorem lw_p8 : lw_okq (⟨"AsOfJoins", "takeJoin", "(I)V"⟩, 13) := ⟨⟨by decide +kernel, by decide +kernel⟩, List.mem_of_getElem? (i := 10) (by decide +kernel), List.mem_of_getElem? (i := 253) (by decide +kernel), List.mem_of_getElem? (i := 254) (by decide +kernel)⟩
theorem lw_p9 : lw_okq (⟨"AsOfJoins", "isGivenByJoin", "()Z"⟩, 13) := ⟨⟨by decide +kernel, by decide +kernel⟩, List.mem_of_getElem? (i := 10) (by decide +kernel), List.mem_of_getElem? (i := 257) (by decide +kernel), List.mem_of_getElem? (i := 258) (by decide +kernel)⟩
theorem lw_p10 : lw_okq (⟨"AsOfJoins", "joinRows", "()V"⟩, 13) := ⟨⟨by decide +kernel, by decide +kernel⟩, List.mem_of_getElem? (i := 10) (by decide +kernel), List.mem_of_getElem? (i := 284) (by decide +kernel), List.mem_of_getElem? (i := 285) (by decide +kernel)⟩
theorem lw_p11 : lw_okq (⟨"AsOfJoins", "lowestMark", "()I"⟩, 13) := ⟨⟨by decide +kernel, by decide +kernel⟩, List.mem_of_getElem? (i := 10) (by decide +kernel), List.mem_of_getElem? (i := 288) (by decide +kernel), List.mem_of_getElem? (i := 289) (by decide +kernel)⟩
theorem lw_p12 : lw_okq (⟨"AsOfJoins", "dropVersions", "()V"⟩, 13) := ⟨⟨by decide +kernel, by decide +kernel⟩, List.mem_of_getElem? (i := 10) (by decide +kernel), List.mem_of_getElem? (i := 308) (by decide +kernel), List.mem_of_getElem? (i := 309) (by decide +kernel)⟩
theorem lw_p13 : lw_okq (⟨"AsOfJoins", "isNeedless", "(I)Z"⟩, 13) := ⟨⟨by decide +kernel, by decide +kernel⟩, List.mem_of_getElem? (i := 10) (by decide +kernel), List.mem_of_getElem? (i := 312) (by decide +kernel), List.mem_of_getElem? (i := 313) (by decide +kernel)⟩
theorem lw_p14 : lw_okq (⟨"AsOfJoins", "markOrNone", "(I)I"⟩, 13) := ⟨⟨by decide +kernel, by decide +kernel⟩, List.mem_of_getElem? (i := 10) (by decide +kernel), List.mem_of_getElem? (i := 359) (by decide +kernel), List.mem_of_getElem? (i := 360) (by decide +kernel)⟩
theorem lw_p15 : lw_okq (⟨"AsOfJoinsModel", "horizon", "()I"⟩, 24) := ⟨⟨by decide +kernel, by decide +kernel⟩, List.mem_of_getElem? (i := 363) (by decide +kernel), List.mem_of_getElem? (i := 463) (by decide +kernel), List.mem_of_getElem? (i := 464) (by decide +kernel)⟩
def lw_privs_1 : List (MethodName × Nat) := [(⟨"AsOfJoins", "isTable", "(I)Z"⟩, 13), (⟨"AsOfJoins", "isLateChange", "(II)Z"⟩, 13), (⟨"AsOfJoins", "horizon", "()I"⟩, 13), (⟨"AsOfJoins", "begin", "()V"⟩, 13), (⟨"AsOfJoins$Versions", "linesUpTo", "(II)I"⟩, 1), (⟨"AsOfJoins", "correctRows", "(I)V"⟩, 13), (⟨"AsOfJoins", "correctRow", "(I)V"⟩, 13), (⟨"AsOfJoins", "findJoin", "(II)V"⟩, 13), (⟨"AsOfJoins", "takeJoin", "(I)V"⟩, 13), (⟨"AsOfJoins", "isGivenByJoin", "()Z"⟩, 13), (⟨"AsOfJoins", "joinRows", "()V"⟩, 13), (⟨"AsOfJoins", "lowestMark", "()I"⟩, 13), (⟨"AsOfJoins", "dropVersions", "()V"⟩, 13), (⟨"AsOfJoins", "isNeedless", "(I)Z"⟩, 13), (⟨"AsOfJoins", "markOrNone", "(I)I"⟩, 13), (⟨"AsOfJoinsModel", "horizon", "()I"⟩, 24)]
theorem lw_r1 : ∀ q ∈ lw_privs_1, lw_okq q := List.forall_mem_cons.mpr ⟨lw_p0, List.forall_mem_cons.mpr ⟨lw_p1, List.forall_mem_cons.mpr ⟨lw_p2, List.forall_mem_cons.mpr ⟨lw_p3, List.forall_mem_cons.mpr ⟨lw_p4, List.forall_mem_cons.mpr ⟨lw_p5, List.forall_mem_cons.mpr ⟨lw_p6, List.forall_mem_cons.mpr ⟨lw_p7, List.forall_mem_cons.mpr ⟨lw_p8, List.forall_mem_cons.mpr ⟨lw_p9, List.forall_mem_cons.mpr ⟨lw_p10, List.forall_mem_cons.mpr ⟨lw_p11, List.forall_mem_cons.mpr ⟨lw_p12, List.forall_mem_cons.mpr ⟨lw_p13, List.forall_mem_cons.mpr ⟨lw_p14, List.forall_mem_cons.mpr ⟨lw_p15, fun _ h => absurd h List.not_mem_nil⟩⟩⟩⟩⟩⟩⟩⟩⟩⟩⟩⟩⟩⟩⟩⟩
theorem lw_p16 : lw_okq (⟨"AsOfJoinsModel", "versionAt", "(III)I"⟩, 24) := ⟨⟨by decide +kernel, by decide +kernel⟩, List.mem_of_getElem? (i := 363) (by decide +kernel), List.mem_of_getElem? (i := 467) (by decide +kernel), List.mem_of_getElem? (i := 468) (by decide +kernel)⟩
theorem lw_p17 : lw_okq (⟨"AsOfJoinsModel", "isOf", "(III)Z"⟩, 24) := ⟨⟨by decide +kernel, by decide +kernel⟩, List.mem_of_getElem? (i := 363) (by decide +kernel), List.mem_of_getElem? (i := 471) (by decide +kernel), List.mem_of_getElem? (i := 472) (by decide +kernel)⟩
theorem lw_p18 : lw_okq (⟨"AsOfJoinsModel", "correct", "()V"⟩, 24) := ⟨⟨by decide +kernel, by decide +kernel⟩, List.mem_of_getElem? (i := 363) (by decide +kernel), List.mem_of_getElem? (i := 475) (by decide +kernel), List.mem_of_getElem? (i := 476) (by decide +kernel)⟩
theorem lw_p19 : lw_okq (⟨"AsOfJoinsModel", "rowBy", "(I)I"⟩, 24) := ⟨⟨by decide +kernel, by decide +kernel⟩, List.mem_of_getElem? (i := 363) (by decide +kernel), List.mem_of_getElem? (i := 479) (by decide +kernel), List.mem_of_getElem? (i := 480) (by decide +kernel)⟩
theorem lw_p20 : lw_okq (⟨"AsOfJoinsModel", "find", "(I)V"⟩, 24) := ⟨⟨by decide +kernel, by decide +kernel⟩, List.mem_of_getElem? (i := 363) (by decide +kernel), List.mem_of_getElem? (i := 483) (by decide +kernel), List.mem_of_getElem? (i := 484) (by decide +kernel)⟩
theorem lw_p21 : lw_okq (⟨"AsOfJoinsModel", "latest", "(III)I"⟩, 24) := ⟨⟨by decide +kernel, by decide +kernel⟩, List.mem_of_getElem? (i := 363) (by decide +kernel), List.mem_of_getElem? (i := 487) (by decide +kernel), List.mem_of_getElem? (i := 488) (by decide +kernel)⟩
theorem lw_p22 : lw_okq (⟨"AsOfJoinsModel", "reaches", "(II)Z"⟩, 24) := ⟨⟨by decide +kernel, by decide +kernel⟩, List.mem_of_getElem? (i := 363) (by decide +kernel), List.mem_of_getElem? (i := 491) (by decide +kernel), List.mem_of_getElem? (i := 492) (by decide +kernel)⟩
theorem lw_p23 : lw_okq (⟨"AsOfJoinsModel", "tell", "(II)V"⟩, 24) := ⟨⟨by decide +kernel, by decide +kernel⟩, List.mem_of_getElem? (i := 363) (by decide +kernel), List.mem_of_getElem? (i := 495) (by decide +kernel), List.mem_of_getElem? (i := 496) (by decide +kernel)⟩
theorem lw_p24 : lw_okq (⟨"AsOfJoinsModel", "take", "(I)V"⟩, 24) := ⟨⟨by decide +kernel, by decide +kernel⟩, List.mem_of_getElem? (i := 363) (by decide +kernel), List.mem_of_getElem? (i := 499) (by decide +kernel), List.mem_of_getElem? (i := 500) (by decide +kernel)⟩
theorem lw_p25 : lw_okq (⟨"AsOfJoinsModel", "isGiven", "()Z"⟩, 24) := ⟨⟨by decide +kernel, by decide +kernel⟩, List.mem_of_getElem? (i := 363) (by decide +kernel), List.mem_of_getElem? (i := 503) (by decide +kernel), List.mem_of_getElem? (i := 504) (by decide +kernel)⟩
theorem lw_p26 : lw_okq (⟨"AsOfJoinsModel", "manyOf", "(II)I"⟩, 24) := ⟨⟨by decide +kernel, by decide +kernel⟩, List.mem_of_getElem? (i := 363) (by decide +kernel), List.mem_of_getElem? (i := 507) (by decide +kernel), List.mem_of_getElem? (i := 508) (by decide +kernel)⟩
theorem lw_p27 : lw_okq (⟨"AsOfJoinsModel", "joinAll", "()V"⟩, 24) := ⟨⟨by decide +kernel, by decide +kernel⟩, List.mem_of_getElem? (i := 363) (by decide +kernel), List.mem_of_getElem? (i := 515) (by decide +kernel), List.mem_of_getElem? (i := 516) (by decide +kernel)⟩
theorem lw_p28 : lw_okq (⟨"AsOfJoinsModel", "canJoin", "(I)Z"⟩, 24) := ⟨⟨by decide +kernel, by decide +kernel⟩, List.mem_of_getElem? (i := 363) (by decide +kernel), List.mem_of_getElem? (i := 519) (by decide +kernel), List.mem_of_getElem? (i := 520) (by decide +kernel)⟩
theorem lw_p29 : lw_okq (⟨"AsOfJoinsModel", "dropRows", "()V"⟩, 24) := ⟨⟨by decide +kernel, by decide +kernel⟩, List.mem_of_getElem? (i := 363) (by decide +kernel), List.mem_of_getElem? (i := 527) (by decide +kernel), List.mem_of_getElem? (i := 528) (by decide +kernel)⟩
theorem lw_p30 : lw_okq (⟨"AsOfJoinsModel", "dropVersions", "()V"⟩, 24) := ⟨⟨by decide +kernel, by decide +kernel⟩, List.mem_of_getElem? (i := 363) (by decide +kernel), List.mem_of_getElem? (i := 531) (by decide +kernel), List.mem_of_getElem? (i := 532) (by decide +kernel)⟩
theorem lw_p31 : lw_okq (⟨"AsOfJoinsModel", "isNeeded", "(I)Z"⟩, 24) := ⟨⟨by decide +kernel, by decide +kernel⟩, List.mem_of_getElem? (i := 363) (by decide +kernel), List.mem_of_getElem? (i := 535) (by decide +kernel), List.mem_of_getElem? (i := 536) (by decide +kernel)⟩
def lw_privs_2 : List (MethodName × Nat) := [(⟨"AsOfJoinsModel", "versionAt", "(III)I"⟩, 24), (⟨"AsOfJoinsModel", "isOf", "(III)Z"⟩, 24), (⟨"AsOfJoinsModel", "correct", "()V"⟩, 24), (⟨"AsOfJoinsModel", "rowBy", "(I)I"⟩, 24), (⟨"AsOfJoinsModel", "find", "(I)V"⟩, 24), (⟨"AsOfJoinsModel", "latest", "(III)I"⟩, 24), (⟨"AsOfJoinsModel", "reaches", "(II)Z"⟩, 24), (⟨"AsOfJoinsModel", "tell", "(II)V"⟩, 24), (⟨"AsOfJoinsModel", "take", "(I)V"⟩, 24), (⟨"AsOfJoinsModel", "isGiven", "()Z"⟩, 24), (⟨"AsOfJoinsModel", "manyOf", "(II)I"⟩, 24), (⟨"AsOfJoinsModel", "joinAll", "()V"⟩, 24), (⟨"AsOfJoinsModel", "canJoin", "(I)Z"⟩, 24), (⟨"AsOfJoinsModel", "dropRows", "()V"⟩, 24), (⟨"AsOfJoinsModel", "dropVersions", "()V"⟩, 24), (⟨"AsOfJoinsModel", "isNeeded", "(I)Z"⟩, 24)]
theorem lw_r2 : ∀ q ∈ lw_privs_2, lw_okq q := List.forall_mem_cons.mpr ⟨lw_p16, List.forall_mem_cons.mpr ⟨lw_p17, List.forall_mem_cons.mpr ⟨lw_p18, List.forall_mem_cons.mpr ⟨lw_p19, List.forall_mem_cons.mpr ⟨lw_p20, List.forall_mem_cons.mpr ⟨lw_p21, List.forall_mem_cons.mpr ⟨lw_p22, List.forall_mem_cons.mpr ⟨lw_p23, List.forall_mem_cons.mpr ⟨lw_p24, List.forall_mem_cons.mpr ⟨lw_p25, List.forall_mem_cons.mpr ⟨lw_p26, List.forall_mem_cons.mpr ⟨lw_p27, List.forall_mem_cons.mpr ⟨lw_p28, List.forall_mem_cons.mpr ⟨lw_p29, List.forall_mem_cons.mpr ⟨lw_p30, List.forall_mem_cons.mpr ⟨lw_p31, fun _ h => absurd h List.not_mem_nil⟩⟩⟩⟩⟩⟩⟩⟩⟩⟩⟩⟩⟩⟩⟩⟩
theorem lw_p32 : lw_okq (⟨"AsOfJoinsModel", "serves", "(III)Z"⟩, 24) := ⟨⟨by decide +kernel, by decide +kernel⟩, List.mem_of_getElem? (i := 363) (by decide +kernel), List.mem_of_getElem? (i := 541) (by decide +kernel), List.mem_of_getElem? (i := 542) (by decide +kernel)⟩
theorem lw_p33 : lw_okq (⟨"AsOfJoinsModel", "versionBy", "(III)I"⟩, 24) := ⟨⟨by decide +kernel, by decide +kernel⟩, List.mem_of_getElem? (i := 363) (by decide +kernel), List.mem_of_getElem? (i := 557) (by decide +kernel), List.mem_of_getElem? (i := 558) (by decide +kernel)⟩
def lw_privs_3 : List (MethodName × Nat) := [(⟨"AsOfJoinsModel", "serves", "(III)Z"⟩, 24), (⟨"AsOfJoinsModel", "versionBy", "(III)I"⟩, 24)]
theorem lw_r3 : ∀ q ∈ lw_privs_3, lw_okq q := List.forall_mem_cons.mpr ⟨lw_p32, List.forall_mem_cons.mpr ⟨lw_p33, fun _ h => absurd h List.not_mem_nil⟩⟩
def lw_privs : List (MethodName × Nat) := lw_privs_1 ++ (lw_privs_2 ++ (lw_privs_3))
def lw_tbl : List Cond := k2_sels lw_privs ++ tables_1
theorem lw_privs_ok : ∀ q ∈ lw_privs, lw_okq q := by
  show ∀ q ∈ lw_privs_1 ++ (lw_privs_2 ++ (lw_privs_3)), lw_okq q
  exact List.forall_mem_append.mpr ⟨lw_r1, List.forall_mem_append.mpr ⟨lw_r2, lw_r3⟩⟩
end
section
/-! names of our own: classes, methods (printed by wip/gen/names.py) -/
def lw_gd : List Cond := lw_tbl.filter goodWord
def qR_X : String := "AsOfJoins"
def qT_X : u_T := fun k => match k with
  | 0 => ("AsOfJoins", "rules", "[I", true)
  | 1 => ("AsOfJoins", "marks", "[I", true)
  | 2 => ("AsOfJoins", "versions", "LAsOfJoins$Versions;", true)
  | 3 => ("AsOfJoins", "rows", "LAsOfJoins$Rows;", true)
  | 4 => ("AsOfJoins", "outs", "LAsOfJoins$Outs;", true)
  | 5 => ("AsOfJoins", "join", "[I", true)
  | 6 => ("AsOfJoins", "tables", "I", false)
  | 7 => ("AsOfJoins", "rowMark", "I", false)
  | 8 => ("AsOfJoins", "rowsCame", "I", false)
  | 9 => ("AsOfJoins", "rowsWent", "I", false)
  | 10 => ("AsOfJoins", "versionsWent", "I", false)
  | 11 => ("AsOfJoins", "lateAnswers", "I", false)
  | _ => ("AsOfJoins", "begun", "Z", false)
def qty_X : Nat → FieldType := fun k => match k with
  | 0 => .array .int
  | 1 => .array .int
  | 2 => .object "AsOfJoins$Versions"
  | 3 => .object "AsOfJoins$Rows"
  | 4 => .object "AsOfJoins$Outs"
  | 5 => .array .int
  | 6 => .int
  | 7 => .int
  | 8 => .int
  | 9 => .int
  | 10 => .int
  | 11 => .int
  | _ => .boolean
theorem qnm_X : ∀ a, a < 13 → ∀ b, b < 13 → a ≠ b → (qT_X a).2.1 ≠ (qT_X b).2.1 := by decide +kernel
theorem qtyok_X : ∀ k, k < 13 → parseFieldDescriptor (qT_X k).2.2.1 = some (qty_X k) := by decide +kernel
theorem qin_X : ∀ w ∈ u_ws qR_X qT_X 13, w ∈ lw_gd := fun w h => List.mem_filter.mpr ⟨(show ∀ w ∈ u_ws qR_X qT_X 13, w ∈ lw_tbl by decide +kernel) w h, (show ∀ w ∈ u_ws qR_X qT_X 13, goodWord w = true by decide +kernel) w h⟩
def qR_M : String := "AsOfJoinsModel"
def qT_M : u_T := fun k => match k with
  | 0 => ("AsOfJoinsModel", "thrown", "I", false)
  | 1 => ("AsOfJoinsModel", "tables", "I", false)
  | 2 => ("AsOfJoinsModel", "side", "I", false)
  | 3 => ("AsOfJoinsModel", "lates", "I", false)
  | 4 => ("AsOfJoinsModel", "inner", "I", false)
  | 5 => ("AsOfJoinsModel", "keep", "I", false)
  | 6 => ("AsOfJoinsModel", "begun", "Z", false)
  | 7 => ("AsOfJoinsModel", "marks", "[I", true)
  | 8 => ("AsOfJoinsModel", "rowMark", "I", false)
  | 9 => ("AsOfJoinsModel", "version", "[I", true)
  | 10 => ("AsOfJoinsModel", "versions", "I", false)
  | 11 => ("AsOfJoinsModel", "row", "[I", true)
  | 12 => ("AsOfJoinsModel", "join", "[I", true)
  | 13 => ("AsOfJoinsModel", "rows", "I", false)
  | 14 => ("AsOfJoinsModel", "came", "I", false)
  | 15 => ("AsOfJoinsModel", "gives", "I", false)
  | 16 => ("AsOfJoinsModel", "takes", "I", false)
  | 17 => ("AsOfJoinsModel", "rowsGone", "I", false)
  | 18 => ("AsOfJoinsModel", "versionsGone", "I", false)
  | 19 => ("AsOfJoinsModel", "lateAnswers", "I", false)
  | 20 => ("AsOfJoinsModel", "out", "[I", true)
  | 21 => ("AsOfJoinsModel", "outs", "I", false)
  | 22 => ("AsOfJoinsModel", "found", "[I", true)
  | _ => ("AsOfJoinsModel", "goes", "[Z", true)
def qty_M : Nat → FieldType := fun k => match k with
  | 0 => .int
  | 1 => .int
  | 2 => .int
  | 3 => .int
  | 4 => .int
  | 5 => .int
  | 6 => .boolean
  | 7 => .array .int
  | 8 => .int
  | 9 => .array .int
  | 10 => .int
  | 11 => .array .int
  | 12 => .array .int
  | 13 => .int
  | 14 => .int
  | 15 => .int
  | 16 => .int
  | 17 => .int
  | 18 => .int
  | 19 => .int
  | 20 => .array .int
  | 21 => .int
  | 22 => .array .int
  | _ => .array .boolean
theorem qnm_M : ∀ a, a < 24 → ∀ b, b < 24 → a ≠ b → (qT_M a).2.1 ≠ (qT_M b).2.1 := by decide +kernel
theorem qtyok_M : ∀ k, k < 24 → parseFieldDescriptor (qT_M k).2.2.1 = some (qty_M k) := by decide +kernel
theorem qin_M : ∀ w ∈ u_ws qR_M qT_M 24, w ∈ lw_gd := fun w h => List.mem_filter.mpr ⟨(show ∀ w ∈ u_ws qR_M qT_M 24, w ∈ lw_tbl by decide +kernel) w h, (show ∀ w ∈ u_ws qR_M qT_M 24, goodWord w = true by decide +kernel) w h⟩
def qR_O : String := "AsOfJoins$Outs"
def qT_O : u_T := fun k => match k with
  | 0 => ("AsOfJoins$Outs", "sheet", "LAsOfJoins$Sheet;", true)
  | 1 => ("AsOfJoins$Outs", "gives", "I", false)
  | _ => ("AsOfJoins$Outs", "takes", "I", false)
def qty_O : Nat → FieldType := fun k => match k with
  | 0 => .object "AsOfJoins$Sheet"
  | 1 => .int
  | _ => .int
theorem qnm_O : ∀ a, a < 3 → ∀ b, b < 3 → a ≠ b → (qT_O a).2.1 ≠ (qT_O b).2.1 := by decide +kernel
theorem qtyok_O : ∀ k, k < 3 → parseFieldDescriptor (qT_O k).2.2.1 = some (qty_O k) := by decide +kernel
theorem qin_O : ∀ w ∈ u_ws qR_O qT_O 3, w ∈ lw_gd := fun w h => List.mem_filter.mpr ⟨(show ∀ w ∈ u_ws qR_O qT_O 3, w ∈ lw_tbl by decide +kernel) w h, (show ∀ w ∈ u_ws qR_O qT_O 3, goodWord w = true by decide +kernel) w h⟩
def qR_R : String := "AsOfJoins$Rows"
def qT_R : u_T := fun k => match k with
  | _ => ("AsOfJoins$Rows", "sheet", "LAsOfJoins$Sheet;", true)
def qty_R : Nat → FieldType := fun k => match k with
  | _ => .object "AsOfJoins$Sheet"
theorem qnm_R : ∀ a, a < 1 → ∀ b, b < 1 → a ≠ b → (qT_R a).2.1 ≠ (qT_R b).2.1 := by decide +kernel
theorem qtyok_R : ∀ k, k < 1 → parseFieldDescriptor (qT_R k).2.2.1 = some (qty_R k) := by decide +kernel
theorem qin_R : ∀ w ∈ u_ws qR_R qT_R 1, w ∈ lw_gd := fun w h => List.mem_filter.mpr ⟨(show ∀ w ∈ u_ws qR_R qT_R 1, w ∈ lw_tbl by decide +kernel) w h, (show ∀ w ∈ u_ws qR_R qT_R 1, goodWord w = true by decide +kernel) w h⟩
def qR_S : String := "AsOfJoins$Sheet"
def qT_S : u_T := fun k => match k with
  | 0 => ("AsOfJoins$Sheet", "width", "I", true)
  | 1 => ("AsOfJoins$Sheet", "limit", "I", true)
  | 2 => ("AsOfJoins$Sheet", "cells", "[I", true)
  | _ => ("AsOfJoins$Sheet", "lines", "I", false)
def qty_S : Nat → FieldType := fun k => match k with
  | 0 => .int
  | 1 => .int
  | 2 => .array .int
  | _ => .int
theorem qnm_S : ∀ a, a < 4 → ∀ b, b < 4 → a ≠ b → (qT_S a).2.1 ≠ (qT_S b).2.1 := by decide +kernel
theorem qtyok_S : ∀ k, k < 4 → parseFieldDescriptor (qT_S k).2.2.1 = some (qty_S k) := by decide +kernel
theorem qin_S : ∀ w ∈ u_ws qR_S qT_S 4, w ∈ lw_gd := fun w h => List.mem_filter.mpr ⟨(show ∀ w ∈ u_ws qR_S qT_S 4, w ∈ lw_tbl by decide +kernel) w h, (show ∀ w ∈ u_ws qR_S qT_S 4, goodWord w = true by decide +kernel) w h⟩
def qR_V : String := "AsOfJoins$Versions"
def qT_V : u_T := fun k => match k with
  | _ => ("AsOfJoins$Versions", "sheet", "LAsOfJoins$Sheet;", true)
def qty_V : Nat → FieldType := fun k => match k with
  | _ => .object "AsOfJoins$Sheet"
theorem qnm_V : ∀ a, a < 1 → ∀ b, b < 1 → a ≠ b → (qT_V a).2.1 ≠ (qT_V b).2.1 := by decide +kernel
theorem qtyok_V : ∀ k, k < 1 → parseFieldDescriptor (qT_V k).2.2.1 = some (qty_V k) := by decide +kernel
theorem qin_V : ∀ w ∈ u_ws qR_V qT_V 1, w ∈ lw_gd := fun w h => List.mem_filter.mpr ⟨(show ∀ w ∈ u_ws qR_V qT_V 1, w ∈ lw_tbl by decide +kernel) w h, (show ∀ w ∈ u_ws qR_V qT_V 1, goodWord w = true by decide +kernel) w h⟩
def qR_L : String := "AsOfJoinsLaw"
abbrev vwCl : List vw_C := [(qR_X, qT_X, 13), (qR_M, qT_M, 24), (qR_O, qT_O, 3), (qR_R, qT_R, 1), (qR_S, qT_S, 4), (qR_V, qT_V, 1)]
abbrev qb_X_init : ByteArray := prog_1_method_1_code
def qy_X_init : MethodName := ⟨qR_X, "<init>", "()V"⟩
def qw_X_init : List Cond := .code qy_X_init qb_X_init 1 none :: lw_gd
abbrev qb_X_table : ByteArray := prog_1_method_2_code
def qy_X_table : MethodName := ⟨qR_X, "table", "()I"⟩
def qw_X_table : List Cond := .code qy_X_table qb_X_table 1 (some .int) :: lw_gd
abbrev qb_X_rule : ByteArray := prog_1_method_3_code
def qy_X_rule : MethodName := ⟨qR_X, "rule", "(II)I"⟩
def qw_X_rule : List Cond := .code qy_X_rule qb_X_rule 4 (some .int) :: lw_gd
abbrev qb_X_change : ByteArray := prog_1_method_4_code
def qy_X_change : MethodName := ⟨qR_X, "change", "(IIII)I"⟩
def qw_X_change : List Cond := .code qy_X_change qb_X_change 6 (some .int) :: lw_gd
abbrev qb_X_row : ByteArray := prog_1_method_5_code
def qy_X_row : MethodName := ⟨qR_X, "row", "(III)I"⟩
def qw_X_row : List Cond := .code qy_X_row qb_X_row 5 (some .int) :: lw_gd
abbrev qb_X_mark : ByteArray := prog_1_method_6_code
def qy_X_mark : MethodName := ⟨qR_X, "mark", "(II)I"⟩
def qw_X_mark : List Cond := .code qy_X_mark qb_X_mark 4 (some .int) :: lw_gd
abbrev qb_X_out : ByteArray := prog_1_method_7_code
def qy_X_out : MethodName := ⟨qR_X, "out", "(II)I"⟩
def qw_X_out : List Cond := .code qy_X_out qb_X_out 3 (some .int) :: lw_gd
abbrev qb_X_asOf : ByteArray := prog_1_method_8_code
def qy_X_asOf : MethodName := ⟨qR_X, "asOf", "(III)I"⟩
def qw_X_asOf : List Cond := .code qy_X_asOf qb_X_asOf 5 (some .int) :: lw_gd
abbrev qb_X_version : ByteArray := prog_1_method_9_code
def qy_X_version : MethodName := ⟨qR_X, "version", "(IIII)I"⟩
def qw_X_version : List Cond := .code qy_X_version qb_X_version 6 (some .int) :: lw_gd
abbrev qb_X_there : ByteArray := prog_1_method_10_code
def qy_X_there : MethodName := ⟨qR_X, "there", "(II)I"⟩
def qw_X_there : List Cond := .code qy_X_there qb_X_there 3 (some .int) :: lw_gd
abbrev qb_X_count : ByteArray := prog_1_method_11_code
def qy_X_count : MethodName := ⟨qR_X, "count", "(I)I"⟩
def qw_X_count : List Cond := .code qy_X_count qb_X_count 2 (some .int) :: lw_gd
abbrev qb_X_isTable : ByteArray := prog_1_method_12_code
def qy_X_isTable : MethodName := ⟨qR_X, "isTable", "(I)Z"⟩
def qw_X_isTable : List Cond := .code qy_X_isTable qb_X_isTable 2 (some .boolean) :: lw_gd
abbrev qb_X_isKey : ByteArray := prog_1_method_13_code
def qy_X_isKey : MethodName := ⟨qR_X, "isKey", "(I)Z"⟩
def qw_X_isKey : List Cond := .code qy_X_isKey qb_X_isKey 1 (some .boolean) :: lw_gd
abbrev qb_X_isTime : ByteArray := prog_1_method_14_code
def qy_X_isTime : MethodName := ⟨qR_X, "isTime", "(I)Z"⟩
def qw_X_isTime : List Cond := .code qy_X_isTime qb_X_isTime 1 (some .boolean) :: lw_gd
abbrev qb_X_isValue : ByteArray := prog_1_method_15_code
def qy_X_isValue : MethodName := ⟨qR_X, "isValue", "(I)Z"⟩
def qw_X_isValue : List Cond := .code qy_X_isValue qb_X_isValue 1 (some .boolean) :: lw_gd
abbrev qb_X_placeOf : ByteArray := prog_1_method_16_code
def qy_X_placeOf : MethodName := ⟨qR_X, "placeOf", "(II)I"⟩
def qw_X_placeOf : List Cond := .code qy_X_placeOf qb_X_placeOf 2 (some .int) :: lw_gd
abbrev qb_X_markOrNone : ByteArray := prog_1_method_17_code
def qy_X_markOrNone : MethodName := ⟨qR_X, "markOrNone", "(I)I"⟩
def qw_X_markOrNone : List Cond := .code qy_X_markOrNone qb_X_markOrNone 2 (some .int) :: lw_gd
abbrev qb_X_horizon : ByteArray := prog_1_method_18_code
def qy_X_horizon : MethodName := ⟨qR_X, "horizon", "()I"⟩
def qw_X_horizon : List Cond := .code qy_X_horizon qb_X_horizon 1 (some .int) :: lw_gd
abbrev qb_X_isLateChange : ByteArray := prog_1_method_19_code
def qy_X_isLateChange : MethodName := ⟨qR_X, "isLateChange", "(II)Z"⟩
def qw_X_isLateChange : List Cond := .code qy_X_isLateChange qb_X_isLateChange 3 (some .boolean) :: lw_gd
abbrev qb_X_begin : ByteArray := prog_1_method_20_code
def qy_X_begin : MethodName := ⟨qR_X, "begin", "()V"⟩
def qw_X_begin : List Cond := .code qy_X_begin qb_X_begin 1 none :: lw_gd
abbrev qb_X_lowestMark : ByteArray := prog_1_method_21_code
def qy_X_lowestMark : MethodName := ⟨qR_X, "lowestMark", "()I"⟩
def qw_X_lowestMark : List Cond := .code qy_X_lowestMark qb_X_lowestMark 3 (some .int) :: lw_gd
abbrev qb_X_findJoin : ByteArray := prog_1_method_22_code
def qy_X_findJoin : MethodName := ⟨qR_X, "findJoin", "(II)V"⟩
def qw_X_findJoin : List Cond := .code qy_X_findJoin qb_X_findJoin 5 none :: lw_gd
abbrev qb_X_isGivenByJoin : ByteArray := prog_1_method_23_code
def qy_X_isGivenByJoin : MethodName := ⟨qR_X, "isGivenByJoin", "()Z"⟩
def qw_X_isGivenByJoin : List Cond := .code qy_X_isGivenByJoin qb_X_isGivenByJoin 2 (some .boolean) :: lw_gd
abbrev qb_X_joinRows : ByteArray := prog_1_method_24_code
def qy_X_joinRows : MethodName := ⟨qR_X, "joinRows", "()V"⟩
def qw_X_joinRows : List Cond := .code qy_X_joinRows qb_X_joinRows 4 none :: lw_gd
abbrev qb_X_takeJoin : ByteArray := prog_1_method_25_code
def qy_X_takeJoin : MethodName := ⟨qR_X, "takeJoin", "(I)V"⟩
def qw_X_takeJoin : List Cond := .code qy_X_takeJoin qb_X_takeJoin 3 none :: lw_gd
abbrev qb_X_correctRows : ByteArray := prog_1_method_26_code
def qy_X_correctRows : MethodName := ⟨qR_X, "correctRows", "(I)V"⟩
def qw_X_correctRows : List Cond := .code qy_X_correctRows qb_X_correctRows 3 none :: lw_gd
abbrev qb_X_correctRow : ByteArray := prog_1_method_27_code
def qy_X_correctRow : MethodName := ⟨qR_X, "correctRow", "(I)V"⟩
def qw_X_correctRow : List Cond := .code qy_X_correctRow qb_X_correctRow 2 none :: lw_gd
abbrev qb_X_dropVersions : ByteArray := prog_1_method_28_code
def qy_X_dropVersions : MethodName := ⟨qR_X, "dropVersions", "()V"⟩
def qw_X_dropVersions : List Cond := .code qy_X_dropVersions qb_X_dropVersions 3 none :: lw_gd
abbrev qb_X_isNeedless : ByteArray := prog_1_method_29_code
def qy_X_isNeedless : MethodName := ⟨qR_X, "isNeedless", "(I)Z"⟩
def qw_X_isNeedless : List Cond := .code qy_X_isNeedless qb_X_isNeedless 5 (some .boolean) :: lw_gd
abbrev qb_M_in : ByteArray := prog_7_method_2_code
def qy_M_in : MethodName := ⟨qR_M, "in", "(JJJ)Z"⟩
def qw_M_in : List Cond := .code qy_M_in qb_M_in 6 (some .boolean) :: lw_gd
abbrev qb_M_init : ByteArray := prog_7_method_3_code
def qy_M_init : MethodName := ⟨qR_M, "<init>", "()V"⟩
def qw_M_init : List Cond := .code qy_M_init qb_M_init 1 none :: lw_gd
abbrev qb_M_horizon : ByteArray := prog_7_method_4_code
def qy_M_horizon : MethodName := ⟨qR_M, "horizon", "()I"⟩
def qw_M_horizon : List Cond := .code qy_M_horizon qb_M_horizon 1 (some .int) :: lw_gd
abbrev qb_M_table : ByteArray := prog_7_method_5_code
def qy_M_table : MethodName := ⟨qR_M, "table", "()I"⟩
def qw_M_table : List Cond := .code qy_M_table qb_M_table 1 (some .int) :: lw_gd
abbrev qb_M_rule : ByteArray := prog_7_method_6_code
def qy_M_rule : MethodName := ⟨qR_M, "rule", "(II)I"⟩
def qw_M_rule : List Cond := .code qy_M_rule qb_M_rule 4 (some .int) :: lw_gd
abbrev qb_M_isOf : ByteArray := prog_7_method_7_code
def qy_M_isOf : MethodName := ⟨qR_M, "isOf", "(III)Z"⟩
def qw_M_isOf : List Cond := .code qy_M_isOf qb_M_isOf 4 (some .boolean) :: lw_gd
abbrev qb_M_reaches : ByteArray := prog_7_method_8_code
def qy_M_reaches : MethodName := ⟨qR_M, "reaches", "(II)Z"⟩
def qw_M_reaches : List Cond := .code qy_M_reaches qb_M_reaches 3 (some .boolean) :: lw_gd
abbrev qb_M_latest : ByteArray := prog_7_method_9_code
def qy_M_latest : MethodName := ⟨qR_M, "latest", "(III)I"⟩
def qw_M_latest : List Cond := .code qy_M_latest qb_M_latest 6 (some .int) :: lw_gd
abbrev qb_M_versionAt : ByteArray := prog_7_method_10_code
def qy_M_versionAt : MethodName := ⟨qR_M, "versionAt", "(III)I"⟩
def qw_M_versionAt : List Cond := .code qy_M_versionAt qb_M_versionAt 5 (some .int) :: lw_gd
abbrev qb_M_manyOf : ByteArray := prog_7_method_11_code
def qy_M_manyOf : MethodName := ⟨qR_M, "manyOf", "(II)I"⟩
def qw_M_manyOf : List Cond := .code qy_M_manyOf qb_M_manyOf 5 (some .int) :: lw_gd
abbrev qb_M_versionBy : ByteArray := prog_7_method_12_code
def qy_M_versionBy : MethodName := ⟨qR_M, "versionBy", "(III)I"⟩
def qw_M_versionBy : List Cond := .code qy_M_versionBy qb_M_versionBy 7 (some .int) :: lw_gd
abbrev qb_M_find : ByteArray := prog_7_method_13_code
def qy_M_find : MethodName := ⟨qR_M, "find", "(I)V"⟩
def qw_M_find : List Cond := .code qy_M_find qb_M_find 5 none :: lw_gd
abbrev qb_M_isGiven : ByteArray := prog_7_method_14_code
def qy_M_isGiven : MethodName := ⟨qR_M, "isGiven", "()Z"⟩
def qw_M_isGiven : List Cond := .code qy_M_isGiven qb_M_isGiven 3 (some .boolean) :: lw_gd
abbrev qb_M_tell : ByteArray := prog_7_method_15_code
def qy_M_tell : MethodName := ⟨qR_M, "tell", "(II)V"⟩
def qw_M_tell : List Cond := .code qy_M_tell qb_M_tell 5 none :: lw_gd
abbrev qb_M_take : ByteArray := prog_7_method_16_code
def qy_M_take : MethodName := ⟨qR_M, "take", "(I)V"⟩
def qw_M_take : List Cond := .code qy_M_take qb_M_take 3 none :: lw_gd
abbrev qb_M_rowBy : ByteArray := prog_7_method_17_code
def qy_M_rowBy : MethodName := ⟨qR_M, "rowBy", "(I)I"⟩
def qw_M_rowBy : List Cond := .code qy_M_rowBy qb_M_rowBy 7 (some .int) :: lw_gd
abbrev qb_M_canJoin : ByteArray := prog_7_method_18_code
def qy_M_canJoin : MethodName := ⟨qR_M, "canJoin", "(I)Z"⟩
def qw_M_canJoin : List Cond := .code qy_M_canJoin qb_M_canJoin 4 (some .boolean) :: lw_gd
abbrev qb_M_joinAll : ByteArray := prog_7_method_19_code
def qy_M_joinAll : MethodName := ⟨qR_M, "joinAll", "()V"⟩
def qw_M_joinAll : List Cond := .code qy_M_joinAll qb_M_joinAll 3 none :: lw_gd
abbrev qb_M_correct : ByteArray := prog_7_method_20_code
def qy_M_correct : MethodName := ⟨qR_M, "correct", "()V"⟩
def qw_M_correct : List Cond := .code qy_M_correct qb_M_correct 5 none :: lw_gd
abbrev qb_M_change : ByteArray := prog_7_method_21_code
def qy_M_change : MethodName := ⟨qR_M, "change", "(IIII)I"⟩
def qw_M_change : List Cond := .code qy_M_change qb_M_change 6 (some .int) :: lw_gd
abbrev qb_M_row : ByteArray := prog_7_method_22_code
def qy_M_row : MethodName := ⟨qR_M, "row", "(III)I"⟩
def qw_M_row : List Cond := .code qy_M_row qb_M_row 5 (some .int) :: lw_gd
abbrev qb_M_mark : ByteArray := prog_7_method_23_code
def qy_M_mark : MethodName := ⟨qR_M, "mark", "(II)I"⟩
def qw_M_mark : List Cond := .code qy_M_mark qb_M_mark 4 (some .int) :: lw_gd
abbrev qb_M_dropRows : ByteArray := prog_7_method_24_code
def qy_M_dropRows : MethodName := ⟨qR_M, "dropRows", "()V"⟩
def qw_M_dropRows : List Cond := .code qy_M_dropRows qb_M_dropRows 5 none :: lw_gd
abbrev qb_M_serves : ByteArray := prog_7_method_25_code
def qy_M_serves : MethodName := ⟨qR_M, "serves", "(III)Z"⟩
def qw_M_serves : List Cond := .code qy_M_serves qb_M_serves 4 (some .boolean) :: lw_gd
abbrev qb_M_isNeeded : ByteArray := prog_7_method_26_code
def qy_M_isNeeded : MethodName := ⟨qR_M, "isNeeded", "(I)Z"⟩
def qw_M_isNeeded : List Cond := .code qy_M_isNeeded qb_M_isNeeded 7 (some .boolean) :: lw_gd
abbrev qb_M_dropVersions : ByteArray := prog_7_method_27_code
def qy_M_dropVersions : MethodName := ⟨qR_M, "dropVersions", "()V"⟩
def qw_M_dropVersions : List Cond := .code qy_M_dropVersions qb_M_dropVersions 4 none :: lw_gd
abbrev qb_M_out : ByteArray := prog_7_method_28_code
def qy_M_out : MethodName := ⟨qR_M, "out", "(II)I"⟩
def qw_M_out : List Cond := .code qy_M_out qb_M_out 3 (some .int) :: lw_gd
abbrev qb_M_asOf : ByteArray := prog_7_method_29_code
def qy_M_asOf : MethodName := ⟨qR_M, "asOf", "(III)I"⟩
def qw_M_asOf : List Cond := .code qy_M_asOf qb_M_asOf 5 (some .int) :: lw_gd
abbrev qb_M_version : ByteArray := prog_7_method_30_code
def qy_M_version : MethodName := ⟨qR_M, "version", "(IIII)I"⟩
def qw_M_version : List Cond := .code qy_M_version qb_M_version 5 (some .int) :: lw_gd
abbrev qb_M_there : ByteArray := prog_7_method_31_code
def qy_M_there : MethodName := ⟨qR_M, "there", "(II)I"⟩
def qw_M_there : List Cond := .code qy_M_there qb_M_there 3 (some .int) :: lw_gd
abbrev qb_M_count : ByteArray := prog_7_method_32_code
def qy_M_count : MethodName := ⟨qR_M, "count", "(I)I"⟩
def qw_M_count : List Cond := .code qy_M_count qb_M_count 4 (some .int) :: lw_gd
abbrev qb_O_init : ByteArray := prog_2_method_1_code
def qy_O_init : MethodName := ⟨qR_O, "<init>", "()V"⟩
def qw_O_init : List Cond := .code qy_O_init qb_O_init 1 none :: lw_gd
abbrev qb_O_size : ByteArray := prog_2_method_2_code
def qy_O_size : MethodName := ⟨qR_O, "size", "()I"⟩
def qw_O_size : List Cond := .code qy_O_size qb_O_size 1 (some .int) :: lw_gd
abbrev qb_O_get : ByteArray := prog_2_method_3_code
def qy_O_get : MethodName := ⟨qR_O, "get", "(II)I"⟩
def qw_O_get : List Cond := .code qy_O_get qb_O_get 3 (some .int) :: lw_gd
abbrev qb_O_clear : ByteArray := prog_2_method_4_code
def qy_O_clear : MethodName := ⟨qR_O, "clear", "()V"⟩
def qw_O_clear : List Cond := .code qy_O_clear qb_O_clear 1 none :: lw_gd
abbrev qb_O_add : ByteArray := prog_2_method_5_code
def qy_O_add : MethodName := ⟨qR_O, "add", "(ILAsOfJoins$Rows;I)V"⟩
def qw_O_add : List Cond := .code qy_O_add qb_O_add 6 none :: lw_gd
abbrev qb_R_init : ByteArray := prog_3_method_1_code
def qy_R_init : MethodName := ⟨qR_R, "<init>", "()V"⟩
def qw_R_init : List Cond := .code qy_R_init qb_R_init 1 none :: lw_gd
abbrev qb_R_size : ByteArray := prog_3_method_2_code
def qy_R_size : MethodName := ⟨qR_R, "size", "()I"⟩
def qw_R_size : List Cond := .code qy_R_size qb_R_size 1 (some .int) :: lw_gd
abbrev qb_R_get : ByteArray := prog_3_method_3_code
def qy_R_get : MethodName := ⟨qR_R, "get", "(II)I"⟩
def qw_R_get : List Cond := .code qy_R_get qb_R_get 3 (some .int) :: lw_gd
abbrev qb_R_waits : ByteArray := prog_3_method_4_code
def qy_R_waits : MethodName := ⟨qR_R, "waits", "(I)Z"⟩
def qw_R_waits : List Cond := .code qy_R_waits qb_R_waits 2 (some .boolean) :: lw_gd
abbrev qb_R_wasGiven : ByteArray := prog_3_method_5_code
def qy_R_wasGiven : MethodName := ⟨qR_R, "wasGiven", "(I)Z"⟩
def qw_R_wasGiven : List Cond := .code qy_R_wasGiven qb_R_wasGiven 2 (some .boolean) :: lw_gd
abbrev qb_R_add : ByteArray := prog_3_method_6_code
def qy_R_add : MethodName := ⟨qR_R, "add", "(IIII)V"⟩
def qw_R_add : List Cond := .code qy_R_add qb_R_add 6 none :: lw_gd
abbrev qb_R_setJoin : ByteArray := prog_3_method_7_code
def qy_R_setJoin : MethodName := ⟨qR_R, "setJoin", "(I[IZ)V"⟩
def qw_R_setJoin : List Cond := .code qy_R_setJoin qb_R_setJoin 5 none :: lw_gd
abbrev qb_R_hasJoin : ByteArray := prog_3_method_8_code
def qy_R_hasJoin : MethodName := ⟨qR_R, "hasJoin", "(I[I)Z"⟩
def qw_R_hasJoin : List Cond := .code qy_R_hasJoin qb_R_hasJoin 4 (some .boolean) :: lw_gd
abbrev qb_R_waiting : ByteArray := prog_3_method_9_code
def qy_R_waiting : MethodName := ⟨qR_R, "waiting", "()I"⟩
def qw_R_waiting : List Cond := .code qy_R_waiting qb_R_waiting 3 (some .int) :: lw_gd
abbrev qb_R_anyWaits : ByteArray := prog_3_method_10_code
def qy_R_anyWaits : MethodName := ⟨qR_R, "anyWaits", "(III)Z"⟩
def qw_R_anyWaits : List Cond := .code qy_R_anyWaits qb_R_anyWaits 6 (some .boolean) :: lw_gd
abbrev qb_R_dropJoined : ByteArray := prog_3_method_11_code
def qy_R_dropJoined : MethodName := ⟨qR_R, "dropJoined", "(I)I"⟩
def qw_R_dropJoined : List Cond := .code qy_R_dropJoined qb_R_dropJoined 4 (some .int) :: lw_gd
abbrev qb_S_init : ByteArray := prog_4_method_1_code
def qy_S_init : MethodName := ⟨qR_S, "<init>", "(II)V"⟩
def qw_S_init : List Cond := .code qy_S_init qb_S_init 3 none :: lw_gd
abbrev qb_S_size : ByteArray := prog_4_method_2_code
def qy_S_size : MethodName := ⟨qR_S, "size", "()I"⟩
def qw_S_size : List Cond := .code qy_S_size qb_S_size 1 (some .int) :: lw_gd
abbrev qb_S_get : ByteArray := prog_4_method_3_code
def qy_S_get : MethodName := ⟨qR_S, "get", "(II)I"⟩
def qw_S_get : List Cond := .code qy_S_get qb_S_get 3 (some .int) :: lw_gd
abbrev qb_S_set : ByteArray := prog_4_method_4_code
def qy_S_set : MethodName := ⟨qR_S, "set", "(III)V"⟩
def qw_S_set : List Cond := .code qy_S_set qb_S_set 4 none :: lw_gd
abbrev qb_S_open : ByteArray := prog_4_method_5_code
def qy_S_open : MethodName := ⟨qR_S, "open", "(I)Z"⟩
def qw_S_open : List Cond := .code qy_S_open qb_S_open 3 (some .boolean) :: lw_gd
abbrev qb_S_drop : ByteArray := prog_4_method_6_code
def qy_S_drop : MethodName := ⟨qR_S, "drop", "(I)V"⟩
def qw_S_drop : List Cond := .code qy_S_drop qb_S_drop 3 none :: lw_gd
abbrev qb_S_clear : ByteArray := prog_4_method_7_code
def qy_S_clear : MethodName := ⟨qR_S, "clear", "()V"⟩
def qw_S_clear : List Cond := .code qy_S_clear qb_S_clear 1 none :: lw_gd
abbrev qb_V_init : ByteArray := prog_5_method_1_code
def qy_V_init : MethodName := ⟨qR_V, "<init>", "()V"⟩
def qw_V_init : List Cond := .code qy_V_init qb_V_init 1 none :: lw_gd
abbrev qb_V_size : ByteArray := prog_5_method_2_code
def qy_V_size : MethodName := ⟨qR_V, "size", "()I"⟩
def qw_V_size : List Cond := .code qy_V_size qb_V_size 1 (some .int) :: lw_gd
abbrev qb_V_get : ByteArray := prog_5_method_3_code
def qy_V_get : MethodName := ⟨qR_V, "get", "(II)I"⟩
def qw_V_get : List Cond := .code qy_V_get qb_V_get 3 (some .int) :: lw_gd
abbrev qb_V_drop : ByteArray := prog_5_method_4_code
def qy_V_drop : MethodName := ⟨qR_V, "drop", "(I)V"⟩
def qw_V_drop : List Cond := .code qy_V_drop qb_V_drop 2 none :: lw_gd
abbrev qb_V_startOf : ByteArray := prog_5_method_5_code
def qy_V_startOf : MethodName := ⟨qR_V, "startOf", "(I)I"⟩
def qw_V_startOf : List Cond := .code qy_V_startOf qb_V_startOf 2 (some .int) :: lw_gd
abbrev qb_V_sizeAt : ByteArray := prog_5_method_6_code
def qy_V_sizeAt : MethodName := ⟨qR_V, "sizeAt", "(I)I"⟩
def qw_V_sizeAt : List Cond := .code qy_V_sizeAt qb_V_sizeAt 2 (some .int) :: lw_gd
abbrev qb_V_lineAsOf : ByteArray := prog_5_method_7_code
def qy_V_lineAsOf : MethodName := ⟨qR_V, "lineAsOf", "(II)I"⟩
def qw_V_lineAsOf : List Cond := .code qy_V_lineAsOf qb_V_lineAsOf 4 (some .int) :: lw_gd
abbrev qb_V_put : ByteArray := prog_5_method_8_code
def qy_V_put : MethodName := ⟨qR_V, "put", "(III)V"⟩
def qw_V_put : List Cond := .code qy_V_put qb_V_put 5 none :: lw_gd
abbrev qb_V_linesUpTo : ByteArray := prog_5_method_9_code
def qy_V_linesUpTo : MethodName := ⟨qR_V, "linesUpTo", "(II)I"⟩
def qw_V_linesUpTo : List Cond := .code qy_V_linesUpTo qb_V_linesUpTo 8 (some .int) :: lw_gd
theorem lw_all {w : Cond} (h : w ∈ lw_gd) : (w.onTables && w.keeps) = true ∨ ∃ ty, w = .arrayClass ty := good_of_word (List.mem_filter.mp h).2
theorem lw_mw {w : Cond} (k : Nat) (h : lw_tbl[k]? = some w) (hg : goodWord w = true) : w ∈ lw_gd := List.mem_filter.mpr ⟨List.mem_of_getElem? h, hg⟩
theorem lw_g1 {c : Cond} (h : c ∈ lw_gd) : GoodIn lw_gd (c :: lw_gd) := fun w hw => (List.mem_cons.mp hw).elim (fun e => ⟨e ▸ h, e ▸ lw_all h⟩) (fun h2 => ⟨h2, lw_all h2⟩)
theorem lw_g0 : GoodIn lw_gd [] := fun _ h => absurd h List.not_mem_nil
theorem lw_gc {c : Cond} {l : List Cond} (h : c ∈ lw_gd) (hl : GoodIn lw_gd l) : GoodIn lw_gd (c :: l) := fun w hw => (List.mem_cons.mp hw).elim (fun e => ⟨e ▸ h, e ▸ lw_all h⟩) (fun h2 => hl w h2)
theorem lw_ga {a b : List Cond} (ha : GoodIn lw_gd a) (hb : GoodIn lw_gd b) : GoodIn lw_gd (a ++ b) := fun w h => (List.mem_append.mp h).elim (ha w) (hb w)
end
section
theorem qd_X_init_0 : decode qb_X_init 0 = .ok (.aload_n 0, 1) := by decide +kernel
theorem qd_X_init_1 : decode qb_X_init 1 = .ok (.invokespecial 3, 3) := by decide +kernel
theorem qd_X_init_4 : decode qb_X_init 4 = .ok (.aload_n 0, 1) := by decide +kernel
theorem qd_X_init_5 : decode qb_X_init 5 = .ok (.iconst 4, 1) := by decide +kernel
theorem qd_X_init_6 : decode qb_X_init 6 = .ok (.newarray .int, 2) := by decide +kernel
theorem qd_X_init_8 : decode qb_X_init 8 = .ok (.putfield 9, 3) := by decide +kernel
theorem qd_X_init_11 : decode qb_X_init 11 = .ok (.aload_n 0, 1) := by decide +kernel
theorem qd_X_init_12 : decode qb_X_init 12 = .ok (.iconst 3, 1) := by decide +kernel
theorem qd_X_init_13 : decode qb_X_init 13 = .ok (.newarray .int, 2) := by decide +kernel
theorem qd_X_init_15 : decode qb_X_init 15 = .ok (.putfield 13, 3) := by decide +kernel
theorem qd_X_init_18 : decode qb_X_init 18 = .ok (.aload_n 0, 1) := by decide +kernel
theorem qd_X_init_19 : decode qb_X_init 19 = .ok (.new 16, 3) := by decide +kernel
theorem qd_X_init_22 : decode qb_X_init 22 = .ok (.dup, 1) := by decide +kernel
theorem qd_X_init_23 : decode qb_X_init 23 = .ok (.invokespecial 18, 3) := by decide +kernel
theorem qd_X_init_26 : decode qb_X_init 26 = .ok (.putfield 19, 3) := by decide +kernel
theorem qd_X_init_29 : decode qb_X_init 29 = .ok (.aload_n 0, 1) := by decide +kernel
theorem qd_X_init_30 : decode qb_X_init 30 = .ok (.new 23, 3) := by decide +kernel
theorem qd_X_init_33 : decode qb_X_init 33 = .ok (.dup, 1) := by decide +kernel
theorem qd_X_init_34 : decode qb_X_init 34 = .ok (.invokespecial 25, 3) := by decide +kernel
theorem qd_X_init_37 : decode qb_X_init 37 = .ok (.putfield 26, 3) := by decide +kernel
theorem qd_X_init_40 : decode qb_X_init 40 = .ok (.aload_n 0, 1) := by decide +kernel
theorem qd_X_init_41 : decode qb_X_init 41 = .ok (.new 30, 3) := by decide +kernel
theorem qd_X_init_44 : decode qb_X_init 44 = .ok (.dup, 1) := by decide +kernel
theorem qd_X_init_45 : decode qb_X_init 45 = .ok (.invokespecial 32, 3) := by decide +kernel
theorem qd_X_init_48 : decode qb_X_init 48 = .ok (.putfield 33, 3) := by decide +kernel
theorem qd_X_init_51 : decode qb_X_init 51 = .ok (.aload_n 0, 1) := by decide +kernel
theorem qd_X_init_52 : decode qb_X_init 52 = .ok (.bipush 6, 2) := by decide +kernel
theorem qd_X_init_54 : decode qb_X_init 54 = .ok (.newarray .int, 2) := by decide +kernel
theorem qd_X_init_56 : decode qb_X_init 56 = .ok (.putfield 37, 3) := by decide +kernel
theorem qd_X_init_59 : decode qb_X_init 59 = .ok (.return_, 1) := by decide +kernel
theorem qd_X_table_0 : decode qb_X_table 0 = .ok (.aload_n 0, 1) := by decide +kernel
theorem qd_X_table_1 : decode qb_X_table 1 = .ok (.getfield 40, 3) := by decide +kernel
theorem qd_X_table_4 : decode qb_X_table 4 = .ok (.iconst 3, 1) := by decide +kernel
theorem qd_X_table_5 : decode qb_X_table 5 = .ok (.if_icmp .lt 6, 3) := by decide +kernel
theorem qd_X_table_8 : decode qb_X_table 8 = .ok (.bipush (-3), 2) := by decide +kernel
theorem qd_X_table_10 : decode qb_X_table 10 = .ok (.ireturn, 1) := by decide +kernel
theorem qd_X_table_11 : decode qb_X_table 11 = .ok (.aload_n 0, 1) := by decide +kernel
theorem qd_X_table_12 : decode qb_X_table 12 = .ok (.getfield 44, 3) := by decide +kernel
theorem qd_X_table_15 : decode qb_X_table 15 = .ok (.ifCond .eq 6, 3) := by decide +kernel
theorem qd_X_table_18 : decode qb_X_table 18 = .ok (.bipush (-5), 2) := by decide +kernel
theorem qd_X_table_20 : decode qb_X_table 20 = .ok (.ireturn, 1) := by decide +kernel
theorem qd_X_table_21 : decode qb_X_table 21 = .ok (.aload_n 0, 1) := by decide +kernel
theorem qd_X_table_22 : decode qb_X_table 22 = .ok (.dup, 1) := by decide +kernel
theorem qd_X_table_23 : decode qb_X_table 23 = .ok (.getfield 40, 3) := by decide +kernel
theorem qd_X_table_26 : decode qb_X_table 26 = .ok (.iconst 1, 1) := by decide +kernel
theorem qd_X_table_27 : decode qb_X_table 27 = .ok (.iadd, 1) := by decide +kernel
theorem qd_X_table_28 : decode qb_X_table 28 = .ok (.putfield 40, 3) := by decide +kernel
theorem qd_X_table_31 : decode qb_X_table 31 = .ok (.aload_n 0, 1) := by decide +kernel
theorem qd_X_table_32 : decode qb_X_table 32 = .ok (.getfield 40, 3) := by decide +kernel
theorem qd_X_table_35 : decode qb_X_table 35 = .ok (.iconst 1, 1) := by decide +kernel
theorem qd_X_table_36 : decode qb_X_table 36 = .ok (.isub, 1) := by decide +kernel
theorem qd_X_table_37 : decode qb_X_table 37 = .ok (.ireturn, 1) := by decide +kernel
theorem qd_X_rule_0 : decode qb_X_rule 0 = .ok (.iload_n 1, 1) := by decide +kernel
theorem qd_X_rule_1 : decode qb_X_rule 1 = .ok (.ifCond .lt 28, 3) := by decide +kernel
theorem qd_X_rule_4 : decode qb_X_rule 4 = .ok (.iload_n 1, 1) := by decide +kernel
theorem qd_X_rule_5 : decode qb_X_rule 5 = .ok (.iconst 4, 1) := by decide +kernel
theorem qd_X_rule_6 : decode qb_X_rule 6 = .ok (.if_icmp .ge 23, 3) := by decide +kernel
theorem qd_X_rule_9 : decode qb_X_rule 9 = .ok (.iload_n 2, 1) := by decide +kernel
theorem qd_X_rule_10 : decode qb_X_rule 10 = .ok (.ifCond .lt 19, 3) := by decide +kernel
theorem qd_X_rule_13 : decode qb_X_rule 13 = .ok (.iload_n 2, 1) := by decide +kernel
theorem qd_X_rule_14 : decode qb_X_rule 14 = .ok (.iload_n 1, 1) := by decide +kernel
theorem qd_X_rule_15 : decode qb_X_rule 15 = .ok (.iconst 3, 1) := by decide +kernel
theorem qd_X_rule_16 : decode qb_X_rule 16 = .ok (.if_icmp .ne 9, 3) := by decide +kernel
theorem qd_X_rule_19 : decode qb_X_rule 19 = .ok (.sipush 1000, 3) := by decide +kernel
theorem qd_X_rule_22 : decode qb_X_rule 22 = .ok (.goto (4), 3) := by decide +kernel
theorem qd_X_rule_25 : decode qb_X_rule 25 = .ok (.iconst 1, 1) := by decide +kernel
theorem qd_X_rule_26 : decode qb_X_rule 26 = .ok (.if_icmp .le 5, 3) := by decide +kernel
theorem qd_X_rule_29 : decode qb_X_rule 29 = .ok (.iconst (-1), 1) := by decide +kernel
theorem qd_X_rule_30 : decode qb_X_rule 30 = .ok (.ireturn, 1) := by decide +kernel
theorem qd_X_rule_31 : decode qb_X_rule 31 = .ok (.aload_n 0, 1) := by decide +kernel
theorem qd_X_rule_32 : decode qb_X_rule 32 = .ok (.getfield 44, 3) := by decide +kernel
theorem qd_X_rule_35 : decode qb_X_rule 35 = .ok (.ifCond .eq 6, 3) := by decide +kernel
theorem qd_X_rule_38 : decode qb_X_rule 38 = .ok (.bipush (-5), 2) := by decide +kernel
theorem qd_X_rule_40 : decode qb_X_rule 40 = .ok (.ireturn, 1) := by decide +kernel
theorem qd_X_rule_41 : decode qb_X_rule 41 = .ok (.aload_n 0, 1) := by decide +kernel
theorem qd_X_rule_42 : decode qb_X_rule 42 = .ok (.getfield 9, 3) := by decide +kernel
theorem qd_X_rule_45 : decode qb_X_rule 45 = .ok (.iload_n 1, 1) := by decide +kernel
theorem qd_X_rule_46 : decode qb_X_rule 46 = .ok (.iaload, 1) := by decide +kernel
theorem qd_X_rule_47 : decode qb_X_rule 47 = .ok (.istore_n 3, 1) := by decide +kernel
theorem qd_X_rule_48 : decode qb_X_rule 48 = .ok (.aload_n 0, 1) := by decide +kernel
theorem qd_X_rule_49 : decode qb_X_rule 49 = .ok (.getfield 9, 3) := by decide +kernel
theorem qd_X_rule_52 : decode qb_X_rule 52 = .ok (.iload_n 1, 1) := by decide +kernel
theorem qd_X_rule_53 : decode qb_X_rule 53 = .ok (.iload_n 2, 1) := by decide +kernel
theorem qd_X_rule_54 : decode qb_X_rule 54 = .ok (.iastore, 1) := by decide +kernel
theorem qd_X_rule_55 : decode qb_X_rule 55 = .ok (.iload_n 3, 1) := by decide +kernel
theorem qd_X_rule_56 : decode qb_X_rule 56 = .ok (.ireturn, 1) := by decide +kernel
theorem qd_X_change_0 : decode qb_X_change 0 = .ok (.aload_n 0, 1) := by decide +kernel
theorem qd_X_change_1 : decode qb_X_change 1 = .ok (.iload_n 1, 1) := by decide +kernel
theorem qd_X_change_2 : decode qb_X_change 2 = .ok (.invokevirtual 48, 3) := by decide +kernel
theorem qd_X_change_5 : decode qb_X_change 5 = .ok (.ifCond .eq 31, 3) := by decide +kernel
theorem qd_X_change_8 : decode qb_X_change 8 = .ok (.iload_n 2, 1) := by decide +kernel
theorem qd_X_change_9 : decode qb_X_change 9 = .ok (.invokestatic 52, 3) := by decide +kernel
theorem qd_X_change_12 : decode qb_X_change 12 = .ok (.ifCond .eq 24, 3) := by decide +kernel
theorem qd_X_change_15 : decode qb_X_change 15 = .ok (.iload_n 3, 1) := by decide +kernel
theorem qd_X_change_16 : decode qb_X_change 16 = .ok (.invokestatic 55, 3) := by decide +kernel
theorem qd_X_change_19 : decode qb_X_change 19 = .ok (.ifCond .eq 17, 3) := by decide +kernel
theorem qd_X_change_22 : decode qb_X_change 22 = .ok (.iload 4, 2) := by decide +kernel
theorem qd_X_change_24 : decode qb_X_change 24 = .ok (.iconst (-1), 1) := by decide +kernel
theorem qd_X_change_25 : decode qb_X_change 25 = .ok (.if_icmp .eq 13, 3) := by decide +kernel
theorem qd_X_change_28 : decode qb_X_change 28 = .ok (.iload 4, 2) := by decide +kernel
theorem qd_X_change_30 : decode qb_X_change 30 = .ok (.invokestatic 58, 3) := by decide +kernel
theorem qd_X_change_33 : decode qb_X_change 33 = .ok (.ifCond .ne 5, 3) := by decide +kernel
theorem qd_X_change_36 : decode qb_X_change 36 = .ok (.iconst (-1), 1) := by decide +kernel
theorem qd_X_change_37 : decode qb_X_change 37 = .ok (.ireturn, 1) := by decide +kernel
theorem qd_X_change_38 : decode qb_X_change 38 = .ok (.aload_n 0, 1) := by decide +kernel
theorem qd_X_change_39 : decode qb_X_change 39 = .ok (.iload_n 1, 1) := by decide +kernel
theorem qd_X_change_40 : decode qb_X_change 40 = .ok (.iload_n 3, 1) := by decide +kernel
theorem qd_X_change_41 : decode qb_X_change 41 = .ok (.invokevirtual 61, 3) := by decide +kernel
theorem qd_X_change_44 : decode qb_X_change 44 = .ok (.ifCond .eq 16, 3) := by decide +kernel
theorem qd_X_change_47 : decode qb_X_change 47 = .ok (.aload_n 0, 1) := by decide +kernel
theorem qd_X_change_48 : decode qb_X_change 48 = .ok (.dup, 1) := by decide +kernel
theorem qd_X_change_49 : decode qb_X_change 49 = .ok (.getfield 65, 3) := by decide +kernel
theorem qd_X_change_52 : decode qb_X_change 52 = .ok (.iconst 1, 1) := by decide +kernel
theorem qd_X_change_53 : decode qb_X_change 53 = .ok (.iadd, 1) := by decide +kernel
theorem qd_X_change_54 : decode qb_X_change 54 = .ok (.putfield 65, 3) := by decide +kernel
theorem qd_X_change_57 : decode qb_X_change 57 = .ok (.bipush (-4), 2) := by decide +kernel
theorem qd_X_change_59 : decode qb_X_change 59 = .ok (.ireturn, 1) := by decide +kernel
theorem qd_X_change_60 : decode qb_X_change 60 = .ok (.aload_n 0, 1) := by decide +kernel
theorem qd_X_change_61 : decode qb_X_change 61 = .ok (.getfield 19, 3) := by decide +kernel
theorem qd_X_change_64 : decode qb_X_change 64 = .ok (.invokevirtual 68, 3) := by decide +kernel
theorem qd_X_change_67 : decode qb_X_change 67 = .ok (.sipush 160, 3) := by decide +kernel
theorem qd_X_change_70 : decode qb_X_change 70 = .ok (.if_icmp .lt 6, 3) := by decide +kernel
theorem qd_X_change_73 : decode qb_X_change 73 = .ok (.bipush (-3), 2) := by decide +kernel
theorem qd_X_change_75 : decode qb_X_change 75 = .ok (.ireturn, 1) := by decide +kernel
theorem qd_X_change_76 : decode qb_X_change 76 = .ok (.aload_n 0, 1) := by decide +kernel
theorem qd_X_change_77 : decode qb_X_change 77 = .ok (.invokevirtual 72, 3) := by decide +kernel
theorem qd_X_change_80 : decode qb_X_change 80 = .ok (.iload_n 1, 1) := by decide +kernel
theorem qd_X_change_81 : decode qb_X_change 81 = .ok (.iload_n 2, 1) := by decide +kernel
theorem qd_X_change_82 : decode qb_X_change 82 = .ok (.invokestatic 75, 3) := by decide +kernel
theorem qd_X_change_85 : decode qb_X_change 85 = .ok (.istore 5, 2) := by decide +kernel
theorem qd_X_change_87 : decode qb_X_change 87 = .ok (.aload_n 0, 1) := by decide +kernel
theorem qd_X_change_88 : decode qb_X_change 88 = .ok (.getfield 19, 3) := by decide +kernel
theorem qd_X_change_91 : decode qb_X_change 91 = .ok (.iload 5, 2) := by decide +kernel
theorem qd_X_change_93 : decode qb_X_change 93 = .ok (.iload_n 3, 1) := by decide +kernel
theorem qd_X_change_94 : decode qb_X_change 94 = .ok (.iload 4, 2) := by decide +kernel
theorem qd_X_change_96 : decode qb_X_change 96 = .ok (.invokevirtual 79, 3) := by decide +kernel
theorem qd_X_change_99 : decode qb_X_change 99 = .ok (.aload_n 0, 1) := by decide +kernel
theorem qd_X_change_100 : decode qb_X_change 100 = .ok (.iload_n 2, 1) := by decide +kernel
theorem qd_X_change_101 : decode qb_X_change 101 = .ok (.invokevirtual 83, 3) := by decide +kernel
theorem qd_X_change_104 : decode qb_X_change 104 = .ok (.aload_n 0, 1) := by decide +kernel
theorem qd_X_change_105 : decode qb_X_change 105 = .ok (.getfield 19, 3) := by decide +kernel
theorem qd_X_change_108 : decode qb_X_change 108 = .ok (.iload 5, 2) := by decide +kernel
theorem qd_X_change_110 : decode qb_X_change 110 = .ok (.invokevirtual 87, 3) := by decide +kernel
theorem qd_X_change_113 : decode qb_X_change 113 = .ok (.ireturn, 1) := by decide +kernel
theorem qd_X_row_0 : decode qb_X_row 0 = .ok (.iload_n 1, 1) := by decide +kernel
theorem qd_X_row_1 : decode qb_X_row 1 = .ok (.invokestatic 52, 3) := by decide +kernel
theorem qd_X_row_4 : decode qb_X_row 4 = .ok (.ifCond .eq 24, 3) := by decide +kernel
theorem qd_X_row_7 : decode qb_X_row 7 = .ok (.iload_n 2, 1) := by decide +kernel
theorem qd_X_row_8 : decode qb_X_row 8 = .ok (.invokestatic 55, 3) := by decide +kernel
theorem qd_X_row_11 : decode qb_X_row 11 = .ok (.ifCond .eq 17, 3) := by decide +kernel
theorem qd_X_row_14 : decode qb_X_row 14 = .ok (.iload_n 3, 1) := by decide +kernel
theorem qd_X_row_15 : decode qb_X_row 15 = .ok (.invokestatic 58, 3) := by decide +kernel
theorem qd_X_row_18 : decode qb_X_row 18 = .ok (.ifCond .eq 10, 3) := by decide +kernel
theorem qd_X_row_21 : decode qb_X_row 21 = .ok (.aload_n 0, 1) := by decide +kernel
theorem qd_X_row_22 : decode qb_X_row 22 = .ok (.getfield 40, 3) := by decide +kernel
theorem qd_X_row_25 : decode qb_X_row 25 = .ok (.ifCond .ne 5, 3) := by decide +kernel
theorem qd_X_row_28 : decode qb_X_row 28 = .ok (.iconst (-1), 1) := by decide +kernel
theorem qd_X_row_29 : decode qb_X_row 29 = .ok (.ireturn, 1) := by decide +kernel
theorem qd_X_row_30 : decode qb_X_row 30 = .ok (.iload_n 2, 1) := by decide +kernel
theorem qd_X_row_31 : decode qb_X_row 31 = .ok (.aload_n 0, 1) := by decide +kernel
theorem qd_X_row_32 : decode qb_X_row 32 = .ok (.getfield 91, 3) := by decide +kernel
theorem qd_X_row_35 : decode qb_X_row 35 = .ok (.if_icmp .gt 16, 3) := by decide +kernel
theorem qd_X_row_38 : decode qb_X_row 38 = .ok (.aload_n 0, 1) := by decide +kernel
theorem qd_X_row_39 : decode qb_X_row 39 = .ok (.dup, 1) := by decide +kernel
theorem qd_X_row_40 : decode qb_X_row 40 = .ok (.getfield 65, 3) := by decide +kernel
theorem qd_X_row_43 : decode qb_X_row 43 = .ok (.iconst 1, 1) := by decide +kernel
theorem qd_X_row_44 : decode qb_X_row 44 = .ok (.iadd, 1) := by decide +kernel
theorem qd_X_row_45 : decode qb_X_row 45 = .ok (.putfield 65, 3) := by decide +kernel
theorem qd_X_row_48 : decode qb_X_row 48 = .ok (.bipush (-4), 2) := by decide +kernel
theorem qd_X_row_50 : decode qb_X_row 50 = .ok (.ireturn, 1) := by decide +kernel
theorem qd_X_row_51 : decode qb_X_row 51 = .ok (.aload_n 0, 1) := by decide +kernel
theorem qd_X_row_52 : decode qb_X_row 52 = .ok (.getfield 26, 3) := by decide +kernel
theorem qd_X_row_55 : decode qb_X_row 55 = .ok (.invokevirtual 94, 3) := by decide +kernel
theorem qd_X_row_58 : decode qb_X_row 58 = .ok (.bipush 96, 2) := by decide +kernel
theorem qd_X_row_60 : decode qb_X_row 60 = .ok (.if_icmp .ge 13, 3) := by decide +kernel
theorem qd_X_row_63 : decode qb_X_row 63 = .ok (.aload_n 0, 1) := by decide +kernel
theorem qd_X_row_64 : decode qb_X_row 64 = .ok (.getfield 95, 3) := by decide +kernel
theorem qd_X_row_67 : decode qb_X_row 67 = .ok (.sipush 30000, 3) := by decide +kernel
theorem qd_X_row_70 : decode qb_X_row 70 = .ok (.if_icmp .lt 6, 3) := by decide +kernel
theorem qd_X_row_73 : decode qb_X_row 73 = .ok (.bipush (-3), 2) := by decide +kernel
theorem qd_X_row_75 : decode qb_X_row 75 = .ok (.ireturn, 1) := by decide +kernel
theorem qd_X_row_76 : decode qb_X_row 76 = .ok (.aload_n 0, 1) := by decide +kernel
theorem qd_X_row_77 : decode qb_X_row 77 = .ok (.invokevirtual 72, 3) := by decide +kernel
theorem qd_X_row_80 : decode qb_X_row 80 = .ok (.aload_n 0, 1) := by decide +kernel
theorem qd_X_row_81 : decode qb_X_row 81 = .ok (.getfield 95, 3) := by decide +kernel
theorem qd_X_row_84 : decode qb_X_row 84 = .ok (.istore 4, 2) := by decide +kernel
theorem qd_X_row_86 : decode qb_X_row 86 = .ok (.aload_n 0, 1) := by decide +kernel
theorem qd_X_row_87 : decode qb_X_row 87 = .ok (.dup, 1) := by decide +kernel
theorem qd_X_row_88 : decode qb_X_row 88 = .ok (.getfield 95, 3) := by decide +kernel
theorem qd_X_row_91 : decode qb_X_row 91 = .ok (.iconst 1, 1) := by decide +kernel
theorem qd_X_row_92 : decode qb_X_row 92 = .ok (.iadd, 1) := by decide +kernel
theorem qd_X_row_93 : decode qb_X_row 93 = .ok (.putfield 95, 3) := by decide +kernel
theorem qd_X_row_96 : decode qb_X_row 96 = .ok (.aload_n 0, 1) := by decide +kernel
theorem qd_X_row_97 : decode qb_X_row 97 = .ok (.getfield 26, 3) := by decide +kernel
theorem qd_X_row_100 : decode qb_X_row 100 = .ok (.iload 4, 2) := by decide +kernel
theorem qd_X_row_102 : decode qb_X_row 102 = .ok (.iload_n 1, 1) := by decide +kernel
theorem qd_X_row_103 : decode qb_X_row 103 = .ok (.iload_n 2, 1) := by decide +kernel
theorem qd_X_row_104 : decode qb_X_row 104 = .ok (.iload_n 3, 1) := by decide +kernel
theorem qd_X_row_105 : decode qb_X_row 105 = .ok (.invokevirtual 98, 3) := by decide +kernel
theorem qd_X_row_108 : decode qb_X_row 108 = .ok (.aload_n 0, 1) := by decide +kernel
theorem qd_X_row_109 : decode qb_X_row 109 = .ok (.invokevirtual 102, 3) := by decide +kernel
theorem qd_X_row_112 : decode qb_X_row 112 = .ok (.iload 4, 2) := by decide +kernel
theorem qd_X_row_114 : decode qb_X_row 114 = .ok (.ireturn, 1) := by decide +kernel
theorem qd_X_mark_0 : decode qb_X_mark 0 = .ok (.iload_n 1, 1) := by decide +kernel
theorem qd_X_mark_1 : decode qb_X_mark 1 = .ok (.iconst (-1), 1) := by decide +kernel
theorem qd_X_mark_2 : decode qb_X_mark 2 = .ok (.if_icmp .eq 11, 3) := by decide +kernel
theorem qd_X_mark_5 : decode qb_X_mark 5 = .ok (.aload_n 0, 1) := by decide +kernel
theorem qd_X_mark_6 : decode qb_X_mark 6 = .ok (.iload_n 1, 1) := by decide +kernel
theorem qd_X_mark_7 : decode qb_X_mark 7 = .ok (.invokevirtual 48, 3) := by decide +kernel
theorem qd_X_mark_10 : decode qb_X_mark 10 = .ok (.ifCond .eq 13, 3) := by decide +kernel
theorem qd_X_mark_13 : decode qb_X_mark 13 = .ok (.iload_n 2, 1) := by decide +kernel
theorem qd_X_mark_14 : decode qb_X_mark 14 = .ok (.ifCond .lt 9, 3) := by decide +kernel
theorem qd_X_mark_17 : decode qb_X_mark 17 = .ok (.iload_n 2, 1) := by decide +kernel
theorem qd_X_mark_18 : decode qb_X_mark 18 = .ok (.ldc 105, 2) := by decide +kernel
theorem qd_X_mark_20 : decode qb_X_mark 20 = .ok (.if_icmp .le 5, 3) := by decide +kernel
theorem qd_X_mark_23 : decode qb_X_mark 23 = .ok (.iconst (-1), 1) := by decide +kernel
theorem qd_X_mark_24 : decode qb_X_mark 24 = .ok (.ireturn, 1) := by decide +kernel
theorem qd_X_mark_25 : decode qb_X_mark 25 = .ok (.aload_n 0, 1) := by decide +kernel
theorem qd_X_mark_26 : decode qb_X_mark 26 = .ok (.iload_n 1, 1) := by decide +kernel
theorem qd_X_mark_27 : decode qb_X_mark 27 = .ok (.invokevirtual 48, 3) := by decide +kernel
theorem qd_X_mark_30 : decode qb_X_mark 30 = .ok (.ifCond .eq 12, 3) := by decide +kernel
theorem qd_X_mark_33 : decode qb_X_mark 33 = .ok (.aload_n 0, 1) := by decide +kernel
theorem qd_X_mark_34 : decode qb_X_mark 34 = .ok (.getfield 13, 3) := by decide +kernel
theorem qd_X_mark_37 : decode qb_X_mark 37 = .ok (.iload_n 1, 1) := by decide +kernel
theorem qd_X_mark_38 : decode qb_X_mark 38 = .ok (.iaload, 1) := by decide +kernel
theorem qd_X_mark_39 : decode qb_X_mark 39 = .ok (.goto (7), 3) := by decide +kernel
theorem qd_X_mark_42 : decode qb_X_mark 42 = .ok (.aload_n 0, 1) := by decide +kernel
theorem qd_X_mark_43 : decode qb_X_mark 43 = .ok (.getfield 91, 3) := by decide +kernel
theorem qd_X_mark_46 : decode qb_X_mark 46 = .ok (.istore_n 3, 1) := by decide +kernel
theorem qd_X_mark_47 : decode qb_X_mark 47 = .ok (.iload_n 2, 1) := by decide +kernel
theorem qd_X_mark_48 : decode qb_X_mark 48 = .ok (.iload_n 3, 1) := by decide +kernel
theorem qd_X_mark_49 : decode qb_X_mark 49 = .ok (.if_icmp .gt 6, 3) := by decide +kernel
theorem qd_X_mark_52 : decode qb_X_mark 52 = .ok (.bipush (-2), 2) := by decide +kernel
theorem qd_X_mark_54 : decode qb_X_mark 54 = .ok (.ireturn, 1) := by decide +kernel
theorem qd_X_mark_55 : decode qb_X_mark 55 = .ok (.aload_n 0, 1) := by decide +kernel
theorem qd_X_mark_56 : decode qb_X_mark 56 = .ok (.invokevirtual 72, 3) := by decide +kernel
theorem qd_X_mark_59 : decode qb_X_mark 59 = .ok (.aload_n 0, 1) := by decide +kernel
theorem qd_X_mark_60 : decode qb_X_mark 60 = .ok (.iload_n 1, 1) := by decide +kernel
theorem qd_X_mark_61 : decode qb_X_mark 61 = .ok (.invokevirtual 48, 3) := by decide +kernel
theorem qd_X_mark_64 : decode qb_X_mark 64 = .ok (.ifCond .eq 13, 3) := by decide +kernel
theorem qd_X_mark_67 : decode qb_X_mark 67 = .ok (.aload_n 0, 1) := by decide +kernel
theorem qd_X_mark_68 : decode qb_X_mark 68 = .ok (.getfield 13, 3) := by decide +kernel
theorem qd_X_mark_71 : decode qb_X_mark 71 = .ok (.iload_n 1, 1) := by decide +kernel
theorem qd_X_mark_72 : decode qb_X_mark 72 = .ok (.iload_n 2, 1) := by decide +kernel
theorem qd_X_mark_73 : decode qb_X_mark 73 = .ok (.iastore, 1) := by decide +kernel
theorem qd_X_mark_74 : decode qb_X_mark 74 = .ok (.goto (8), 3) := by decide +kernel
theorem qd_X_mark_77 : decode qb_X_mark 77 = .ok (.aload_n 0, 1) := by decide +kernel
theorem qd_X_mark_78 : decode qb_X_mark 78 = .ok (.iload_n 2, 1) := by decide +kernel
theorem qd_X_mark_79 : decode qb_X_mark 79 = .ok (.putfield 91, 3) := by decide +kernel
theorem qd_X_mark_82 : decode qb_X_mark 82 = .ok (.aload_n 0, 1) := by decide +kernel
theorem qd_X_mark_83 : decode qb_X_mark 83 = .ok (.invokevirtual 102, 3) := by decide +kernel
theorem qd_X_mark_86 : decode qb_X_mark 86 = .ok (.aload_n 0, 1) := by decide +kernel
theorem qd_X_mark_87 : decode qb_X_mark 87 = .ok (.dup, 1) := by decide +kernel
theorem qd_X_mark_88 : decode qb_X_mark 88 = .ok (.getfield 106, 3) := by decide +kernel
theorem qd_X_mark_91 : decode qb_X_mark 91 = .ok (.aload_n 0, 1) := by decide +kernel
theorem qd_X_mark_92 : decode qb_X_mark 92 = .ok (.getfield 26, 3) := by decide +kernel
theorem qd_X_mark_95 : decode qb_X_mark 95 = .ok (.aload_n 0, 1) := by decide +kernel
theorem qd_X_mark_96 : decode qb_X_mark 96 = .ok (.invokevirtual 109, 3) := by decide +kernel
theorem qd_X_mark_99 : decode qb_X_mark 99 = .ok (.invokevirtual 112, 3) := by decide +kernel
theorem qd_X_mark_102 : decode qb_X_mark 102 = .ok (.iadd, 1) := by decide +kernel
theorem qd_X_mark_103 : decode qb_X_mark 103 = .ok (.putfield 106, 3) := by decide +kernel
theorem qd_X_mark_106 : decode qb_X_mark 106 = .ok (.aload_n 0, 1) := by decide +kernel
theorem qd_X_mark_107 : decode qb_X_mark 107 = .ok (.invokevirtual 115, 3) := by decide +kernel
theorem qd_X_mark_110 : decode qb_X_mark 110 = .ok (.iload_n 3, 1) := by decide +kernel
theorem qd_X_mark_111 : decode qb_X_mark 111 = .ok (.ireturn, 1) := by decide +kernel
theorem qd_X_out_0 : decode qb_X_out 0 = .ok (.iload_n 1, 1) := by decide +kernel
theorem qd_X_out_1 : decode qb_X_out 1 = .ok (.iconst (-1), 1) := by decide +kernel
theorem qd_X_out_2 : decode qb_X_out 2 = .ok (.if_icmp .ne 11, 3) := by decide +kernel
theorem qd_X_out_5 : decode qb_X_out 5 = .ok (.aload_n 0, 1) := by decide +kernel
theorem qd_X_out_6 : decode qb_X_out 6 = .ok (.getfield 33, 3) := by decide +kernel
theorem qd_X_out_9 : decode qb_X_out 9 = .ok (.invokevirtual 118, 3) := by decide +kernel
theorem qd_X_out_12 : decode qb_X_out 12 = .ok (.ireturn, 1) := by decide +kernel
theorem qd_X_out_13 : decode qb_X_out 13 = .ok (.iload_n 1, 1) := by decide +kernel
theorem qd_X_out_14 : decode qb_X_out 14 = .ok (.ifCond .lt 30, 3) := by decide +kernel
theorem qd_X_out_17 : decode qb_X_out 17 = .ok (.iload_n 1, 1) := by decide +kernel
theorem qd_X_out_18 : decode qb_X_out 18 = .ok (.aload_n 0, 1) := by decide +kernel
theorem qd_X_out_19 : decode qb_X_out 19 = .ok (.getfield 33, 3) := by decide +kernel
theorem qd_X_out_22 : decode qb_X_out 22 = .ok (.invokevirtual 118, 3) := by decide +kernel
theorem qd_X_out_25 : decode qb_X_out 25 = .ok (.if_icmp .ge 19, 3) := by decide +kernel
theorem qd_X_out_28 : decode qb_X_out 28 = .ok (.iload_n 2, 1) := by decide +kernel
theorem qd_X_out_29 : decode qb_X_out 29 = .ok (.ifCond .lt 15, 3) := by decide +kernel
theorem qd_X_out_32 : decode qb_X_out 32 = .ok (.iload_n 2, 1) := by decide +kernel
theorem qd_X_out_33 : decode qb_X_out 33 = .ok (.iconst 5, 1) := by decide +kernel
theorem qd_X_out_34 : decode qb_X_out 34 = .ok (.iconst 2, 1) := by decide +kernel
theorem qd_X_out_35 : decode qb_X_out 35 = .ok (.aload_n 0, 1) := by decide +kernel
theorem qd_X_out_36 : decode qb_X_out 36 = .ok (.getfield 40, 3) := by decide +kernel
theorem qd_X_out_39 : decode qb_X_out 39 = .ok (.imul, 1) := by decide +kernel
theorem qd_X_out_40 : decode qb_X_out 40 = .ok (.iadd, 1) := by decide +kernel
theorem qd_X_out_41 : decode qb_X_out 41 = .ok (.if_icmp .lt 5, 3) := by decide +kernel
theorem qd_X_out_44 : decode qb_X_out 44 = .ok (.iconst (-1), 1) := by decide +kernel
theorem qd_X_out_45 : decode qb_X_out 45 = .ok (.ireturn, 1) := by decide +kernel
theorem qd_X_out_46 : decode qb_X_out 46 = .ok (.aload_n 0, 1) := by decide +kernel
theorem qd_X_out_47 : decode qb_X_out 47 = .ok (.getfield 33, 3) := by decide +kernel
theorem qd_X_out_50 : decode qb_X_out 50 = .ok (.iload_n 1, 1) := by decide +kernel
theorem qd_X_out_51 : decode qb_X_out 51 = .ok (.iload_n 2, 1) := by decide +kernel
theorem qd_X_out_52 : decode qb_X_out 52 = .ok (.invokevirtual 119, 3) := by decide +kernel
theorem qd_X_out_55 : decode qb_X_out 55 = .ok (.ireturn, 1) := by decide +kernel
theorem qd_X_asOf_0 : decode qb_X_asOf 0 = .ok (.aload_n 0, 1) := by decide +kernel
theorem qd_X_asOf_1 : decode qb_X_asOf 1 = .ok (.iload_n 1, 1) := by decide +kernel
theorem qd_X_asOf_2 : decode qb_X_asOf 2 = .ok (.invokevirtual 48, 3) := by decide +kernel
theorem qd_X_asOf_5 : decode qb_X_asOf 5 = .ok (.ifCond .eq 17, 3) := by decide +kernel
theorem qd_X_asOf_8 : decode qb_X_asOf 8 = .ok (.iload_n 2, 1) := by decide +kernel
theorem qd_X_asOf_9 : decode qb_X_asOf 9 = .ok (.invokestatic 52, 3) := by decide +kernel
theorem qd_X_asOf_12 : decode qb_X_asOf 12 = .ok (.ifCond .eq 10, 3) := by decide +kernel
theorem qd_X_asOf_15 : decode qb_X_asOf 15 = .ok (.iload_n 3, 1) := by decide +kernel
theorem qd_X_asOf_16 : decode qb_X_asOf 16 = .ok (.invokestatic 55, 3) := by decide +kernel
theorem qd_X_asOf_19 : decode qb_X_asOf 19 = .ok (.ifCond .ne 5, 3) := by decide +kernel
theorem qd_X_asOf_22 : decode qb_X_asOf 22 = .ok (.iconst (-1), 1) := by decide +kernel
theorem qd_X_asOf_23 : decode qb_X_asOf 23 = .ok (.ireturn, 1) := by decide +kernel
theorem qd_X_asOf_24 : decode qb_X_asOf 24 = .ok (.aload_n 0, 1) := by decide +kernel
theorem qd_X_asOf_25 : decode qb_X_asOf 25 = .ok (.getfield 19, 3) := by decide +kernel
theorem qd_X_asOf_28 : decode qb_X_asOf 28 = .ok (.iload_n 1, 1) := by decide +kernel
theorem qd_X_asOf_29 : decode qb_X_asOf 29 = .ok (.iload_n 2, 1) := by decide +kernel
theorem qd_X_asOf_30 : decode qb_X_asOf 30 = .ok (.invokestatic 75, 3) := by decide +kernel
theorem qd_X_asOf_33 : decode qb_X_asOf 33 = .ok (.iload_n 3, 1) := by decide +kernel
theorem qd_X_asOf_34 : decode qb_X_asOf 34 = .ok (.aload_n 0, 1) := by decide +kernel
theorem qd_X_asOf_35 : decode qb_X_asOf 35 = .ok (.getfield 9, 3) := by decide +kernel
theorem qd_X_asOf_38 : decode qb_X_asOf 38 = .ok (.iconst 0, 1) := by decide +kernel
theorem qd_X_asOf_39 : decode qb_X_asOf 39 = .ok (.iaload, 1) := by decide +kernel
theorem qd_X_asOf_40 : decode qb_X_asOf 40 = .ok (.isub, 1) := by decide +kernel
theorem qd_X_asOf_41 : decode qb_X_asOf 41 = .ok (.invokevirtual 122, 3) := by decide +kernel
theorem qd_X_asOf_44 : decode qb_X_asOf 44 = .ok (.istore 4, 2) := by decide +kernel
theorem qd_X_asOf_46 : decode qb_X_asOf 46 = .ok (.iload 4, 2) := by decide +kernel
theorem qd_X_asOf_48 : decode qb_X_asOf 48 = .ok (.ifCond .ge 8, 3) := by decide +kernel
theorem qd_X_asOf_51 : decode qb_X_asOf 51 = .ok (.bipush (-2), 2) := by decide +kernel
theorem qd_X_asOf_53 : decode qb_X_asOf 53 = .ok (.goto (13), 3) := by decide +kernel
theorem qd_X_asOf_56 : decode qb_X_asOf 56 = .ok (.aload_n 0, 1) := by decide +kernel
theorem qd_X_asOf_57 : decode qb_X_asOf 57 = .ok (.getfield 19, 3) := by decide +kernel
theorem qd_X_asOf_60 : decode qb_X_asOf 60 = .ok (.iload 4, 2) := by decide +kernel
theorem qd_X_asOf_62 : decode qb_X_asOf 62 = .ok (.iconst 1, 1) := by decide +kernel
theorem qd_X_asOf_63 : decode qb_X_asOf 63 = .ok (.invokevirtual 125, 3) := by decide +kernel
theorem qd_X_asOf_66 : decode qb_X_asOf 66 = .ok (.ireturn, 1) := by decide +kernel
theorem qd_X_version_0 : decode qb_X_version 0 = .ok (.aload_n 0, 1) := by decide +kernel
theorem qd_X_version_1 : decode qb_X_version 1 = .ok (.iload_n 1, 1) := by decide +kernel
theorem qd_X_version_2 : decode qb_X_version 2 = .ok (.invokevirtual 48, 3) := by decide +kernel
theorem qd_X_version_5 : decode qb_X_version 5 = .ok (.ifCond .eq 21, 3) := by decide +kernel
theorem qd_X_version_8 : decode qb_X_version 8 = .ok (.iload_n 2, 1) := by decide +kernel
theorem qd_X_version_9 : decode qb_X_version 9 = .ok (.invokestatic 52, 3) := by decide +kernel
theorem qd_X_version_12 : decode qb_X_version 12 = .ok (.ifCond .eq 14, 3) := by decide +kernel
theorem qd_X_version_15 : decode qb_X_version 15 = .ok (.iload 4, 2) := by decide +kernel
theorem qd_X_version_17 : decode qb_X_version 17 = .ok (.ifCond .eq 11, 3) := by decide +kernel
theorem qd_X_version_20 : decode qb_X_version 20 = .ok (.iload 4, 2) := by decide +kernel
theorem qd_X_version_22 : decode qb_X_version 22 = .ok (.iconst 1, 1) := by decide +kernel
theorem qd_X_version_23 : decode qb_X_version 23 = .ok (.if_icmp .eq 5, 3) := by decide +kernel
theorem qd_X_version_26 : decode qb_X_version 26 = .ok (.iconst (-1), 1) := by decide +kernel
theorem qd_X_version_27 : decode qb_X_version 27 = .ok (.ireturn, 1) := by decide +kernel
theorem qd_X_version_28 : decode qb_X_version 28 = .ok (.iload_n 1, 1) := by decide +kernel
theorem qd_X_version_29 : decode qb_X_version 29 = .ok (.iload_n 2, 1) := by decide +kernel
theorem qd_X_version_30 : decode qb_X_version 30 = .ok (.invokestatic 75, 3) := by decide +kernel
theorem qd_X_version_33 : decode qb_X_version 33 = .ok (.istore 5, 2) := by decide +kernel
theorem qd_X_version_35 : decode qb_X_version 35 = .ok (.iload_n 3, 1) := by decide +kernel
theorem qd_X_version_36 : decode qb_X_version 36 = .ok (.ifCond .lt 16, 3) := by decide +kernel
theorem qd_X_version_39 : decode qb_X_version 39 = .ok (.iload_n 3, 1) := by decide +kernel
theorem qd_X_version_40 : decode qb_X_version 40 = .ok (.aload_n 0, 1) := by decide +kernel
theorem qd_X_version_41 : decode qb_X_version 41 = .ok (.getfield 19, 3) := by decide +kernel
theorem qd_X_version_44 : decode qb_X_version 44 = .ok (.iload 5, 2) := by decide +kernel
theorem qd_X_version_46 : decode qb_X_version 46 = .ok (.invokevirtual 87, 3) := by decide +kernel
theorem qd_X_version_49 : decode qb_X_version 49 = .ok (.if_icmp .lt 5, 3) := by decide +kernel
theorem qd_X_version_52 : decode qb_X_version 52 = .ok (.iconst (-1), 1) := by decide +kernel
theorem qd_X_version_53 : decode qb_X_version 53 = .ok (.ireturn, 1) := by decide +kernel
theorem qd_X_version_54 : decode qb_X_version 54 = .ok (.aload_n 0, 1) := by decide +kernel
theorem qd_X_version_55 : decode qb_X_version 55 = .ok (.getfield 19, 3) := by decide +kernel
theorem qd_X_version_58 : decode qb_X_version 58 = .ok (.aload_n 0, 1) := by decide +kernel
theorem qd_X_version_59 : decode qb_X_version 59 = .ok (.getfield 19, 3) := by decide +kernel
theorem qd_X_version_62 : decode qb_X_version 62 = .ok (.iload 5, 2) := by decide +kernel
theorem qd_X_version_64 : decode qb_X_version 64 = .ok (.invokevirtual 126, 3) := by decide +kernel
theorem qd_X_version_67 : decode qb_X_version 67 = .ok (.iload_n 3, 1) := by decide +kernel
theorem qd_X_version_68 : decode qb_X_version 68 = .ok (.iadd, 1) := by decide +kernel
theorem qd_X_version_69 : decode qb_X_version 69 = .ok (.iload 4, 2) := by decide +kernel
theorem qd_X_version_71 : decode qb_X_version 71 = .ok (.invokevirtual 125, 3) := by decide +kernel
theorem qd_X_version_74 : decode qb_X_version 74 = .ok (.ireturn, 1) := by decide +kernel
theorem qd_X_there_0 : decode qb_X_there 0 = .ok (.iload_n 1, 1) := by decide +kernel
theorem qd_X_there_1 : decode qb_X_there 1 = .ok (.ifCond .lt 24, 3) := by decide +kernel
theorem qd_X_there_4 : decode qb_X_there 4 = .ok (.iload_n 1, 1) := by decide +kernel
theorem qd_X_there_5 : decode qb_X_there 5 = .ok (.aload_n 0, 1) := by decide +kernel
theorem qd_X_there_6 : decode qb_X_there 6 = .ok (.getfield 26, 3) := by decide +kernel
theorem qd_X_there_9 : decode qb_X_there 9 = .ok (.invokevirtual 94, 3) := by decide +kernel
theorem qd_X_there_12 : decode qb_X_there 12 = .ok (.if_icmp .ge 13, 3) := by decide +kernel
theorem qd_X_there_15 : decode qb_X_there 15 = .ok (.iload_n 2, 1) := by decide +kernel
theorem qd_X_there_16 : decode qb_X_there 16 = .ok (.ifCond .lt 9, 3) := by decide +kernel
theorem qd_X_there_19 : decode qb_X_there 19 = .ok (.iload_n 2, 1) := by decide +kernel
theorem qd_X_there_20 : decode qb_X_there 20 = .ok (.bipush 6, 2) := by decide +kernel
theorem qd_X_there_22 : decode qb_X_there 22 = .ok (.if_icmp .lt 5, 3) := by decide +kernel
theorem qd_X_there_25 : decode qb_X_there 25 = .ok (.iconst (-1), 1) := by decide +kernel
theorem qd_X_there_26 : decode qb_X_there 26 = .ok (.ireturn, 1) := by decide +kernel
theorem qd_X_there_27 : decode qb_X_there 27 = .ok (.aload_n 0, 1) := by decide +kernel
theorem qd_X_there_28 : decode qb_X_there 28 = .ok (.getfield 26, 3) := by decide +kernel
theorem qd_X_there_31 : decode qb_X_there 31 = .ok (.iload_n 1, 1) := by decide +kernel
theorem qd_X_there_32 : decode qb_X_there 32 = .ok (.iload_n 2, 1) := by decide +kernel
theorem qd_X_there_33 : decode qb_X_there 33 = .ok (.invokevirtual 129, 3) := by decide +kernel
theorem qd_X_there_36 : decode qb_X_there 36 = .ok (.ireturn, 1) := by decide +kernel
theorem qd_X_count_0 : decode qb_X_count 0 = .ok (.iload_n 1, 1) := by decide +kernel
theorem qd_X_count_1 : decode qb_X_count 1 = .ok (.tableswitch 203 0 17 #[87, 92, 100, 108, 116, 121, 129, 137, 142, 147, 152, 157, 163, 169, 175, 182, 189, 196], 87) := by decide +kernel
theorem qd_X_count_88 : decode qb_X_count 88 = .ok (.aload_n 0, 1) := by decide +kernel
theorem qd_X_count_89 : decode qb_X_count 89 = .ok (.getfield 40, 3) := by decide +kernel
theorem qd_X_count_92 : decode qb_X_count 92 = .ok (.ireturn, 1) := by decide +kernel
theorem qd_X_count_93 : decode qb_X_count 93 = .ok (.aload_n 0, 1) := by decide +kernel
theorem qd_X_count_94 : decode qb_X_count 94 = .ok (.getfield 19, 3) := by decide +kernel
theorem qd_X_count_97 : decode qb_X_count 97 = .ok (.invokevirtual 68, 3) := by decide +kernel
theorem qd_X_count_100 : decode qb_X_count 100 = .ok (.ireturn, 1) := by decide +kernel
theorem qd_X_count_101 : decode qb_X_count 101 = .ok (.aload_n 0, 1) := by decide +kernel
theorem qd_X_count_102 : decode qb_X_count 102 = .ok (.getfield 26, 3) := by decide +kernel
theorem qd_X_count_105 : decode qb_X_count 105 = .ok (.invokevirtual 94, 3) := by decide +kernel
theorem qd_X_count_108 : decode qb_X_count 108 = .ok (.ireturn, 1) := by decide +kernel
theorem qd_X_count_109 : decode qb_X_count 109 = .ok (.aload_n 0, 1) := by decide +kernel
theorem qd_X_count_110 : decode qb_X_count 110 = .ok (.getfield 26, 3) := by decide +kernel
theorem qd_X_count_113 : decode qb_X_count 113 = .ok (.invokevirtual 130, 3) := by decide +kernel
theorem qd_X_count_116 : decode qb_X_count 116 = .ok (.ireturn, 1) := by decide +kernel
theorem qd_X_count_117 : decode qb_X_count 117 = .ok (.aload_n 0, 1) := by decide +kernel
theorem qd_X_count_118 : decode qb_X_count 118 = .ok (.getfield 95, 3) := by decide +kernel
theorem qd_X_count_121 : decode qb_X_count 121 = .ok (.ireturn, 1) := by decide +kernel
theorem qd_X_count_122 : decode qb_X_count 122 = .ok (.aload_n 0, 1) := by decide +kernel
theorem qd_X_count_123 : decode qb_X_count 123 = .ok (.getfield 33, 3) := by decide +kernel
theorem qd_X_count_126 : decode qb_X_count 126 = .ok (.getfield 133, 3) := by decide +kernel
theorem qd_X_count_129 : decode qb_X_count 129 = .ok (.ireturn, 1) := by decide +kernel
theorem qd_X_count_130 : decode qb_X_count 130 = .ok (.aload_n 0, 1) := by decide +kernel
theorem qd_X_count_131 : decode qb_X_count 131 = .ok (.getfield 33, 3) := by decide +kernel
theorem qd_X_count_134 : decode qb_X_count 134 = .ok (.getfield 136, 3) := by decide +kernel
theorem qd_X_count_137 : decode qb_X_count 137 = .ok (.ireturn, 1) := by decide +kernel
theorem qd_X_count_138 : decode qb_X_count 138 = .ok (.aload_n 0, 1) := by decide +kernel
theorem qd_X_count_139 : decode qb_X_count 139 = .ok (.getfield 106, 3) := by decide +kernel
theorem qd_X_count_142 : decode qb_X_count 142 = .ok (.ireturn, 1) := by decide +kernel
theorem qd_X_count_143 : decode qb_X_count 143 = .ok (.aload_n 0, 1) := by decide +kernel
theorem qd_X_count_144 : decode qb_X_count 144 = .ok (.getfield 139, 3) := by decide +kernel
theorem qd_X_count_147 : decode qb_X_count 147 = .ok (.ireturn, 1) := by decide +kernel
theorem qd_X_count_148 : decode qb_X_count 148 = .ok (.aload_n 0, 1) := by decide +kernel
theorem qd_X_count_149 : decode qb_X_count 149 = .ok (.getfield 65, 3) := by decide +kernel
theorem qd_X_count_152 : decode qb_X_count 152 = .ok (.ireturn, 1) := by decide +kernel
theorem qd_X_count_153 : decode qb_X_count 153 = .ok (.aload_n 0, 1) := by decide +kernel
theorem qd_X_count_154 : decode qb_X_count 154 = .ok (.getfield 91, 3) := by decide +kernel
theorem qd_X_count_157 : decode qb_X_count 157 = .ok (.ireturn, 1) := by decide +kernel
theorem qd_X_count_158 : decode qb_X_count 158 = .ok (.aload_n 0, 1) := by decide +kernel
theorem qd_X_count_159 : decode qb_X_count 159 = .ok (.iconst 0, 1) := by decide +kernel
theorem qd_X_count_160 : decode qb_X_count 160 = .ok (.invokevirtual 142, 3) := by decide +kernel
theorem qd_X_count_163 : decode qb_X_count 163 = .ok (.ireturn, 1) := by decide +kernel
theorem qd_X_count_164 : decode qb_X_count 164 = .ok (.aload_n 0, 1) := by decide +kernel
theorem qd_X_count_165 : decode qb_X_count 165 = .ok (.iconst 1, 1) := by decide +kernel
theorem qd_X_count_166 : decode qb_X_count 166 = .ok (.invokevirtual 142, 3) := by decide +kernel
theorem qd_X_count_169 : decode qb_X_count 169 = .ok (.ireturn, 1) := by decide +kernel
theorem qd_X_count_170 : decode qb_X_count 170 = .ok (.aload_n 0, 1) := by decide +kernel
theorem qd_X_count_171 : decode qb_X_count 171 = .ok (.iconst 2, 1) := by decide +kernel
theorem qd_X_count_172 : decode qb_X_count 172 = .ok (.invokevirtual 142, 3) := by decide +kernel
theorem qd_X_count_175 : decode qb_X_count 175 = .ok (.ireturn, 1) := by decide +kernel
theorem qd_X_count_176 : decode qb_X_count 176 = .ok (.aload_n 0, 1) := by decide +kernel
theorem qd_X_count_177 : decode qb_X_count 177 = .ok (.getfield 9, 3) := by decide +kernel
theorem qd_X_count_180 : decode qb_X_count 180 = .ok (.iconst 0, 1) := by decide +kernel
theorem qd_X_count_181 : decode qb_X_count 181 = .ok (.iaload, 1) := by decide +kernel
theorem qd_X_count_182 : decode qb_X_count 182 = .ok (.ireturn, 1) := by decide +kernel
theorem qd_X_count_183 : decode qb_X_count 183 = .ok (.aload_n 0, 1) := by decide +kernel
theorem qd_X_count_184 : decode qb_X_count 184 = .ok (.getfield 9, 3) := by decide +kernel
theorem qd_X_count_187 : decode qb_X_count 187 = .ok (.iconst 1, 1) := by decide +kernel
theorem qd_X_count_188 : decode qb_X_count 188 = .ok (.iaload, 1) := by decide +kernel
theorem qd_X_count_189 : decode qb_X_count 189 = .ok (.ireturn, 1) := by decide +kernel
theorem qd_X_count_190 : decode qb_X_count 190 = .ok (.aload_n 0, 1) := by decide +kernel
theorem qd_X_count_191 : decode qb_X_count 191 = .ok (.getfield 9, 3) := by decide +kernel
theorem qd_X_count_194 : decode qb_X_count 194 = .ok (.iconst 2, 1) := by decide +kernel
theorem qd_X_count_195 : decode qb_X_count 195 = .ok (.iaload, 1) := by decide +kernel
theorem qd_X_count_196 : decode qb_X_count 196 = .ok (.ireturn, 1) := by decide +kernel
theorem qd_X_count_197 : decode qb_X_count 197 = .ok (.aload_n 0, 1) := by decide +kernel
theorem qd_X_count_198 : decode qb_X_count 198 = .ok (.getfield 9, 3) := by decide +kernel
theorem qd_X_count_201 : decode qb_X_count 201 = .ok (.iconst 3, 1) := by decide +kernel
theorem qd_X_count_202 : decode qb_X_count 202 = .ok (.iaload, 1) := by decide +kernel
theorem qd_X_count_203 : decode qb_X_count 203 = .ok (.ireturn, 1) := by decide +kernel
theorem qd_X_count_204 : decode qb_X_count 204 = .ok (.iconst (-1), 1) := by decide +kernel
theorem qd_X_count_205 : decode qb_X_count 205 = .ok (.ireturn, 1) := by decide +kernel
theorem qd_X_isTable_0 : decode qb_X_isTable 0 = .ok (.iload_n 1, 1) := by decide +kernel
theorem qd_X_isTable_1 : decode qb_X_isTable 1 = .ok (.ifCond .lt 20, 3) := by decide +kernel
theorem qd_X_isTable_4 : decode qb_X_isTable 4 = .ok (.iload_n 1, 1) := by decide +kernel
theorem qd_X_isTable_5 : decode qb_X_isTable 5 = .ok (.aload_n 0, 1) := by decide +kernel
theorem qd_X_isTable_6 : decode qb_X_isTable 6 = .ok (.getfield 40, 3) := by decide +kernel
theorem qd_X_isTable_9 : decode qb_X_isTable 9 = .ok (.if_icmp .ge 12, 3) := by decide +kernel
theorem qd_X_isTable_12 : decode qb_X_isTable 12 = .ok (.iload_n 1, 1) := by decide +kernel
theorem qd_X_isTable_13 : decode qb_X_isTable 13 = .ok (.iconst 3, 1) := by decide +kernel
theorem qd_X_isTable_14 : decode qb_X_isTable 14 = .ok (.if_icmp .ge 7, 3) := by decide +kernel
theorem qd_X_isTable_17 : decode qb_X_isTable 17 = .ok (.iconst 1, 1) := by decide +kernel
theorem qd_X_isTable_18 : decode qb_X_isTable 18 = .ok (.goto (4), 3) := by decide +kernel
theorem qd_X_isTable_21 : decode qb_X_isTable 21 = .ok (.iconst 0, 1) := by decide +kernel
theorem qd_X_isTable_22 : decode qb_X_isTable 22 = .ok (.ireturn, 1) := by decide +kernel
theorem qd_X_isKey_0 : decode qb_X_isKey 0 = .ok (.iload_n 0, 1) := by decide +kernel
theorem qd_X_isKey_1 : decode qb_X_isKey 1 = .ok (.ifCond .lt 13, 3) := by decide +kernel
theorem qd_X_isKey_4 : decode qb_X_isKey 4 = .ok (.iload_n 0, 1) := by decide +kernel
theorem qd_X_isKey_5 : decode qb_X_isKey 5 = .ok (.bipush 16, 2) := by decide +kernel
theorem qd_X_isKey_7 : decode qb_X_isKey 7 = .ok (.if_icmp .ge 7, 3) := by decide +kernel
theorem qd_X_isKey_10 : decode qb_X_isKey 10 = .ok (.iconst 1, 1) := by decide +kernel
theorem qd_X_isKey_11 : decode qb_X_isKey 11 = .ok (.goto (4), 3) := by decide +kernel
theorem qd_X_isKey_14 : decode qb_X_isKey 14 = .ok (.iconst 0, 1) := by decide +kernel
theorem qd_X_isKey_15 : decode qb_X_isKey 15 = .ok (.ireturn, 1) := by decide +kernel
theorem qd_X_isTime_0 : decode qb_X_isTime 0 = .ok (.iload_n 0, 1) := by decide +kernel
theorem qd_X_isTime_1 : decode qb_X_isTime 1 = .ok (.iconst 1, 1) := by decide +kernel
theorem qd_X_isTime_2 : decode qb_X_isTime 2 = .ok (.if_icmp .lt 13, 3) := by decide +kernel
theorem qd_X_isTime_5 : decode qb_X_isTime 5 = .ok (.iload_n 0, 1) := by decide +kernel
theorem qd_X_isTime_6 : decode qb_X_isTime 6 = .ok (.ldc 105, 2) := by decide +kernel
theorem qd_X_isTime_8 : decode qb_X_isTime 8 = .ok (.if_icmp .gt 7, 3) := by decide +kernel
theorem qd_X_isTime_11 : decode qb_X_isTime 11 = .ok (.iconst 1, 1) := by decide +kernel
theorem qd_X_isTime_12 : decode qb_X_isTime 12 = .ok (.goto (4), 3) := by decide +kernel
theorem qd_X_isTime_15 : decode qb_X_isTime 15 = .ok (.iconst 0, 1) := by decide +kernel
theorem qd_X_isTime_16 : decode qb_X_isTime 16 = .ok (.ireturn, 1) := by decide +kernel
theorem qd_X_isValue_0 : decode qb_X_isValue 0 = .ok (.iload_n 0, 1) := by decide +kernel
theorem qd_X_isValue_1 : decode qb_X_isValue 1 = .ok (.ifCond .lt 14, 3) := by decide +kernel
theorem qd_X_isValue_4 : decode qb_X_isValue 4 = .ok (.iload_n 0, 1) := by decide +kernel
theorem qd_X_isValue_5 : decode qb_X_isValue 5 = .ok (.sipush 1000, 3) := by decide +kernel
theorem qd_X_isValue_8 : decode qb_X_isValue 8 = .ok (.if_icmp .gt 7, 3) := by decide +kernel
theorem qd_X_isValue_11 : decode qb_X_isValue 11 = .ok (.iconst 1, 1) := by decide +kernel
theorem qd_X_isValue_12 : decode qb_X_isValue 12 = .ok (.goto (4), 3) := by decide +kernel
theorem qd_X_isValue_15 : decode qb_X_isValue 15 = .ok (.iconst 0, 1) := by decide +kernel
theorem qd_X_isValue_16 : decode qb_X_isValue 16 = .ok (.ireturn, 1) := by decide +kernel
theorem qd_X_placeOf_0 : decode qb_X_placeOf 0 = .ok (.iload_n 0, 1) := by decide +kernel
theorem qd_X_placeOf_1 : decode qb_X_placeOf 1 = .ok (.bipush 16, 2) := by decide +kernel
theorem qd_X_placeOf_3 : decode qb_X_placeOf 3 = .ok (.imul, 1) := by decide +kernel
theorem qd_X_placeOf_4 : decode qb_X_placeOf 4 = .ok (.iload_n 1, 1) := by decide +kernel
theorem qd_X_placeOf_5 : decode qb_X_placeOf 5 = .ok (.iadd, 1) := by decide +kernel
theorem qd_X_placeOf_6 : decode qb_X_placeOf 6 = .ok (.ireturn, 1) := by decide +kernel
theorem qd_X_markOrNone_0 : decode qb_X_markOrNone 0 = .ok (.aload_n 0, 1) := by decide +kernel
theorem qd_X_markOrNone_1 : decode qb_X_markOrNone 1 = .ok (.iload_n 1, 1) := by decide +kernel
theorem qd_X_markOrNone_2 : decode qb_X_markOrNone 2 = .ok (.invokevirtual 48, 3) := by decide +kernel
theorem qd_X_markOrNone_5 : decode qb_X_markOrNone 5 = .ok (.ifCond .eq 12, 3) := by decide +kernel
theorem qd_X_markOrNone_8 : decode qb_X_markOrNone 8 = .ok (.aload_n 0, 1) := by decide +kernel
theorem qd_X_markOrNone_9 : decode qb_X_markOrNone 9 = .ok (.getfield 13, 3) := by decide +kernel
theorem qd_X_markOrNone_12 : decode qb_X_markOrNone 12 = .ok (.iload_n 1, 1) := by decide +kernel
theorem qd_X_markOrNone_13 : decode qb_X_markOrNone 13 = .ok (.iaload, 1) := by decide +kernel
theorem qd_X_markOrNone_14 : decode qb_X_markOrNone 14 = .ok (.goto (5), 3) := by decide +kernel
theorem qd_X_markOrNone_17 : decode qb_X_markOrNone 17 = .ok (.bipush (-2), 2) := by decide +kernel
theorem qd_X_markOrNone_19 : decode qb_X_markOrNone 19 = .ok (.ireturn, 1) := by decide +kernel
theorem qd_X_horizon_0 : decode qb_X_horizon 0 = .ok (.aload_n 0, 1) := by decide +kernel
theorem qd_X_horizon_1 : decode qb_X_horizon 1 = .ok (.getfield 91, 3) := by decide +kernel
theorem qd_X_horizon_4 : decode qb_X_horizon 4 = .ok (.aload_n 0, 1) := by decide +kernel
theorem qd_X_horizon_5 : decode qb_X_horizon 5 = .ok (.getfield 9, 3) := by decide +kernel
theorem qd_X_horizon_8 : decode qb_X_horizon 8 = .ok (.iconst 3, 1) := by decide +kernel
theorem qd_X_horizon_9 : decode qb_X_horizon 9 = .ok (.iaload, 1) := by decide +kernel
theorem qd_X_horizon_10 : decode qb_X_horizon 10 = .ok (.isub, 1) := by decide +kernel
theorem qd_X_horizon_11 : decode qb_X_horizon 11 = .ok (.ireturn, 1) := by decide +kernel
theorem qd_X_isLateChange_0 : decode qb_X_isLateChange 0 = .ok (.aload_n 0, 1) := by decide +kernel
theorem qd_X_isLateChange_1 : decode qb_X_isLateChange 1 = .ok (.iload_n 1, 1) := by decide +kernel
theorem qd_X_isLateChange_2 : decode qb_X_isLateChange 2 = .ok (.invokevirtual 48, 3) := by decide +kernel
theorem qd_X_isLateChange_5 : decode qb_X_isLateChange 5 = .ok (.ifCond .eq 13, 3) := by decide +kernel
theorem qd_X_isLateChange_8 : decode qb_X_isLateChange 8 = .ok (.iload_n 2, 1) := by decide +kernel
theorem qd_X_isLateChange_9 : decode qb_X_isLateChange 9 = .ok (.aload_n 0, 1) := by decide +kernel
theorem qd_X_isLateChange_10 : decode qb_X_isLateChange 10 = .ok (.getfield 13, 3) := by decide +kernel
theorem qd_X_isLateChange_13 : decode qb_X_isLateChange 13 = .ok (.iload_n 1, 1) := by decide +kernel
theorem qd_X_isLateChange_14 : decode qb_X_isLateChange 14 = .ok (.iaload, 1) := by decide +kernel
theorem qd_X_isLateChange_15 : decode qb_X_isLateChange 15 = .ok (.if_icmp .le 5, 3) := by decide +kernel
theorem qd_X_isLateChange_18 : decode qb_X_isLateChange 18 = .ok (.iconst 0, 1) := by decide +kernel
theorem qd_X_isLateChange_19 : decode qb_X_isLateChange 19 = .ok (.ireturn, 1) := by decide +kernel
theorem qd_X_isLateChange_20 : decode qb_X_isLateChange 20 = .ok (.aload_n 0, 1) := by decide +kernel
theorem qd_X_isLateChange_21 : decode qb_X_isLateChange 21 = .ok (.getfield 9, 3) := by decide +kernel
theorem qd_X_isLateChange_24 : decode qb_X_isLateChange 24 = .ok (.iconst 1, 1) := by decide +kernel
theorem qd_X_isLateChange_25 : decode qb_X_isLateChange 25 = .ok (.iaload, 1) := by decide +kernel
theorem qd_X_isLateChange_26 : decode qb_X_isLateChange 26 = .ok (.ifCond .eq 11, 3) := by decide +kernel
theorem qd_X_isLateChange_29 : decode qb_X_isLateChange 29 = .ok (.iload_n 2, 1) := by decide +kernel
theorem qd_X_isLateChange_30 : decode qb_X_isLateChange 30 = .ok (.aload_n 0, 1) := by decide +kernel
end
section
theorem qd_X_isLateChange_31 : decode qb_X_isLateChange 31 = .ok (.invokevirtual 109, 3) := by decide +kernel
theorem qd_X_isLateChange_34 : decode qb_X_isLateChange 34 = .ok (.if_icmp .gt 7, 3) := by decide +kernel
theorem qd_X_isLateChange_37 : decode qb_X_isLateChange 37 = .ok (.iconst 1, 1) := by decide +kernel
theorem qd_X_isLateChange_38 : decode qb_X_isLateChange 38 = .ok (.goto (4), 3) := by decide +kernel
theorem qd_X_isLateChange_41 : decode qb_X_isLateChange 41 = .ok (.iconst 0, 1) := by decide +kernel
theorem qd_X_isLateChange_42 : decode qb_X_isLateChange 42 = .ok (.ireturn, 1) := by decide +kernel
theorem qd_X_begin_0 : decode qb_X_begin 0 = .ok (.aload_n 0, 1) := by decide +kernel
theorem qd_X_begin_1 : decode qb_X_begin 1 = .ok (.iconst 1, 1) := by decide +kernel
theorem qd_X_begin_2 : decode qb_X_begin 2 = .ok (.putfield 44, 3) := by decide +kernel
theorem qd_X_begin_5 : decode qb_X_begin 5 = .ok (.aload_n 0, 1) := by decide +kernel
theorem qd_X_begin_6 : decode qb_X_begin 6 = .ok (.getfield 33, 3) := by decide +kernel
theorem qd_X_begin_9 : decode qb_X_begin 9 = .ok (.invokevirtual 145, 3) := by decide +kernel
theorem qd_X_begin_12 : decode qb_X_begin 12 = .ok (.return_, 1) := by decide +kernel
theorem qd_X_lowestMark_0 : decode qb_X_lowestMark 0 = .ok (.ldc 105, 2) := by decide +kernel
theorem qd_X_lowestMark_2 : decode qb_X_lowestMark 2 = .ok (.istore_n 1, 1) := by decide +kernel
theorem qd_X_lowestMark_3 : decode qb_X_lowestMark 3 = .ok (.iconst 0, 1) := by decide +kernel
theorem qd_X_lowestMark_4 : decode qb_X_lowestMark 4 = .ok (.istore_n 2, 1) := by decide +kernel
theorem qd_X_lowestMark_5 : decode qb_X_lowestMark 5 = .ok (.iload_n 2, 1) := by decide +kernel
theorem qd_X_lowestMark_6 : decode qb_X_lowestMark 6 = .ok (.aload_n 0, 1) := by decide +kernel
theorem qd_X_lowestMark_7 : decode qb_X_lowestMark 7 = .ok (.getfield 40, 3) := by decide +kernel
theorem qd_X_lowestMark_10 : decode qb_X_lowestMark 10 = .ok (.if_icmp .ge 25, 3) := by decide +kernel
theorem qd_X_lowestMark_13 : decode qb_X_lowestMark 13 = .ok (.iload_n 2, 1) := by decide +kernel
theorem qd_X_lowestMark_14 : decode qb_X_lowestMark 14 = .ok (.iconst 3, 1) := by decide +kernel
theorem qd_X_lowestMark_15 : decode qb_X_lowestMark 15 = .ok (.if_icmp .ge 20, 3) := by decide +kernel
theorem qd_X_lowestMark_18 : decode qb_X_lowestMark 18 = .ok (.iload_n 1, 1) := by decide +kernel
theorem qd_X_lowestMark_19 : decode qb_X_lowestMark 19 = .ok (.aload_n 0, 1) := by decide +kernel
theorem qd_X_lowestMark_20 : decode qb_X_lowestMark 20 = .ok (.getfield 13, 3) := by decide +kernel
theorem qd_X_lowestMark_23 : decode qb_X_lowestMark 23 = .ok (.iload_n 2, 1) := by decide +kernel
theorem qd_X_lowestMark_24 : decode qb_X_lowestMark 24 = .ok (.iaload, 1) := by decide +kernel
theorem qd_X_lowestMark_25 : decode qb_X_lowestMark 25 = .ok (.invokestatic 148, 3) := by decide +kernel
theorem qd_X_lowestMark_28 : decode qb_X_lowestMark 28 = .ok (.istore_n 1, 1) := by decide +kernel
theorem qd_X_lowestMark_29 : decode qb_X_lowestMark 29 = .ok (.iinc 2 (1), 3) := by decide +kernel
theorem qd_X_lowestMark_32 : decode qb_X_lowestMark 32 = .ok (.goto (-27), 3) := by decide +kernel
theorem qd_X_lowestMark_35 : decode qb_X_lowestMark 35 = .ok (.iload_n 1, 1) := by decide +kernel
theorem qd_X_lowestMark_36 : decode qb_X_lowestMark 36 = .ok (.ireturn, 1) := by decide +kernel
theorem qd_X_findJoin_0 : decode qb_X_findJoin 0 = .ok (.iconst 0, 1) := by decide +kernel
theorem qd_X_findJoin_1 : decode qb_X_findJoin 1 = .ok (.istore_n 3, 1) := by decide +kernel
theorem qd_X_findJoin_2 : decode qb_X_findJoin 2 = .ok (.iload_n 3, 1) := by decide +kernel
theorem qd_X_findJoin_3 : decode qb_X_findJoin 3 = .ok (.iconst 3, 1) := by decide +kernel
theorem qd_X_findJoin_4 : decode qb_X_findJoin 4 = .ok (.if_icmp .ge 89, 3) := by decide +kernel
theorem qd_X_findJoin_7 : decode qb_X_findJoin 7 = .ok (.aload_n 0, 1) := by decide +kernel
theorem qd_X_findJoin_8 : decode qb_X_findJoin 8 = .ok (.getfield 19, 3) := by decide +kernel
theorem qd_X_findJoin_11 : decode qb_X_findJoin 11 = .ok (.iload_n 3, 1) := by decide +kernel
theorem qd_X_findJoin_12 : decode qb_X_findJoin 12 = .ok (.iload_n 1, 1) := by decide +kernel
theorem qd_X_findJoin_13 : decode qb_X_findJoin 13 = .ok (.invokestatic 75, 3) := by decide +kernel
theorem qd_X_findJoin_16 : decode qb_X_findJoin 16 = .ok (.iload_n 2, 1) := by decide +kernel
theorem qd_X_findJoin_17 : decode qb_X_findJoin 17 = .ok (.aload_n 0, 1) := by decide +kernel
theorem qd_X_findJoin_18 : decode qb_X_findJoin 18 = .ok (.getfield 9, 3) := by decide +kernel
theorem qd_X_findJoin_21 : decode qb_X_findJoin 21 = .ok (.iconst 0, 1) := by decide +kernel
theorem qd_X_findJoin_22 : decode qb_X_findJoin 22 = .ok (.iaload, 1) := by decide +kernel
theorem qd_X_findJoin_23 : decode qb_X_findJoin 23 = .ok (.isub, 1) := by decide +kernel
theorem qd_X_findJoin_24 : decode qb_X_findJoin 24 = .ok (.invokevirtual 122, 3) := by decide +kernel
theorem qd_X_findJoin_27 : decode qb_X_findJoin 27 = .ok (.istore 4, 2) := by decide +kernel
theorem qd_X_findJoin_29 : decode qb_X_findJoin 29 = .ok (.aload_n 0, 1) := by decide +kernel
theorem qd_X_findJoin_30 : decode qb_X_findJoin 30 = .ok (.getfield 37, 3) := by decide +kernel
theorem qd_X_findJoin_33 : decode qb_X_findJoin 33 = .ok (.iconst 2, 1) := by decide +kernel
theorem qd_X_findJoin_34 : decode qb_X_findJoin 34 = .ok (.iload_n 3, 1) := by decide +kernel
theorem qd_X_findJoin_35 : decode qb_X_findJoin 35 = .ok (.imul, 1) := by decide +kernel
theorem qd_X_findJoin_36 : decode qb_X_findJoin 36 = .ok (.iload 4, 2) := by decide +kernel
theorem qd_X_findJoin_38 : decode qb_X_findJoin 38 = .ok (.ifCond .ge 8, 3) := by decide +kernel
theorem qd_X_findJoin_41 : decode qb_X_findJoin 41 = .ok (.bipush (-2), 2) := by decide +kernel
theorem qd_X_findJoin_43 : decode qb_X_findJoin 43 = .ok (.goto (13), 3) := by decide +kernel
theorem qd_X_findJoin_46 : decode qb_X_findJoin 46 = .ok (.aload_n 0, 1) := by decide +kernel
theorem qd_X_findJoin_47 : decode qb_X_findJoin 47 = .ok (.getfield 19, 3) := by decide +kernel
theorem qd_X_findJoin_50 : decode qb_X_findJoin 50 = .ok (.iload 4, 2) := by decide +kernel
theorem qd_X_findJoin_52 : decode qb_X_findJoin 52 = .ok (.iconst 0, 1) := by decide +kernel
theorem qd_X_findJoin_53 : decode qb_X_findJoin 53 = .ok (.invokevirtual 125, 3) := by decide +kernel
theorem qd_X_findJoin_56 : decode qb_X_findJoin 56 = .ok (.iastore, 1) := by decide +kernel
theorem qd_X_findJoin_57 : decode qb_X_findJoin 57 = .ok (.aload_n 0, 1) := by decide +kernel
theorem qd_X_findJoin_58 : decode qb_X_findJoin 58 = .ok (.getfield 37, 3) := by decide +kernel
theorem qd_X_findJoin_61 : decode qb_X_findJoin 61 = .ok (.iconst 2, 1) := by decide +kernel
theorem qd_X_findJoin_62 : decode qb_X_findJoin 62 = .ok (.iload_n 3, 1) := by decide +kernel
theorem qd_X_findJoin_63 : decode qb_X_findJoin 63 = .ok (.imul, 1) := by decide +kernel
theorem qd_X_findJoin_64 : decode qb_X_findJoin 64 = .ok (.iconst 1, 1) := by decide +kernel
theorem qd_X_findJoin_65 : decode qb_X_findJoin 65 = .ok (.iadd, 1) := by decide +kernel
theorem qd_X_findJoin_66 : decode qb_X_findJoin 66 = .ok (.iload 4, 2) := by decide +kernel
theorem qd_X_findJoin_68 : decode qb_X_findJoin 68 = .ok (.ifCond .ge 8, 3) := by decide +kernel
theorem qd_X_findJoin_71 : decode qb_X_findJoin 71 = .ok (.bipush (-2), 2) := by decide +kernel
theorem qd_X_findJoin_73 : decode qb_X_findJoin 73 = .ok (.goto (13), 3) := by decide +kernel
theorem qd_X_findJoin_76 : decode qb_X_findJoin 76 = .ok (.aload_n 0, 1) := by decide +kernel
theorem qd_X_findJoin_77 : decode qb_X_findJoin 77 = .ok (.getfield 19, 3) := by decide +kernel
theorem qd_X_findJoin_80 : decode qb_X_findJoin 80 = .ok (.iload 4, 2) := by decide +kernel
theorem qd_X_findJoin_82 : decode qb_X_findJoin 82 = .ok (.iconst 1, 1) := by decide +kernel
theorem qd_X_findJoin_83 : decode qb_X_findJoin 83 = .ok (.invokevirtual 125, 3) := by decide +kernel
theorem qd_X_findJoin_86 : decode qb_X_findJoin 86 = .ok (.iastore, 1) := by decide +kernel
theorem qd_X_findJoin_87 : decode qb_X_findJoin 87 = .ok (.iinc 3 (1), 3) := by decide +kernel
theorem qd_X_findJoin_90 : decode qb_X_findJoin 90 = .ok (.goto (-88), 3) := by decide +kernel
theorem qd_X_findJoin_93 : decode qb_X_findJoin 93 = .ok (.return_, 1) := by decide +kernel
theorem qd_X_isGivenByJoin_0 : decode qb_X_isGivenByJoin 0 = .ok (.aload_n 0, 1) := by decide +kernel
theorem qd_X_isGivenByJoin_1 : decode qb_X_isGivenByJoin 1 = .ok (.getfield 9, 3) := by decide +kernel
theorem qd_X_isGivenByJoin_4 : decode qb_X_isGivenByJoin 4 = .ok (.iconst 2, 1) := by decide +kernel
theorem qd_X_isGivenByJoin_5 : decode qb_X_isGivenByJoin 5 = .ok (.iaload, 1) := by decide +kernel
theorem qd_X_isGivenByJoin_6 : decode qb_X_isGivenByJoin 6 = .ok (.ifCond .ne 5, 3) := by decide +kernel
theorem qd_X_isGivenByJoin_9 : decode qb_X_isGivenByJoin 9 = .ok (.iconst 1, 1) := by decide +kernel
theorem qd_X_isGivenByJoin_10 : decode qb_X_isGivenByJoin 10 = .ok (.ireturn, 1) := by decide +kernel
theorem qd_X_isGivenByJoin_11 : decode qb_X_isGivenByJoin 11 = .ok (.iconst 0, 1) := by decide +kernel
theorem qd_X_isGivenByJoin_12 : decode qb_X_isGivenByJoin 12 = .ok (.istore_n 1, 1) := by decide +kernel
theorem qd_X_isGivenByJoin_13 : decode qb_X_isGivenByJoin 13 = .ok (.iload_n 1, 1) := by decide +kernel
theorem qd_X_isGivenByJoin_14 : decode qb_X_isGivenByJoin 14 = .ok (.aload_n 0, 1) := by decide +kernel
theorem qd_X_isGivenByJoin_15 : decode qb_X_isGivenByJoin 15 = .ok (.getfield 40, 3) := by decide +kernel
theorem qd_X_isGivenByJoin_18 : decode qb_X_isGivenByJoin 18 = .ok (.if_icmp .ge 29, 3) := by decide +kernel
theorem qd_X_isGivenByJoin_21 : decode qb_X_isGivenByJoin 21 = .ok (.iload_n 1, 1) := by decide +kernel
theorem qd_X_isGivenByJoin_22 : decode qb_X_isGivenByJoin 22 = .ok (.iconst 3, 1) := by decide +kernel
theorem qd_X_isGivenByJoin_23 : decode qb_X_isGivenByJoin 23 = .ok (.if_icmp .ge 24, 3) := by decide +kernel
theorem qd_X_isGivenByJoin_26 : decode qb_X_isGivenByJoin 26 = .ok (.aload_n 0, 1) := by decide +kernel
theorem qd_X_isGivenByJoin_27 : decode qb_X_isGivenByJoin 27 = .ok (.getfield 37, 3) := by decide +kernel
theorem qd_X_isGivenByJoin_30 : decode qb_X_isGivenByJoin 30 = .ok (.iconst 2, 1) := by decide +kernel
theorem qd_X_isGivenByJoin_31 : decode qb_X_isGivenByJoin 31 = .ok (.iload_n 1, 1) := by decide +kernel
theorem qd_X_isGivenByJoin_32 : decode qb_X_isGivenByJoin 32 = .ok (.imul, 1) := by decide +kernel
theorem qd_X_isGivenByJoin_33 : decode qb_X_isGivenByJoin 33 = .ok (.iaload, 1) := by decide +kernel
theorem qd_X_isGivenByJoin_34 : decode qb_X_isGivenByJoin 34 = .ok (.bipush (-2), 2) := by decide +kernel
theorem qd_X_isGivenByJoin_36 : decode qb_X_isGivenByJoin 36 = .ok (.if_icmp .ne 5, 3) := by decide +kernel
theorem qd_X_isGivenByJoin_39 : decode qb_X_isGivenByJoin 39 = .ok (.iconst 0, 1) := by decide +kernel
theorem qd_X_isGivenByJoin_40 : decode qb_X_isGivenByJoin 40 = .ok (.ireturn, 1) := by decide +kernel
theorem qd_X_isGivenByJoin_41 : decode qb_X_isGivenByJoin 41 = .ok (.iinc 1 (1), 3) := by decide +kernel
theorem qd_X_isGivenByJoin_44 : decode qb_X_isGivenByJoin 44 = .ok (.goto (-31), 3) := by decide +kernel
theorem qd_X_isGivenByJoin_47 : decode qb_X_isGivenByJoin 47 = .ok (.iconst 1, 1) := by decide +kernel
theorem qd_X_isGivenByJoin_48 : decode qb_X_isGivenByJoin 48 = .ok (.ireturn, 1) := by decide +kernel
theorem qd_X_joinRows_0 : decode qb_X_joinRows 0 = .ok (.aload_n 0, 1) := by decide +kernel
theorem qd_X_joinRows_1 : decode qb_X_joinRows 1 = .ok (.invokevirtual 153, 3) := by decide +kernel
theorem qd_X_joinRows_4 : decode qb_X_joinRows 4 = .ok (.istore_n 1, 1) := by decide +kernel
theorem qd_X_joinRows_5 : decode qb_X_joinRows 5 = .ok (.iconst 0, 1) := by decide +kernel
theorem qd_X_joinRows_6 : decode qb_X_joinRows 6 = .ok (.istore_n 2, 1) := by decide +kernel
theorem qd_X_joinRows_7 : decode qb_X_joinRows 7 = .ok (.iload_n 2, 1) := by decide +kernel
theorem qd_X_joinRows_8 : decode qb_X_joinRows 8 = .ok (.aload_n 0, 1) := by decide +kernel
theorem qd_X_joinRows_9 : decode qb_X_joinRows 9 = .ok (.getfield 26, 3) := by decide +kernel
theorem qd_X_joinRows_12 : decode qb_X_joinRows 12 = .ok (.invokevirtual 94, 3) := by decide +kernel
theorem qd_X_joinRows_15 : decode qb_X_joinRows 15 = .ok (.if_icmp .ge 54, 3) := by decide +kernel
theorem qd_X_joinRows_18 : decode qb_X_joinRows 18 = .ok (.aload_n 0, 1) := by decide +kernel
theorem qd_X_joinRows_19 : decode qb_X_joinRows 19 = .ok (.getfield 26, 3) := by decide +kernel
theorem qd_X_joinRows_22 : decode qb_X_joinRows 22 = .ok (.iload_n 2, 1) := by decide +kernel
theorem qd_X_joinRows_23 : decode qb_X_joinRows 23 = .ok (.iconst 2, 1) := by decide +kernel
theorem qd_X_joinRows_24 : decode qb_X_joinRows 24 = .ok (.invokevirtual 129, 3) := by decide +kernel
theorem qd_X_joinRows_27 : decode qb_X_joinRows 27 = .ok (.istore_n 3, 1) := by decide +kernel
theorem qd_X_joinRows_28 : decode qb_X_joinRows 28 = .ok (.aload_n 0, 1) := by decide +kernel
theorem qd_X_joinRows_29 : decode qb_X_joinRows 29 = .ok (.getfield 26, 3) := by decide +kernel
theorem qd_X_joinRows_32 : decode qb_X_joinRows 32 = .ok (.iload_n 2, 1) := by decide +kernel
theorem qd_X_joinRows_33 : decode qb_X_joinRows 33 = .ok (.invokevirtual 156, 3) := by decide +kernel
theorem qd_X_joinRows_36 : decode qb_X_joinRows 36 = .ok (.ifCond .eq 27, 3) := by decide +kernel
theorem qd_X_joinRows_39 : decode qb_X_joinRows 39 = .ok (.iload_n 3, 1) := by decide +kernel
theorem qd_X_joinRows_40 : decode qb_X_joinRows 40 = .ok (.iload_n 1, 1) := by decide +kernel
theorem qd_X_joinRows_41 : decode qb_X_joinRows 41 = .ok (.if_icmp .gt 22, 3) := by decide +kernel
theorem qd_X_joinRows_44 : decode qb_X_joinRows 44 = .ok (.aload_n 0, 1) := by decide +kernel
theorem qd_X_joinRows_45 : decode qb_X_joinRows 45 = .ok (.aload_n 0, 1) := by decide +kernel
theorem qd_X_joinRows_46 : decode qb_X_joinRows 46 = .ok (.getfield 26, 3) := by decide +kernel
theorem qd_X_joinRows_49 : decode qb_X_joinRows 49 = .ok (.iload_n 2, 1) := by decide +kernel
theorem qd_X_joinRows_50 : decode qb_X_joinRows 50 = .ok (.iconst 1, 1) := by decide +kernel
theorem qd_X_joinRows_51 : decode qb_X_joinRows 51 = .ok (.invokevirtual 129, 3) := by decide +kernel
theorem qd_X_joinRows_54 : decode qb_X_joinRows 54 = .ok (.iload_n 3, 1) := by decide +kernel
theorem qd_X_joinRows_55 : decode qb_X_joinRows 55 = .ok (.invokevirtual 159, 3) := by decide +kernel
theorem qd_X_joinRows_58 : decode qb_X_joinRows 58 = .ok (.aload_n 0, 1) := by decide +kernel
theorem qd_X_joinRows_59 : decode qb_X_joinRows 59 = .ok (.iload_n 2, 1) := by decide +kernel
theorem qd_X_joinRows_60 : decode qb_X_joinRows 60 = .ok (.invokevirtual 163, 3) := by decide +kernel
theorem qd_X_joinRows_63 : decode qb_X_joinRows 63 = .ok (.iinc 2 (1), 3) := by decide +kernel
theorem qd_X_joinRows_66 : decode qb_X_joinRows 66 = .ok (.goto (-59), 3) := by decide +kernel
theorem qd_X_joinRows_69 : decode qb_X_joinRows 69 = .ok (.return_, 1) := by decide +kernel
theorem qd_X_takeJoin_0 : decode qb_X_takeJoin 0 = .ok (.aload_n 0, 1) := by decide +kernel
theorem qd_X_takeJoin_1 : decode qb_X_takeJoin 1 = .ok (.invokevirtual 166, 3) := by decide +kernel
theorem qd_X_takeJoin_4 : decode qb_X_takeJoin 4 = .ok (.istore_n 2, 1) := by decide +kernel
theorem qd_X_takeJoin_5 : decode qb_X_takeJoin 5 = .ok (.aload_n 0, 1) := by decide +kernel
theorem qd_X_takeJoin_6 : decode qb_X_takeJoin 6 = .ok (.getfield 26, 3) := by decide +kernel
theorem qd_X_takeJoin_9 : decode qb_X_takeJoin 9 = .ok (.iload_n 1, 1) := by decide +kernel
theorem qd_X_takeJoin_10 : decode qb_X_takeJoin 10 = .ok (.aload_n 0, 1) := by decide +kernel
theorem qd_X_takeJoin_11 : decode qb_X_takeJoin 11 = .ok (.getfield 37, 3) := by decide +kernel
theorem qd_X_takeJoin_14 : decode qb_X_takeJoin 14 = .ok (.iload_n 2, 1) := by decide +kernel
theorem qd_X_takeJoin_15 : decode qb_X_takeJoin 15 = .ok (.invokevirtual 170, 3) := by decide +kernel
theorem qd_X_takeJoin_18 : decode qb_X_takeJoin 18 = .ok (.iload_n 2, 1) := by decide +kernel
theorem qd_X_takeJoin_19 : decode qb_X_takeJoin 19 = .ok (.ifCond .eq 16, 3) := by decide +kernel
theorem qd_X_takeJoin_22 : decode qb_X_takeJoin 22 = .ok (.aload_n 0, 1) := by decide +kernel
theorem qd_X_takeJoin_23 : decode qb_X_takeJoin 23 = .ok (.getfield 33, 3) := by decide +kernel
theorem qd_X_takeJoin_26 : decode qb_X_takeJoin 26 = .ok (.iconst 1, 1) := by decide +kernel
theorem qd_X_takeJoin_27 : decode qb_X_takeJoin 27 = .ok (.aload_n 0, 1) := by decide +kernel
theorem qd_X_takeJoin_28 : decode qb_X_takeJoin 28 = .ok (.getfield 26, 3) := by decide +kernel
theorem qd_X_takeJoin_31 : decode qb_X_takeJoin 31 = .ok (.iload_n 1, 1) := by decide +kernel
theorem qd_X_takeJoin_32 : decode qb_X_takeJoin 32 = .ok (.invokevirtual 174, 3) := by decide +kernel
theorem qd_X_takeJoin_35 : decode qb_X_takeJoin 35 = .ok (.return_, 1) := by decide +kernel
theorem qd_X_correctRows_0 : decode qb_X_correctRows 0 = .ok (.iconst 0, 1) := by decide +kernel
theorem qd_X_correctRows_1 : decode qb_X_correctRows 1 = .ok (.istore_n 2, 1) := by decide +kernel
theorem qd_X_correctRows_2 : decode qb_X_correctRows 2 = .ok (.iload_n 2, 1) := by decide +kernel
theorem qd_X_correctRows_3 : decode qb_X_correctRows 3 = .ok (.aload_n 0, 1) := by decide +kernel
theorem qd_X_correctRows_4 : decode qb_X_correctRows 4 = .ok (.getfield 26, 3) := by decide +kernel
theorem qd_X_correctRows_7 : decode qb_X_correctRows 7 = .ok (.invokevirtual 94, 3) := by decide +kernel
theorem qd_X_correctRows_10 : decode qb_X_correctRows 10 = .ok (.if_icmp .ge 38, 3) := by decide +kernel
theorem qd_X_correctRows_13 : decode qb_X_correctRows 13 = .ok (.aload_n 0, 1) := by decide +kernel
theorem qd_X_correctRows_14 : decode qb_X_correctRows 14 = .ok (.getfield 26, 3) := by decide +kernel
theorem qd_X_correctRows_17 : decode qb_X_correctRows 17 = .ok (.iload_n 2, 1) := by decide +kernel
theorem qd_X_correctRows_18 : decode qb_X_correctRows 18 = .ok (.iconst 1, 1) := by decide +kernel
theorem qd_X_correctRows_19 : decode qb_X_correctRows 19 = .ok (.invokevirtual 129, 3) := by decide +kernel
theorem qd_X_correctRows_22 : decode qb_X_correctRows 22 = .ok (.iload_n 1, 1) := by decide +kernel
theorem qd_X_correctRows_23 : decode qb_X_correctRows 23 = .ok (.if_icmp .ne 19, 3) := by decide +kernel
theorem qd_X_correctRows_26 : decode qb_X_correctRows 26 = .ok (.aload_n 0, 1) := by decide +kernel
theorem qd_X_correctRows_27 : decode qb_X_correctRows 27 = .ok (.getfield 26, 3) := by decide +kernel
theorem qd_X_correctRows_30 : decode qb_X_correctRows 30 = .ok (.iload_n 2, 1) := by decide +kernel
theorem qd_X_correctRows_31 : decode qb_X_correctRows 31 = .ok (.invokevirtual 156, 3) := by decide +kernel
theorem qd_X_correctRows_34 : decode qb_X_correctRows 34 = .ok (.ifCond .ne 8, 3) := by decide +kernel
theorem qd_X_correctRows_37 : decode qb_X_correctRows 37 = .ok (.aload_n 0, 1) := by decide +kernel
theorem qd_X_correctRows_38 : decode qb_X_correctRows 38 = .ok (.iload_n 2, 1) := by decide +kernel
theorem qd_X_correctRows_39 : decode qb_X_correctRows 39 = .ok (.invokevirtual 177, 3) := by decide +kernel
theorem qd_X_correctRows_42 : decode qb_X_correctRows 42 = .ok (.iinc 2 (1), 3) := by decide +kernel
theorem qd_X_correctRows_45 : decode qb_X_correctRows 45 = .ok (.goto (-43), 3) := by decide +kernel
theorem qd_X_correctRows_48 : decode qb_X_correctRows 48 = .ok (.return_, 1) := by decide +kernel
theorem qd_X_correctRow_0 : decode qb_X_correctRow 0 = .ok (.aload_n 0, 1) := by decide +kernel
theorem qd_X_correctRow_1 : decode qb_X_correctRow 1 = .ok (.aload_n 0, 1) := by decide +kernel
theorem qd_X_correctRow_2 : decode qb_X_correctRow 2 = .ok (.getfield 26, 3) := by decide +kernel
theorem qd_X_correctRow_5 : decode qb_X_correctRow 5 = .ok (.iload_n 1, 1) := by decide +kernel
theorem qd_X_correctRow_6 : decode qb_X_correctRow 6 = .ok (.iconst 1, 1) := by decide +kernel
theorem qd_X_correctRow_7 : decode qb_X_correctRow 7 = .ok (.invokevirtual 129, 3) := by decide +kernel
theorem qd_X_correctRow_10 : decode qb_X_correctRow 10 = .ok (.aload_n 0, 1) := by decide +kernel
theorem qd_X_correctRow_11 : decode qb_X_correctRow 11 = .ok (.getfield 26, 3) := by decide +kernel
theorem qd_X_correctRow_14 : decode qb_X_correctRow 14 = .ok (.iload_n 1, 1) := by decide +kernel
theorem qd_X_correctRow_15 : decode qb_X_correctRow 15 = .ok (.iconst 2, 1) := by decide +kernel
theorem qd_X_correctRow_16 : decode qb_X_correctRow 16 = .ok (.invokevirtual 129, 3) := by decide +kernel
theorem qd_X_correctRow_19 : decode qb_X_correctRow 19 = .ok (.invokevirtual 159, 3) := by decide +kernel
theorem qd_X_correctRow_22 : decode qb_X_correctRow 22 = .ok (.aload_n 0, 1) := by decide +kernel
theorem qd_X_correctRow_23 : decode qb_X_correctRow 23 = .ok (.getfield 26, 3) := by decide +kernel
theorem qd_X_correctRow_26 : decode qb_X_correctRow 26 = .ok (.iload_n 1, 1) := by decide +kernel
theorem qd_X_correctRow_27 : decode qb_X_correctRow 27 = .ok (.aload_n 0, 1) := by decide +kernel
theorem qd_X_correctRow_28 : decode qb_X_correctRow 28 = .ok (.getfield 37, 3) := by decide +kernel
theorem qd_X_correctRow_31 : decode qb_X_correctRow 31 = .ok (.invokevirtual 180, 3) := by decide +kernel
theorem qd_X_correctRow_34 : decode qb_X_correctRow 34 = .ok (.ifCond .eq 4, 3) := by decide +kernel
theorem qd_X_correctRow_37 : decode qb_X_correctRow 37 = .ok (.return_, 1) := by decide +kernel
theorem qd_X_correctRow_38 : decode qb_X_correctRow 38 = .ok (.aload_n 0, 1) := by decide +kernel
theorem qd_X_correctRow_39 : decode qb_X_correctRow 39 = .ok (.getfield 26, 3) := by decide +kernel
theorem qd_X_correctRow_42 : decode qb_X_correctRow 42 = .ok (.iload_n 1, 1) := by decide +kernel
theorem qd_X_correctRow_43 : decode qb_X_correctRow 43 = .ok (.invokevirtual 184, 3) := by decide +kernel
theorem qd_X_correctRow_46 : decode qb_X_correctRow 46 = .ok (.ifCond .eq 16, 3) := by decide +kernel
theorem qd_X_correctRow_49 : decode qb_X_correctRow 49 = .ok (.aload_n 0, 1) := by decide +kernel
theorem qd_X_correctRow_50 : decode qb_X_correctRow 50 = .ok (.getfield 33, 3) := by decide +kernel
theorem qd_X_correctRow_53 : decode qb_X_correctRow 53 = .ok (.iconst 0, 1) := by decide +kernel
theorem qd_X_correctRow_54 : decode qb_X_correctRow 54 = .ok (.aload_n 0, 1) := by decide +kernel
theorem qd_X_correctRow_55 : decode qb_X_correctRow 55 = .ok (.getfield 26, 3) := by decide +kernel
theorem qd_X_correctRow_58 : decode qb_X_correctRow 58 = .ok (.iload_n 1, 1) := by decide +kernel
theorem qd_X_correctRow_59 : decode qb_X_correctRow 59 = .ok (.invokevirtual 174, 3) := by decide +kernel
theorem qd_X_correctRow_62 : decode qb_X_correctRow 62 = .ok (.aload_n 0, 1) := by decide +kernel
theorem qd_X_correctRow_63 : decode qb_X_correctRow 63 = .ok (.iload_n 1, 1) := by decide +kernel
theorem qd_X_correctRow_64 : decode qb_X_correctRow 64 = .ok (.invokevirtual 163, 3) := by decide +kernel
theorem qd_X_correctRow_67 : decode qb_X_correctRow 67 = .ok (.return_, 1) := by decide +kernel
theorem qd_X_dropVersions_0 : decode qb_X_dropVersions 0 = .ok (.iconst 0, 1) := by decide +kernel
theorem qd_X_dropVersions_1 : decode qb_X_dropVersions 1 = .ok (.istore_n 1, 1) := by decide +kernel
theorem qd_X_dropVersions_2 : decode qb_X_dropVersions 2 = .ok (.aload_n 0, 1) := by decide +kernel
theorem qd_X_dropVersions_3 : decode qb_X_dropVersions 3 = .ok (.getfield 19, 3) := by decide +kernel
theorem qd_X_dropVersions_6 : decode qb_X_dropVersions 6 = .ok (.invokevirtual 68, 3) := by decide +kernel
theorem qd_X_dropVersions_9 : decode qb_X_dropVersions 9 = .ok (.istore_n 2, 1) := by decide +kernel
theorem qd_X_dropVersions_10 : decode qb_X_dropVersions 10 = .ok (.iload_n 2, 1) := by decide +kernel
theorem qd_X_dropVersions_11 : decode qb_X_dropVersions 11 = .ok (.ifCond .le 41, 3) := by decide +kernel
theorem qd_X_dropVersions_14 : decode qb_X_dropVersions 14 = .ok (.aload_n 0, 1) := by decide +kernel
theorem qd_X_dropVersions_15 : decode qb_X_dropVersions 15 = .ok (.iload_n 1, 1) := by decide +kernel
theorem qd_X_dropVersions_16 : decode qb_X_dropVersions 16 = .ok (.invokevirtual 187, 3) := by decide +kernel
theorem qd_X_dropVersions_19 : decode qb_X_dropVersions 19 = .ok (.ifCond .eq 24, 3) := by decide +kernel
theorem qd_X_dropVersions_22 : decode qb_X_dropVersions 22 = .ok (.aload_n 0, 1) := by decide +kernel
theorem qd_X_dropVersions_23 : decode qb_X_dropVersions 23 = .ok (.getfield 19, 3) := by decide +kernel
theorem qd_X_dropVersions_26 : decode qb_X_dropVersions 26 = .ok (.iload_n 1, 1) := by decide +kernel
theorem qd_X_dropVersions_27 : decode qb_X_dropVersions 27 = .ok (.invokevirtual 190, 3) := by decide +kernel
theorem qd_X_dropVersions_30 : decode qb_X_dropVersions 30 = .ok (.aload_n 0, 1) := by decide +kernel
theorem qd_X_dropVersions_31 : decode qb_X_dropVersions 31 = .ok (.dup, 1) := by decide +kernel
theorem qd_X_dropVersions_32 : decode qb_X_dropVersions 32 = .ok (.getfield 139, 3) := by decide +kernel
theorem qd_X_dropVersions_35 : decode qb_X_dropVersions 35 = .ok (.iconst 1, 1) := by decide +kernel
theorem qd_X_dropVersions_36 : decode qb_X_dropVersions 36 = .ok (.iadd, 1) := by decide +kernel
theorem qd_X_dropVersions_37 : decode qb_X_dropVersions 37 = .ok (.putfield 139, 3) := by decide +kernel
theorem qd_X_dropVersions_40 : decode qb_X_dropVersions 40 = .ok (.goto (6), 3) := by decide +kernel
theorem qd_X_dropVersions_43 : decode qb_X_dropVersions 43 = .ok (.iinc 1 (1), 3) := by decide +kernel
theorem qd_X_dropVersions_46 : decode qb_X_dropVersions 46 = .ok (.iinc 2 (-1), 3) := by decide +kernel
theorem qd_X_dropVersions_49 : decode qb_X_dropVersions 49 = .ok (.goto (-39), 3) := by decide +kernel
theorem qd_X_dropVersions_52 : decode qb_X_dropVersions 52 = .ok (.return_, 1) := by decide +kernel
theorem qd_X_isNeedless_0 : decode qb_X_isNeedless 0 = .ok (.aload_n 0, 1) := by decide +kernel
theorem qd_X_isNeedless_1 : decode qb_X_isNeedless 1 = .ok (.getfield 19, 3) := by decide +kernel
theorem qd_X_isNeedless_4 : decode qb_X_isNeedless 4 = .ok (.iload_n 1, 1) := by decide +kernel
theorem qd_X_isNeedless_5 : decode qb_X_isNeedless 5 = .ok (.iconst 2, 1) := by decide +kernel
theorem qd_X_isNeedless_6 : decode qb_X_isNeedless 6 = .ok (.invokevirtual 125, 3) := by decide +kernel
theorem qd_X_isNeedless_9 : decode qb_X_isNeedless 9 = .ok (.istore_n 2, 1) := by decide +kernel
theorem qd_X_isNeedless_10 : decode qb_X_isNeedless 10 = .ok (.aload_n 0, 1) := by decide +kernel
theorem qd_X_isNeedless_11 : decode qb_X_isNeedless 11 = .ok (.getfield 19, 3) := by decide +kernel
theorem qd_X_isNeedless_14 : decode qb_X_isNeedless 14 = .ok (.iload_n 1, 1) := by decide +kernel
theorem qd_X_isNeedless_15 : decode qb_X_isNeedless 15 = .ok (.iconst 1, 1) := by decide +kernel
theorem qd_X_isNeedless_16 : decode qb_X_isNeedless 16 = .ok (.iadd, 1) := by decide +kernel
theorem qd_X_isNeedless_17 : decode qb_X_isNeedless 17 = .ok (.iconst 2, 1) := by decide +kernel
theorem qd_X_isNeedless_18 : decode qb_X_isNeedless 18 = .ok (.invokevirtual 125, 3) := by decide +kernel
theorem qd_X_isNeedless_21 : decode qb_X_isNeedless 21 = .ok (.iload_n 2, 1) := by decide +kernel
theorem qd_X_isNeedless_22 : decode qb_X_isNeedless 22 = .ok (.if_icmp .eq 5, 3) := by decide +kernel
theorem qd_X_isNeedless_25 : decode qb_X_isNeedless 25 = .ok (.iconst 0, 1) := by decide +kernel
theorem qd_X_isNeedless_26 : decode qb_X_isNeedless 26 = .ok (.ireturn, 1) := by decide +kernel
theorem qd_X_isNeedless_27 : decode qb_X_isNeedless 27 = .ok (.aload_n 0, 1) := by decide +kernel
theorem qd_X_isNeedless_28 : decode qb_X_isNeedless 28 = .ok (.getfield 19, 3) := by decide +kernel
theorem qd_X_isNeedless_31 : decode qb_X_isNeedless 31 = .ok (.iload_n 1, 1) := by decide +kernel
theorem qd_X_isNeedless_32 : decode qb_X_isNeedless 32 = .ok (.iconst 0, 1) := by decide +kernel
theorem qd_X_isNeedless_33 : decode qb_X_isNeedless 33 = .ok (.invokevirtual 125, 3) := by decide +kernel
theorem qd_X_isNeedless_36 : decode qb_X_isNeedless 36 = .ok (.aload_n 0, 1) := by decide +kernel
theorem qd_X_isNeedless_37 : decode qb_X_isNeedless 37 = .ok (.getfield 9, 3) := by decide +kernel
theorem qd_X_isNeedless_40 : decode qb_X_isNeedless 40 = .ok (.iconst 0, 1) := by decide +kernel
theorem qd_X_isNeedless_41 : decode qb_X_isNeedless 41 = .ok (.iaload, 1) := by decide +kernel
theorem qd_X_isNeedless_42 : decode qb_X_isNeedless 42 = .ok (.iadd, 1) := by decide +kernel
theorem qd_X_isNeedless_43 : decode qb_X_isNeedless 43 = .ok (.istore_n 3, 1) := by decide +kernel
theorem qd_X_isNeedless_44 : decode qb_X_isNeedless 44 = .ok (.aload_n 0, 1) := by decide +kernel
theorem qd_X_isNeedless_45 : decode qb_X_isNeedless 45 = .ok (.getfield 19, 3) := by decide +kernel
theorem qd_X_isNeedless_48 : decode qb_X_isNeedless 48 = .ok (.iload_n 1, 1) := by decide +kernel
theorem qd_X_isNeedless_49 : decode qb_X_isNeedless 49 = .ok (.iconst 1, 1) := by decide +kernel
theorem qd_X_isNeedless_50 : decode qb_X_isNeedless 50 = .ok (.iadd, 1) := by decide +kernel
theorem qd_X_isNeedless_51 : decode qb_X_isNeedless 51 = .ok (.iconst 0, 1) := by decide +kernel
theorem qd_X_isNeedless_52 : decode qb_X_isNeedless 52 = .ok (.invokevirtual 125, 3) := by decide +kernel
theorem qd_X_isNeedless_55 : decode qb_X_isNeedless 55 = .ok (.iconst 1, 1) := by decide +kernel
theorem qd_X_isNeedless_56 : decode qb_X_isNeedless 56 = .ok (.isub, 1) := by decide +kernel
theorem qd_X_isNeedless_57 : decode qb_X_isNeedless 57 = .ok (.aload_n 0, 1) := by decide +kernel
theorem qd_X_isNeedless_58 : decode qb_X_isNeedless 58 = .ok (.getfield 9, 3) := by decide +kernel
theorem qd_X_isNeedless_61 : decode qb_X_isNeedless 61 = .ok (.iconst 0, 1) := by decide +kernel
theorem qd_X_isNeedless_62 : decode qb_X_isNeedless 62 = .ok (.iaload, 1) := by decide +kernel
theorem qd_X_isNeedless_63 : decode qb_X_isNeedless 63 = .ok (.iadd, 1) := by decide +kernel
theorem qd_X_isNeedless_64 : decode qb_X_isNeedless 64 = .ok (.istore 4, 2) := by decide +kernel
theorem qd_X_isNeedless_66 : decode qb_X_isNeedless 66 = .ok (.iload 4, 2) := by decide +kernel
theorem qd_X_isNeedless_68 : decode qb_X_isNeedless 68 = .ok (.aload_n 0, 1) := by decide +kernel
theorem qd_X_isNeedless_69 : decode qb_X_isNeedless 69 = .ok (.invokevirtual 109, 3) := by decide +kernel
theorem qd_X_isNeedless_72 : decode qb_X_isNeedless 72 = .ok (.if_icmp .gt 24, 3) := by decide +kernel
theorem qd_X_isNeedless_75 : decode qb_X_isNeedless 75 = .ok (.aload_n 0, 1) := by decide +kernel
theorem qd_X_isNeedless_76 : decode qb_X_isNeedless 76 = .ok (.getfield 26, 3) := by decide +kernel
theorem qd_X_isNeedless_79 : decode qb_X_isNeedless 79 = .ok (.iload_n 2, 1) := by decide +kernel
theorem qd_X_isNeedless_80 : decode qb_X_isNeedless 80 = .ok (.bipush 16, 2) := by decide +kernel
theorem qd_X_isNeedless_82 : decode qb_X_isNeedless 82 = .ok (.irem, 1) := by decide +kernel
theorem qd_X_isNeedless_83 : decode qb_X_isNeedless 83 = .ok (.iload_n 3, 1) := by decide +kernel
theorem qd_X_isNeedless_84 : decode qb_X_isNeedless 84 = .ok (.iload 4, 2) := by decide +kernel
theorem qd_X_isNeedless_86 : decode qb_X_isNeedless 86 = .ok (.invokevirtual 193, 3) := by decide +kernel
theorem qd_X_isNeedless_89 : decode qb_X_isNeedless 89 = .ok (.ifCond .ne 7, 3) := by decide +kernel
theorem qd_X_isNeedless_92 : decode qb_X_isNeedless 92 = .ok (.iconst 1, 1) := by decide +kernel
theorem qd_X_isNeedless_93 : decode qb_X_isNeedless 93 = .ok (.goto (4), 3) := by decide +kernel
theorem qd_X_isNeedless_96 : decode qb_X_isNeedless 96 = .ok (.iconst 0, 1) := by decide +kernel
theorem qd_X_isNeedless_97 : decode qb_X_isNeedless 97 = .ok (.ireturn, 1) := by decide +kernel
theorem qd_O_init_0 : decode qb_O_init 0 = .ok (.aload_n 0, 1) := by decide +kernel
theorem qd_O_init_1 : decode qb_O_init 1 = .ok (.invokespecial 3, 3) := by decide +kernel
theorem qd_O_init_4 : decode qb_O_init 4 = .ok (.aload_n 0, 1) := by decide +kernel
theorem qd_O_init_5 : decode qb_O_init 5 = .ok (.new 9, 3) := by decide +kernel
theorem qd_O_init_8 : decode qb_O_init 8 = .ok (.dup, 1) := by decide +kernel
theorem qd_O_init_9 : decode qb_O_init 9 = .ok (.bipush 11, 2) := by decide +kernel
theorem qd_O_init_11 : decode qb_O_init 11 = .ok (.sipush 192, 3) := by decide +kernel
theorem qd_O_init_14 : decode qb_O_init 14 = .ok (.invokespecial 13, 3) := by decide +kernel
theorem qd_O_init_17 : decode qb_O_init 17 = .ok (.putfield 16, 3) := by decide +kernel
theorem qd_O_init_20 : decode qb_O_init 20 = .ok (.return_, 1) := by decide +kernel
theorem qd_O_size_0 : decode qb_O_size 0 = .ok (.aload_n 0, 1) := by decide +kernel
theorem qd_O_size_1 : decode qb_O_size 1 = .ok (.getfield 16, 3) := by decide +kernel
theorem qd_O_size_4 : decode qb_O_size 4 = .ok (.invokevirtual 20, 3) := by decide +kernel
theorem qd_O_size_7 : decode qb_O_size 7 = .ok (.ireturn, 1) := by decide +kernel
theorem qd_O_get_0 : decode qb_O_get 0 = .ok (.aload_n 0, 1) := by decide +kernel
theorem qd_O_get_1 : decode qb_O_get 1 = .ok (.getfield 16, 3) := by decide +kernel
theorem qd_O_get_4 : decode qb_O_get 4 = .ok (.iload_n 1, 1) := by decide +kernel
theorem qd_O_get_5 : decode qb_O_get 5 = .ok (.iload_n 2, 1) := by decide +kernel
theorem qd_O_get_6 : decode qb_O_get 6 = .ok (.invokevirtual 24, 3) := by decide +kernel
theorem qd_O_get_9 : decode qb_O_get 9 = .ok (.ireturn, 1) := by decide +kernel
theorem qd_O_clear_0 : decode qb_O_clear 0 = .ok (.aload_n 0, 1) := by decide +kernel
theorem qd_O_clear_1 : decode qb_O_clear 1 = .ok (.getfield 16, 3) := by decide +kernel
theorem qd_O_clear_4 : decode qb_O_clear 4 = .ok (.invokevirtual 28, 3) := by decide +kernel
theorem qd_O_clear_7 : decode qb_O_clear 7 = .ok (.return_, 1) := by decide +kernel
theorem qd_O_add_0 : decode qb_O_add 0 = .ok (.aload_n 0, 1) := by decide +kernel
theorem qd_O_add_1 : decode qb_O_add 1 = .ok (.getfield 16, 3) := by decide +kernel
theorem qd_O_add_4 : decode qb_O_add 4 = .ok (.invokevirtual 20, 3) := by decide +kernel
theorem qd_O_add_7 : decode qb_O_add 7 = .ok (.istore 4, 2) := by decide +kernel
theorem qd_O_add_9 : decode qb_O_add 9 = .ok (.aload_n 2, 1) := by decide +kernel
theorem qd_O_add_10 : decode qb_O_add 10 = .ok (.ifnull 15, 3) := by decide +kernel
theorem qd_O_add_13 : decode qb_O_add 13 = .ok (.aload_n 0, 1) := by decide +kernel
theorem qd_O_add_14 : decode qb_O_add 14 = .ok (.getfield 16, 3) := by decide +kernel
theorem qd_O_add_17 : decode qb_O_add 17 = .ok (.iload 4, 2) := by decide +kernel
theorem qd_O_add_19 : decode qb_O_add 19 = .ok (.invokevirtual 31, 3) := by decide +kernel
theorem qd_O_add_22 : decode qb_O_add 22 = .ok (.ifCond .ne 4, 3) := by decide +kernel
theorem qd_O_add_25 : decode qb_O_add 25 = .ok (.return_, 1) := by decide +kernel
theorem qd_O_add_26 : decode qb_O_add 26 = .ok (.iload_n 1, 1) := by decide +kernel
theorem qd_O_add_27 : decode qb_O_add 27 = .ok (.iconst 1, 1) := by decide +kernel
theorem qd_O_add_28 : decode qb_O_add 28 = .ok (.if_icmp .ne 16, 3) := by decide +kernel
theorem qd_O_add_31 : decode qb_O_add 31 = .ok (.aload_n 0, 1) := by decide +kernel
theorem qd_O_add_32 : decode qb_O_add 32 = .ok (.dup, 1) := by decide +kernel
theorem qd_O_add_33 : decode qb_O_add 33 = .ok (.getfield 35, 3) := by decide +kernel
theorem qd_O_add_36 : decode qb_O_add 36 = .ok (.iconst 1, 1) := by decide +kernel
theorem qd_O_add_37 : decode qb_O_add 37 = .ok (.iadd, 1) := by decide +kernel
theorem qd_O_add_38 : decode qb_O_add 38 = .ok (.putfield 35, 3) := by decide +kernel
theorem qd_O_add_41 : decode qb_O_add 41 = .ok (.goto (13), 3) := by decide +kernel
theorem qd_O_add_44 : decode qb_O_add 44 = .ok (.aload_n 0, 1) := by decide +kernel
theorem qd_O_add_45 : decode qb_O_add 45 = .ok (.dup, 1) := by decide +kernel
theorem qd_O_add_46 : decode qb_O_add 46 = .ok (.getfield 39, 3) := by decide +kernel
theorem qd_O_add_49 : decode qb_O_add 49 = .ok (.iconst 1, 1) := by decide +kernel
theorem qd_O_add_50 : decode qb_O_add 50 = .ok (.iadd, 1) := by decide +kernel
theorem qd_O_add_51 : decode qb_O_add 51 = .ok (.putfield 39, 3) := by decide +kernel
theorem qd_O_add_54 : decode qb_O_add 54 = .ok (.aload_n 0, 1) := by decide +kernel
theorem qd_O_add_55 : decode qb_O_add 55 = .ok (.getfield 16, 3) := by decide +kernel
theorem qd_O_add_58 : decode qb_O_add 58 = .ok (.iload 4, 2) := by decide +kernel
theorem qd_O_add_60 : decode qb_O_add 60 = .ok (.iconst 0, 1) := by decide +kernel
theorem qd_O_add_61 : decode qb_O_add 61 = .ok (.iload_n 1, 1) := by decide +kernel
theorem qd_O_add_62 : decode qb_O_add 62 = .ok (.invokevirtual 42, 3) := by decide +kernel
theorem qd_O_add_65 : decode qb_O_add 65 = .ok (.aload_n 0, 1) := by decide +kernel
theorem qd_O_add_66 : decode qb_O_add 66 = .ok (.getfield 16, 3) := by decide +kernel
theorem qd_O_add_69 : decode qb_O_add 69 = .ok (.iload 4, 2) := by decide +kernel
theorem qd_O_add_71 : decode qb_O_add 71 = .ok (.iconst 1, 1) := by decide +kernel
theorem qd_O_add_72 : decode qb_O_add 72 = .ok (.aload_n 2, 1) := by decide +kernel
theorem qd_O_add_73 : decode qb_O_add 73 = .ok (.iload_n 3, 1) := by decide +kernel
theorem qd_O_add_74 : decode qb_O_add 74 = .ok (.iconst 0, 1) := by decide +kernel
theorem qd_O_add_75 : decode qb_O_add 75 = .ok (.invokevirtual 48, 3) := by decide +kernel
theorem qd_O_add_78 : decode qb_O_add 78 = .ok (.invokevirtual 42, 3) := by decide +kernel
theorem qd_O_add_81 : decode qb_O_add 81 = .ok (.aload_n 0, 1) := by decide +kernel
theorem qd_O_add_82 : decode qb_O_add 82 = .ok (.getfield 16, 3) := by decide +kernel
theorem qd_O_add_85 : decode qb_O_add 85 = .ok (.iload 4, 2) := by decide +kernel
theorem qd_O_add_87 : decode qb_O_add 87 = .ok (.iconst 2, 1) := by decide +kernel
theorem qd_O_add_88 : decode qb_O_add 88 = .ok (.aload_n 2, 1) := by decide +kernel
theorem qd_O_add_89 : decode qb_O_add 89 = .ok (.iload_n 3, 1) := by decide +kernel
theorem qd_O_add_90 : decode qb_O_add 90 = .ok (.iconst 1, 1) := by decide +kernel
theorem qd_O_add_91 : decode qb_O_add 91 = .ok (.invokevirtual 48, 3) := by decide +kernel
theorem qd_O_add_94 : decode qb_O_add 94 = .ok (.invokevirtual 42, 3) := by decide +kernel
theorem qd_O_add_97 : decode qb_O_add 97 = .ok (.aload_n 0, 1) := by decide +kernel
theorem qd_O_add_98 : decode qb_O_add 98 = .ok (.getfield 16, 3) := by decide +kernel
theorem qd_O_add_101 : decode qb_O_add 101 = .ok (.iload 4, 2) := by decide +kernel
theorem qd_O_add_103 : decode qb_O_add 103 = .ok (.iconst 3, 1) := by decide +kernel
theorem qd_O_add_104 : decode qb_O_add 104 = .ok (.aload_n 2, 1) := by decide +kernel
theorem qd_O_add_105 : decode qb_O_add 105 = .ok (.iload_n 3, 1) := by decide +kernel
theorem qd_O_add_106 : decode qb_O_add 106 = .ok (.iconst 2, 1) := by decide +kernel
theorem qd_O_add_107 : decode qb_O_add 107 = .ok (.invokevirtual 48, 3) := by decide +kernel
theorem qd_O_add_110 : decode qb_O_add 110 = .ok (.invokevirtual 42, 3) := by decide +kernel
theorem qd_O_add_113 : decode qb_O_add 113 = .ok (.aload_n 0, 1) := by decide +kernel
theorem qd_O_add_114 : decode qb_O_add 114 = .ok (.getfield 16, 3) := by decide +kernel
theorem qd_O_add_117 : decode qb_O_add 117 = .ok (.iload 4, 2) := by decide +kernel
theorem qd_O_add_119 : decode qb_O_add 119 = .ok (.iconst 4, 1) := by decide +kernel
theorem qd_O_add_120 : decode qb_O_add 120 = .ok (.aload_n 2, 1) := by decide +kernel
theorem qd_O_add_121 : decode qb_O_add 121 = .ok (.iload_n 3, 1) := by decide +kernel
theorem qd_O_add_122 : decode qb_O_add 122 = .ok (.iconst 3, 1) := by decide +kernel
theorem qd_O_add_123 : decode qb_O_add 123 = .ok (.invokevirtual 48, 3) := by decide +kernel
theorem qd_O_add_126 : decode qb_O_add 126 = .ok (.invokevirtual 42, 3) := by decide +kernel
theorem qd_O_add_129 : decode qb_O_add 129 = .ok (.iconst 0, 1) := by decide +kernel
theorem qd_O_add_130 : decode qb_O_add 130 = .ok (.istore 5, 2) := by decide +kernel
theorem qd_O_add_132 : decode qb_O_add 132 = .ok (.iload 5, 2) := by decide +kernel
theorem qd_O_add_134 : decode qb_O_add 134 = .ok (.bipush 6, 2) := by decide +kernel
theorem qd_O_add_136 : decode qb_O_add 136 = .ok (.if_icmp .ge 32, 3) := by decide +kernel
theorem qd_O_add_139 : decode qb_O_add 139 = .ok (.aload_n 0, 1) := by decide +kernel
theorem qd_O_add_140 : decode qb_O_add 140 = .ok (.getfield 16, 3) := by decide +kernel
theorem qd_O_add_143 : decode qb_O_add 143 = .ok (.iload 4, 2) := by decide +kernel
theorem qd_O_add_145 : decode qb_O_add 145 = .ok (.iconst 5, 1) := by decide +kernel
theorem qd_O_add_146 : decode qb_O_add 146 = .ok (.iload 5, 2) := by decide +kernel
theorem qd_O_add_148 : decode qb_O_add 148 = .ok (.iadd, 1) := by decide +kernel
theorem qd_O_add_149 : decode qb_O_add 149 = .ok (.aload_n 2, 1) := by decide +kernel
theorem qd_O_add_150 : decode qb_O_add 150 = .ok (.iload_n 3, 1) := by decide +kernel
theorem qd_O_add_151 : decode qb_O_add 151 = .ok (.bipush 6, 2) := by decide +kernel
theorem qd_O_add_153 : decode qb_O_add 153 = .ok (.iload 5, 2) := by decide +kernel
theorem qd_O_add_155 : decode qb_O_add 155 = .ok (.iadd, 1) := by decide +kernel
theorem qd_O_add_156 : decode qb_O_add 156 = .ok (.invokevirtual 48, 3) := by decide +kernel
theorem qd_O_add_159 : decode qb_O_add 159 = .ok (.invokevirtual 42, 3) := by decide +kernel
theorem qd_O_add_162 : decode qb_O_add 162 = .ok (.iinc 5 (1), 3) := by decide +kernel
theorem qd_O_add_165 : decode qb_O_add 165 = .ok (.goto (-33), 3) := by decide +kernel
theorem qd_O_add_168 : decode qb_O_add 168 = .ok (.return_, 1) := by decide +kernel
theorem qd_R_init_0 : decode qb_R_init 0 = .ok (.aload_n 0, 1) := by decide +kernel
theorem qd_R_init_1 : decode qb_R_init 1 = .ok (.invokespecial 3, 3) := by decide +kernel
theorem qd_R_init_4 : decode qb_R_init 4 = .ok (.aload_n 0, 1) := by decide +kernel
theorem qd_R_init_5 : decode qb_R_init 5 = .ok (.new 9, 3) := by decide +kernel
theorem qd_R_init_8 : decode qb_R_init 8 = .ok (.dup, 1) := by decide +kernel
theorem qd_R_init_9 : decode qb_R_init 9 = .ok (.bipush 12, 2) := by decide +kernel
theorem qd_R_init_11 : decode qb_R_init 11 = .ok (.bipush 96, 2) := by decide +kernel
theorem qd_R_init_13 : decode qb_R_init 13 = .ok (.invokespecial 13, 3) := by decide +kernel
theorem qd_R_init_16 : decode qb_R_init 16 = .ok (.putfield 16, 3) := by decide +kernel
theorem qd_R_init_19 : decode qb_R_init 19 = .ok (.return_, 1) := by decide +kernel
theorem qd_R_size_0 : decode qb_R_size 0 = .ok (.aload_n 0, 1) := by decide +kernel
theorem qd_R_size_1 : decode qb_R_size 1 = .ok (.getfield 16, 3) := by decide +kernel
theorem qd_R_size_4 : decode qb_R_size 4 = .ok (.invokevirtual 20, 3) := by decide +kernel
theorem qd_R_size_7 : decode qb_R_size 7 = .ok (.ireturn, 1) := by decide +kernel
theorem qd_R_get_0 : decode qb_R_get 0 = .ok (.aload_n 0, 1) := by decide +kernel
theorem qd_R_get_1 : decode qb_R_get 1 = .ok (.getfield 16, 3) := by decide +kernel
theorem qd_R_get_4 : decode qb_R_get 4 = .ok (.iload_n 1, 1) := by decide +kernel
theorem qd_R_get_5 : decode qb_R_get 5 = .ok (.iload_n 2, 1) := by decide +kernel
theorem qd_R_get_6 : decode qb_R_get 6 = .ok (.invokevirtual 24, 3) := by decide +kernel
theorem qd_R_get_9 : decode qb_R_get 9 = .ok (.ireturn, 1) := by decide +kernel
theorem qd_R_waits_0 : decode qb_R_waits 0 = .ok (.aload_n 0, 1) := by decide +kernel
theorem qd_R_waits_1 : decode qb_R_waits 1 = .ok (.getfield 16, 3) := by decide +kernel
theorem qd_R_waits_4 : decode qb_R_waits 4 = .ok (.iload_n 1, 1) := by decide +kernel
theorem qd_R_waits_5 : decode qb_R_waits 5 = .ok (.iconst 4, 1) := by decide +kernel
theorem qd_R_waits_6 : decode qb_R_waits 6 = .ok (.invokevirtual 24, 3) := by decide +kernel
theorem qd_R_waits_9 : decode qb_R_waits 9 = .ok (.iconst 1, 1) := by decide +kernel
theorem qd_R_waits_10 : decode qb_R_waits 10 = .ok (.if_icmp .ne 7, 3) := by decide +kernel
theorem qd_R_waits_13 : decode qb_R_waits 13 = .ok (.iconst 1, 1) := by decide +kernel
theorem qd_R_waits_14 : decode qb_R_waits 14 = .ok (.goto (4), 3) := by decide +kernel
theorem qd_R_waits_17 : decode qb_R_waits 17 = .ok (.iconst 0, 1) := by decide +kernel
theorem qd_R_waits_18 : decode qb_R_waits 18 = .ok (.ireturn, 1) := by decide +kernel
theorem qd_R_wasGiven_0 : decode qb_R_wasGiven 0 = .ok (.aload_n 0, 1) := by decide +kernel
theorem qd_R_wasGiven_1 : decode qb_R_wasGiven 1 = .ok (.getfield 16, 3) := by decide +kernel
theorem qd_R_wasGiven_4 : decode qb_R_wasGiven 4 = .ok (.iload_n 1, 1) := by decide +kernel
theorem qd_R_wasGiven_5 : decode qb_R_wasGiven 5 = .ok (.iconst 5, 1) := by decide +kernel
theorem qd_R_wasGiven_6 : decode qb_R_wasGiven 6 = .ok (.invokevirtual 24, 3) := by decide +kernel
theorem qd_R_wasGiven_9 : decode qb_R_wasGiven 9 = .ok (.iconst 1, 1) := by decide +kernel
theorem qd_R_wasGiven_10 : decode qb_R_wasGiven 10 = .ok (.if_icmp .ne 7, 3) := by decide +kernel
theorem qd_R_wasGiven_13 : decode qb_R_wasGiven 13 = .ok (.iconst 1, 1) := by decide +kernel
theorem qd_R_wasGiven_14 : decode qb_R_wasGiven 14 = .ok (.goto (4), 3) := by decide +kernel
theorem qd_R_wasGiven_17 : decode qb_R_wasGiven 17 = .ok (.iconst 0, 1) := by decide +kernel
theorem qd_R_wasGiven_18 : decode qb_R_wasGiven 18 = .ok (.ireturn, 1) := by decide +kernel
theorem qd_R_add_0 : decode qb_R_add 0 = .ok (.aload_n 0, 1) := by decide +kernel
theorem qd_R_add_1 : decode qb_R_add 1 = .ok (.getfield 16, 3) := by decide +kernel
theorem qd_R_add_4 : decode qb_R_add 4 = .ok (.invokevirtual 20, 3) := by decide +kernel
theorem qd_R_add_7 : decode qb_R_add 7 = .ok (.istore 5, 2) := by decide +kernel
theorem qd_R_add_9 : decode qb_R_add 9 = .ok (.iload 5, 2) := by decide +kernel
theorem qd_R_add_11 : decode qb_R_add 11 = .ok (.ifCond .le 25, 3) := by decide +kernel
theorem qd_R_add_14 : decode qb_R_add 14 = .ok (.aload_n 0, 1) := by decide +kernel
theorem qd_R_add_15 : decode qb_R_add 15 = .ok (.getfield 16, 3) := by decide +kernel
theorem qd_R_add_18 : decode qb_R_add 18 = .ok (.iload 5, 2) := by decide +kernel
theorem qd_R_add_20 : decode qb_R_add 20 = .ok (.iconst 1, 1) := by decide +kernel
theorem qd_R_add_21 : decode qb_R_add 21 = .ok (.isub, 1) := by decide +kernel
theorem qd_R_add_22 : decode qb_R_add 22 = .ok (.iconst 2, 1) := by decide +kernel
theorem qd_R_add_23 : decode qb_R_add 23 = .ok (.invokevirtual 24, 3) := by decide +kernel
theorem qd_R_add_26 : decode qb_R_add 26 = .ok (.iload_n 3, 1) := by decide +kernel
theorem qd_R_add_27 : decode qb_R_add 27 = .ok (.if_icmp .le 9, 3) := by decide +kernel
theorem qd_R_add_30 : decode qb_R_add 30 = .ok (.iinc 5 (-1), 3) := by decide +kernel
theorem qd_R_add_33 : decode qb_R_add 33 = .ok (.goto (-24), 3) := by decide +kernel
theorem qd_R_add_36 : decode qb_R_add 36 = .ok (.aload_n 0, 1) := by decide +kernel
theorem qd_R_add_37 : decode qb_R_add 37 = .ok (.getfield 16, 3) := by decide +kernel
theorem qd_R_add_40 : decode qb_R_add 40 = .ok (.iload 5, 2) := by decide +kernel
theorem qd_R_add_42 : decode qb_R_add 42 = .ok (.invokevirtual 28, 3) := by decide +kernel
theorem qd_R_add_45 : decode qb_R_add 45 = .ok (.ifCond .eq 70, 3) := by decide +kernel
theorem qd_R_add_48 : decode qb_R_add 48 = .ok (.aload_n 0, 1) := by decide +kernel
theorem qd_R_add_49 : decode qb_R_add 49 = .ok (.getfield 16, 3) := by decide +kernel
theorem qd_R_add_52 : decode qb_R_add 52 = .ok (.iload 5, 2) := by decide +kernel
theorem qd_R_add_54 : decode qb_R_add 54 = .ok (.iconst 0, 1) := by decide +kernel
theorem qd_R_add_55 : decode qb_R_add 55 = .ok (.iload_n 1, 1) := by decide +kernel
theorem qd_R_add_56 : decode qb_R_add 56 = .ok (.invokevirtual 32, 3) := by decide +kernel
theorem qd_R_add_59 : decode qb_R_add 59 = .ok (.aload_n 0, 1) := by decide +kernel
theorem qd_R_add_60 : decode qb_R_add 60 = .ok (.getfield 16, 3) := by decide +kernel
theorem qd_R_add_63 : decode qb_R_add 63 = .ok (.iload 5, 2) := by decide +kernel
theorem qd_R_add_65 : decode qb_R_add 65 = .ok (.iconst 1, 1) := by decide +kernel
theorem qd_R_add_66 : decode qb_R_add 66 = .ok (.iload_n 2, 1) := by decide +kernel
theorem qd_R_add_67 : decode qb_R_add 67 = .ok (.invokevirtual 32, 3) := by decide +kernel
theorem qd_R_add_70 : decode qb_R_add 70 = .ok (.aload_n 0, 1) := by decide +kernel
theorem qd_R_add_71 : decode qb_R_add 71 = .ok (.getfield 16, 3) := by decide +kernel
theorem qd_R_add_74 : decode qb_R_add 74 = .ok (.iload 5, 2) := by decide +kernel
theorem qd_R_add_76 : decode qb_R_add 76 = .ok (.iconst 2, 1) := by decide +kernel
theorem qd_R_add_77 : decode qb_R_add 77 = .ok (.iload_n 3, 1) := by decide +kernel
theorem qd_R_add_78 : decode qb_R_add 78 = .ok (.invokevirtual 32, 3) := by decide +kernel
theorem qd_R_add_81 : decode qb_R_add 81 = .ok (.aload_n 0, 1) := by decide +kernel
theorem qd_R_add_82 : decode qb_R_add 82 = .ok (.getfield 16, 3) := by decide +kernel
theorem qd_R_add_85 : decode qb_R_add 85 = .ok (.iload 5, 2) := by decide +kernel
theorem qd_R_add_87 : decode qb_R_add 87 = .ok (.iconst 3, 1) := by decide +kernel
theorem qd_R_add_88 : decode qb_R_add 88 = .ok (.iload 4, 2) := by decide +kernel
theorem qd_R_add_90 : decode qb_R_add 90 = .ok (.invokevirtual 32, 3) := by decide +kernel
theorem qd_R_add_93 : decode qb_R_add 93 = .ok (.aload_n 0, 1) := by decide +kernel
theorem qd_R_add_94 : decode qb_R_add 94 = .ok (.getfield 16, 3) := by decide +kernel
theorem qd_R_add_97 : decode qb_R_add 97 = .ok (.iload 5, 2) := by decide +kernel
theorem qd_R_add_99 : decode qb_R_add 99 = .ok (.iconst 4, 1) := by decide +kernel
theorem qd_R_add_100 : decode qb_R_add 100 = .ok (.iconst 1, 1) := by decide +kernel
theorem qd_R_add_101 : decode qb_R_add 101 = .ok (.invokevirtual 32, 3) := by decide +kernel
theorem qd_R_add_104 : decode qb_R_add 104 = .ok (.aload_n 0, 1) := by decide +kernel
theorem qd_R_add_105 : decode qb_R_add 105 = .ok (.getfield 16, 3) := by decide +kernel
theorem qd_R_add_108 : decode qb_R_add 108 = .ok (.iload 5, 2) := by decide +kernel
theorem qd_R_add_110 : decode qb_R_add 110 = .ok (.iconst 5, 1) := by decide +kernel
theorem qd_R_add_111 : decode qb_R_add 111 = .ok (.iconst 0, 1) := by decide +kernel
theorem qd_R_add_112 : decode qb_R_add 112 = .ok (.invokevirtual 32, 3) := by decide +kernel
theorem qd_R_add_115 : decode qb_R_add 115 = .ok (.return_, 1) := by decide +kernel
theorem qd_R_setJoin_0 : decode qb_R_setJoin 0 = .ok (.aload_n 2, 1) := by decide +kernel
theorem qd_R_setJoin_1 : decode qb_R_setJoin 1 = .ok (.ifnonnull 4, 3) := by decide +kernel
theorem qd_R_setJoin_4 : decode qb_R_setJoin 4 = .ok (.return_, 1) := by decide +kernel
theorem qd_R_setJoin_5 : decode qb_R_setJoin 5 = .ok (.aload_n 0, 1) := by decide +kernel
theorem qd_R_setJoin_6 : decode qb_R_setJoin 6 = .ok (.getfield 16, 3) := by decide +kernel
theorem qd_R_setJoin_9 : decode qb_R_setJoin 9 = .ok (.iload_n 1, 1) := by decide +kernel
theorem qd_R_setJoin_10 : decode qb_R_setJoin 10 = .ok (.iconst 4, 1) := by decide +kernel
theorem qd_R_setJoin_11 : decode qb_R_setJoin 11 = .ok (.iconst 0, 1) := by decide +kernel
theorem qd_R_setJoin_12 : decode qb_R_setJoin 12 = .ok (.invokevirtual 32, 3) := by decide +kernel
theorem qd_R_setJoin_15 : decode qb_R_setJoin 15 = .ok (.aload_n 0, 1) := by decide +kernel
end
section
theorem qd_R_setJoin_16 : decode qb_R_setJoin 16 = .ok (.getfield 16, 3) := by decide +kernel
theorem qd_R_setJoin_19 : decode qb_R_setJoin 19 = .ok (.iload_n 1, 1) := by decide +kernel
theorem qd_R_setJoin_20 : decode qb_R_setJoin 20 = .ok (.iconst 5, 1) := by decide +kernel
theorem qd_R_setJoin_21 : decode qb_R_setJoin 21 = .ok (.iload_n 3, 1) := by decide +kernel
theorem qd_R_setJoin_22 : decode qb_R_setJoin 22 = .ok (.ifCond .eq 7, 3) := by decide +kernel
theorem qd_R_setJoin_25 : decode qb_R_setJoin 25 = .ok (.iconst 1, 1) := by decide +kernel
theorem qd_R_setJoin_26 : decode qb_R_setJoin 26 = .ok (.goto (4), 3) := by decide +kernel
theorem qd_R_setJoin_29 : decode qb_R_setJoin 29 = .ok (.iconst 0, 1) := by decide +kernel
theorem qd_R_setJoin_30 : decode qb_R_setJoin 30 = .ok (.invokevirtual 32, 3) := by decide +kernel
theorem qd_R_setJoin_33 : decode qb_R_setJoin 33 = .ok (.iconst 0, 1) := by decide +kernel
theorem qd_R_setJoin_34 : decode qb_R_setJoin 34 = .ok (.istore 4, 2) := by decide +kernel
theorem qd_R_setJoin_36 : decode qb_R_setJoin 36 = .ok (.iload 4, 2) := by decide +kernel
theorem qd_R_setJoin_38 : decode qb_R_setJoin 38 = .ok (.bipush 6, 2) := by decide +kernel
theorem qd_R_setJoin_40 : decode qb_R_setJoin 40 = .ok (.if_icmp .ge 33, 3) := by decide +kernel
theorem qd_R_setJoin_43 : decode qb_R_setJoin 43 = .ok (.iload 4, 2) := by decide +kernel
theorem qd_R_setJoin_45 : decode qb_R_setJoin 45 = .ok (.aload_n 2, 1) := by decide +kernel
theorem qd_R_setJoin_46 : decode qb_R_setJoin 46 = .ok (.arraylength, 1) := by decide +kernel
theorem qd_R_setJoin_47 : decode qb_R_setJoin 47 = .ok (.if_icmp .ge 26, 3) := by decide +kernel
theorem qd_R_setJoin_50 : decode qb_R_setJoin 50 = .ok (.aload_n 0, 1) := by decide +kernel
theorem qd_R_setJoin_51 : decode qb_R_setJoin 51 = .ok (.getfield 16, 3) := by decide +kernel
theorem qd_R_setJoin_54 : decode qb_R_setJoin 54 = .ok (.iload_n 1, 1) := by decide +kernel
theorem qd_R_setJoin_55 : decode qb_R_setJoin 55 = .ok (.bipush 6, 2) := by decide +kernel
theorem qd_R_setJoin_57 : decode qb_R_setJoin 57 = .ok (.iload 4, 2) := by decide +kernel
theorem qd_R_setJoin_59 : decode qb_R_setJoin 59 = .ok (.iadd, 1) := by decide +kernel
theorem qd_R_setJoin_60 : decode qb_R_setJoin 60 = .ok (.aload_n 2, 1) := by decide +kernel
theorem qd_R_setJoin_61 : decode qb_R_setJoin 61 = .ok (.iload 4, 2) := by decide +kernel
theorem qd_R_setJoin_63 : decode qb_R_setJoin 63 = .ok (.iaload, 1) := by decide +kernel
theorem qd_R_setJoin_64 : decode qb_R_setJoin 64 = .ok (.invokevirtual 32, 3) := by decide +kernel
theorem qd_R_setJoin_67 : decode qb_R_setJoin 67 = .ok (.iinc 4 (1), 3) := by decide +kernel
theorem qd_R_setJoin_70 : decode qb_R_setJoin 70 = .ok (.goto (-34), 3) := by decide +kernel
theorem qd_R_setJoin_73 : decode qb_R_setJoin 73 = .ok (.return_, 1) := by decide +kernel
theorem qd_R_hasJoin_0 : decode qb_R_hasJoin 0 = .ok (.aload_n 2, 1) := by decide +kernel
theorem qd_R_hasJoin_1 : decode qb_R_hasJoin 1 = .ok (.ifnonnull 5, 3) := by decide +kernel
theorem qd_R_hasJoin_4 : decode qb_R_hasJoin 4 = .ok (.iconst 0, 1) := by decide +kernel
theorem qd_R_hasJoin_5 : decode qb_R_hasJoin 5 = .ok (.ireturn, 1) := by decide +kernel
theorem qd_R_hasJoin_6 : decode qb_R_hasJoin 6 = .ok (.iconst 0, 1) := by decide +kernel
theorem qd_R_hasJoin_7 : decode qb_R_hasJoin 7 = .ok (.istore_n 3, 1) := by decide +kernel
theorem qd_R_hasJoin_8 : decode qb_R_hasJoin 8 = .ok (.iload_n 3, 1) := by decide +kernel
theorem qd_R_hasJoin_9 : decode qb_R_hasJoin 9 = .ok (.bipush 6, 2) := by decide +kernel
theorem qd_R_hasJoin_11 : decode qb_R_hasJoin 11 = .ok (.if_icmp .ge 35, 3) := by decide +kernel
theorem qd_R_hasJoin_14 : decode qb_R_hasJoin 14 = .ok (.iload_n 3, 1) := by decide +kernel
theorem qd_R_hasJoin_15 : decode qb_R_hasJoin 15 = .ok (.aload_n 2, 1) := by decide +kernel
theorem qd_R_hasJoin_16 : decode qb_R_hasJoin 16 = .ok (.arraylength, 1) := by decide +kernel
theorem qd_R_hasJoin_17 : decode qb_R_hasJoin 17 = .ok (.if_icmp .ge 29, 3) := by decide +kernel
theorem qd_R_hasJoin_20 : decode qb_R_hasJoin 20 = .ok (.aload_n 0, 1) := by decide +kernel
theorem qd_R_hasJoin_21 : decode qb_R_hasJoin 21 = .ok (.getfield 16, 3) := by decide +kernel
theorem qd_R_hasJoin_24 : decode qb_R_hasJoin 24 = .ok (.iload_n 1, 1) := by decide +kernel
theorem qd_R_hasJoin_25 : decode qb_R_hasJoin 25 = .ok (.bipush 6, 2) := by decide +kernel
theorem qd_R_hasJoin_27 : decode qb_R_hasJoin 27 = .ok (.iload_n 3, 1) := by decide +kernel
theorem qd_R_hasJoin_28 : decode qb_R_hasJoin 28 = .ok (.iadd, 1) := by decide +kernel
theorem qd_R_hasJoin_29 : decode qb_R_hasJoin 29 = .ok (.invokevirtual 24, 3) := by decide +kernel
theorem qd_R_hasJoin_32 : decode qb_R_hasJoin 32 = .ok (.aload_n 2, 1) := by decide +kernel
theorem qd_R_hasJoin_33 : decode qb_R_hasJoin 33 = .ok (.iload_n 3, 1) := by decide +kernel
theorem qd_R_hasJoin_34 : decode qb_R_hasJoin 34 = .ok (.iaload, 1) := by decide +kernel
theorem qd_R_hasJoin_35 : decode qb_R_hasJoin 35 = .ok (.if_icmp .eq 5, 3) := by decide +kernel
theorem qd_R_hasJoin_38 : decode qb_R_hasJoin 38 = .ok (.iconst 0, 1) := by decide +kernel
theorem qd_R_hasJoin_39 : decode qb_R_hasJoin 39 = .ok (.ireturn, 1) := by decide +kernel
theorem qd_R_hasJoin_40 : decode qb_R_hasJoin 40 = .ok (.iinc 3 (1), 3) := by decide +kernel
theorem qd_R_hasJoin_43 : decode qb_R_hasJoin 43 = .ok (.goto (-35), 3) := by decide +kernel
theorem qd_R_hasJoin_46 : decode qb_R_hasJoin 46 = .ok (.iconst 1, 1) := by decide +kernel
theorem qd_R_hasJoin_47 : decode qb_R_hasJoin 47 = .ok (.ireturn, 1) := by decide +kernel
theorem qd_R_waiting_0 : decode qb_R_waiting 0 = .ok (.iconst 0, 1) := by decide +kernel
theorem qd_R_waiting_1 : decode qb_R_waiting 1 = .ok (.istore_n 1, 1) := by decide +kernel
theorem qd_R_waiting_2 : decode qb_R_waiting 2 = .ok (.iconst 0, 1) := by decide +kernel
theorem qd_R_waiting_3 : decode qb_R_waiting 3 = .ok (.istore_n 2, 1) := by decide +kernel
theorem qd_R_waiting_4 : decode qb_R_waiting 4 = .ok (.iload_n 2, 1) := by decide +kernel
theorem qd_R_waiting_5 : decode qb_R_waiting 5 = .ok (.aload_n 0, 1) := by decide +kernel
theorem qd_R_waiting_6 : decode qb_R_waiting 6 = .ok (.getfield 16, 3) := by decide +kernel
theorem qd_R_waiting_9 : decode qb_R_waiting 9 = .ok (.invokevirtual 20, 3) := by decide +kernel
theorem qd_R_waiting_12 : decode qb_R_waiting 12 = .ok (.if_icmp .ge 21, 3) := by decide +kernel
theorem qd_R_waiting_15 : decode qb_R_waiting 15 = .ok (.iload_n 1, 1) := by decide +kernel
theorem qd_R_waiting_16 : decode qb_R_waiting 16 = .ok (.aload_n 0, 1) := by decide +kernel
theorem qd_R_waiting_17 : decode qb_R_waiting 17 = .ok (.getfield 16, 3) := by decide +kernel
theorem qd_R_waiting_20 : decode qb_R_waiting 20 = .ok (.iload_n 2, 1) := by decide +kernel
theorem qd_R_waiting_21 : decode qb_R_waiting 21 = .ok (.iconst 4, 1) := by decide +kernel
theorem qd_R_waiting_22 : decode qb_R_waiting 22 = .ok (.invokevirtual 24, 3) := by decide +kernel
theorem qd_R_waiting_25 : decode qb_R_waiting 25 = .ok (.iadd, 1) := by decide +kernel
theorem qd_R_waiting_26 : decode qb_R_waiting 26 = .ok (.istore_n 1, 1) := by decide +kernel
theorem qd_R_waiting_27 : decode qb_R_waiting 27 = .ok (.iinc 2 (1), 3) := by decide +kernel
theorem qd_R_waiting_30 : decode qb_R_waiting 30 = .ok (.goto (-26), 3) := by decide +kernel
theorem qd_R_waiting_33 : decode qb_R_waiting 33 = .ok (.iload_n 1, 1) := by decide +kernel
theorem qd_R_waiting_34 : decode qb_R_waiting 34 = .ok (.ireturn, 1) := by decide +kernel
theorem qd_R_anyWaits_0 : decode qb_R_anyWaits 0 = .ok (.iconst 0, 1) := by decide +kernel
theorem qd_R_anyWaits_1 : decode qb_R_anyWaits 1 = .ok (.istore 4, 2) := by decide +kernel
theorem qd_R_anyWaits_3 : decode qb_R_anyWaits 3 = .ok (.iload 4, 2) := by decide +kernel
theorem qd_R_anyWaits_5 : decode qb_R_anyWaits 5 = .ok (.aload_n 0, 1) := by decide +kernel
theorem qd_R_anyWaits_6 : decode qb_R_anyWaits 6 = .ok (.getfield 16, 3) := by decide +kernel
theorem qd_R_anyWaits_9 : decode qb_R_anyWaits 9 = .ok (.invokevirtual 20, 3) := by decide +kernel
theorem qd_R_anyWaits_12 : decode qb_R_anyWaits 12 = .ok (.if_icmp .ge 58, 3) := by decide +kernel
theorem qd_R_anyWaits_15 : decode qb_R_anyWaits 15 = .ok (.aload_n 0, 1) := by decide +kernel
theorem qd_R_anyWaits_16 : decode qb_R_anyWaits 16 = .ok (.getfield 16, 3) := by decide +kernel
theorem qd_R_anyWaits_19 : decode qb_R_anyWaits 19 = .ok (.iload 4, 2) := by decide +kernel
theorem qd_R_anyWaits_21 : decode qb_R_anyWaits 21 = .ok (.iconst 2, 1) := by decide +kernel
theorem qd_R_anyWaits_22 : decode qb_R_anyWaits 22 = .ok (.invokevirtual 24, 3) := by decide +kernel
theorem qd_R_anyWaits_25 : decode qb_R_anyWaits 25 = .ok (.istore 5, 2) := by decide +kernel
theorem qd_R_anyWaits_27 : decode qb_R_anyWaits 27 = .ok (.aload_n 0, 1) := by decide +kernel
theorem qd_R_anyWaits_28 : decode qb_R_anyWaits 28 = .ok (.iload 4, 2) := by decide +kernel
theorem qd_R_anyWaits_30 : decode qb_R_anyWaits 30 = .ok (.invokevirtual 36, 3) := by decide +kernel
theorem qd_R_anyWaits_33 : decode qb_R_anyWaits 33 = .ok (.ifCond .eq 31, 3) := by decide +kernel
theorem qd_R_anyWaits_36 : decode qb_R_anyWaits 36 = .ok (.aload_n 0, 1) := by decide +kernel
theorem qd_R_anyWaits_37 : decode qb_R_anyWaits 37 = .ok (.getfield 16, 3) := by decide +kernel
theorem qd_R_anyWaits_40 : decode qb_R_anyWaits 40 = .ok (.iload 4, 2) := by decide +kernel
theorem qd_R_anyWaits_42 : decode qb_R_anyWaits 42 = .ok (.iconst 1, 1) := by decide +kernel
theorem qd_R_anyWaits_43 : decode qb_R_anyWaits 43 = .ok (.invokevirtual 24, 3) := by decide +kernel
theorem qd_R_anyWaits_46 : decode qb_R_anyWaits 46 = .ok (.iload_n 1, 1) := by decide +kernel
theorem qd_R_anyWaits_47 : decode qb_R_anyWaits 47 = .ok (.if_icmp .ne 17, 3) := by decide +kernel
theorem qd_R_anyWaits_50 : decode qb_R_anyWaits 50 = .ok (.iload 5, 2) := by decide +kernel
theorem qd_R_anyWaits_52 : decode qb_R_anyWaits 52 = .ok (.iload_n 2, 1) := by decide +kernel
theorem qd_R_anyWaits_53 : decode qb_R_anyWaits 53 = .ok (.if_icmp .lt 11, 3) := by decide +kernel
theorem qd_R_anyWaits_56 : decode qb_R_anyWaits 56 = .ok (.iload 5, 2) := by decide +kernel
theorem qd_R_anyWaits_58 : decode qb_R_anyWaits 58 = .ok (.iload_n 3, 1) := by decide +kernel
theorem qd_R_anyWaits_59 : decode qb_R_anyWaits 59 = .ok (.if_icmp .gt 5, 3) := by decide +kernel
theorem qd_R_anyWaits_62 : decode qb_R_anyWaits 62 = .ok (.iconst 1, 1) := by decide +kernel
theorem qd_R_anyWaits_63 : decode qb_R_anyWaits 63 = .ok (.ireturn, 1) := by decide +kernel
theorem qd_R_anyWaits_64 : decode qb_R_anyWaits 64 = .ok (.iinc 4 (1), 3) := by decide +kernel
theorem qd_R_anyWaits_67 : decode qb_R_anyWaits 67 = .ok (.goto (-64), 3) := by decide +kernel
theorem qd_R_anyWaits_70 : decode qb_R_anyWaits 70 = .ok (.iconst 0, 1) := by decide +kernel
theorem qd_R_anyWaits_71 : decode qb_R_anyWaits 71 = .ok (.ireturn, 1) := by decide +kernel
theorem qd_R_dropJoined_0 : decode qb_R_dropJoined 0 = .ok (.aload_n 0, 1) := by decide +kernel
theorem qd_R_dropJoined_1 : decode qb_R_dropJoined 1 = .ok (.getfield 16, 3) := by decide +kernel
theorem qd_R_dropJoined_4 : decode qb_R_dropJoined 4 = .ok (.invokevirtual 20, 3) := by decide +kernel
theorem qd_R_dropJoined_7 : decode qb_R_dropJoined 7 = .ok (.istore_n 2, 1) := by decide +kernel
theorem qd_R_dropJoined_8 : decode qb_R_dropJoined 8 = .ok (.iload_n 2, 1) := by decide +kernel
theorem qd_R_dropJoined_9 : decode qb_R_dropJoined 9 = .ok (.iconst 1, 1) := by decide +kernel
theorem qd_R_dropJoined_10 : decode qb_R_dropJoined 10 = .ok (.isub, 1) := by decide +kernel
theorem qd_R_dropJoined_11 : decode qb_R_dropJoined 11 = .ok (.istore_n 3, 1) := by decide +kernel
theorem qd_R_dropJoined_12 : decode qb_R_dropJoined 12 = .ok (.iload_n 3, 1) := by decide +kernel
theorem qd_R_dropJoined_13 : decode qb_R_dropJoined 13 = .ok (.ifCond .lt 38, 3) := by decide +kernel
theorem qd_R_dropJoined_16 : decode qb_R_dropJoined 16 = .ok (.aload_n 0, 1) := by decide +kernel
theorem qd_R_dropJoined_17 : decode qb_R_dropJoined 17 = .ok (.iload_n 3, 1) := by decide +kernel
theorem qd_R_dropJoined_18 : decode qb_R_dropJoined 18 = .ok (.invokevirtual 36, 3) := by decide +kernel
theorem qd_R_dropJoined_21 : decode qb_R_dropJoined 21 = .ok (.ifCond .ne 24, 3) := by decide +kernel
theorem qd_R_dropJoined_24 : decode qb_R_dropJoined 24 = .ok (.aload_n 0, 1) := by decide +kernel
theorem qd_R_dropJoined_25 : decode qb_R_dropJoined 25 = .ok (.getfield 16, 3) := by decide +kernel
theorem qd_R_dropJoined_28 : decode qb_R_dropJoined 28 = .ok (.iload_n 3, 1) := by decide +kernel
theorem qd_R_dropJoined_29 : decode qb_R_dropJoined 29 = .ok (.iconst 2, 1) := by decide +kernel
theorem qd_R_dropJoined_30 : decode qb_R_dropJoined 30 = .ok (.invokevirtual 24, 3) := by decide +kernel
theorem qd_R_dropJoined_33 : decode qb_R_dropJoined 33 = .ok (.iload_n 1, 1) := by decide +kernel
theorem qd_R_dropJoined_34 : decode qb_R_dropJoined 34 = .ok (.if_icmp .gt 11, 3) := by decide +kernel
theorem qd_R_dropJoined_37 : decode qb_R_dropJoined 37 = .ok (.aload_n 0, 1) := by decide +kernel
theorem qd_R_dropJoined_38 : decode qb_R_dropJoined 38 = .ok (.getfield 16, 3) := by decide +kernel
theorem qd_R_dropJoined_41 : decode qb_R_dropJoined 41 = .ok (.iload_n 3, 1) := by decide +kernel
theorem qd_R_dropJoined_42 : decode qb_R_dropJoined 42 = .ok (.invokevirtual 39, 3) := by decide +kernel
theorem qd_R_dropJoined_45 : decode qb_R_dropJoined 45 = .ok (.iinc 3 (-1), 3) := by decide +kernel
theorem qd_R_dropJoined_48 : decode qb_R_dropJoined 48 = .ok (.goto (-36), 3) := by decide +kernel
theorem qd_R_dropJoined_51 : decode qb_R_dropJoined 51 = .ok (.iload_n 2, 1) := by decide +kernel
theorem qd_R_dropJoined_52 : decode qb_R_dropJoined 52 = .ok (.aload_n 0, 1) := by decide +kernel
theorem qd_R_dropJoined_53 : decode qb_R_dropJoined 53 = .ok (.getfield 16, 3) := by decide +kernel
theorem qd_R_dropJoined_56 : decode qb_R_dropJoined 56 = .ok (.invokevirtual 20, 3) := by decide +kernel
theorem qd_R_dropJoined_59 : decode qb_R_dropJoined 59 = .ok (.isub, 1) := by decide +kernel
theorem qd_R_dropJoined_60 : decode qb_R_dropJoined 60 = .ok (.ireturn, 1) := by decide +kernel
theorem qd_S_init_0 : decode qb_S_init 0 = .ok (.aload_n 0, 1) := by decide +kernel
theorem qd_S_init_1 : decode qb_S_init 1 = .ok (.invokespecial 3, 3) := by decide +kernel
theorem qd_S_init_4 : decode qb_S_init 4 = .ok (.aload_n 0, 1) := by decide +kernel
theorem qd_S_init_5 : decode qb_S_init 5 = .ok (.iconst 1, 1) := by decide +kernel
theorem qd_S_init_6 : decode qb_S_init 6 = .ok (.iload_n 1, 1) := by decide +kernel
theorem qd_S_init_7 : decode qb_S_init 7 = .ok (.invokestatic 9, 3) := by decide +kernel
theorem qd_S_init_10 : decode qb_S_init 10 = .ok (.putfield 15, 3) := by decide +kernel
theorem qd_S_init_13 : decode qb_S_init 13 = .ok (.aload_n 0, 1) := by decide +kernel
theorem qd_S_init_14 : decode qb_S_init 14 = .ok (.iconst 0, 1) := by decide +kernel
theorem qd_S_init_15 : decode qb_S_init 15 = .ok (.iload_n 2, 1) := by decide +kernel
theorem qd_S_init_16 : decode qb_S_init 16 = .ok (.invokestatic 9, 3) := by decide +kernel
theorem qd_S_init_19 : decode qb_S_init 19 = .ok (.putfield 21, 3) := by decide +kernel
theorem qd_S_init_22 : decode qb_S_init 22 = .ok (.aload_n 0, 1) := by decide +kernel
theorem qd_S_init_23 : decode qb_S_init 23 = .ok (.aload_n 0, 1) := by decide +kernel
theorem qd_S_init_24 : decode qb_S_init 24 = .ok (.getfield 15, 3) := by decide +kernel
theorem qd_S_init_27 : decode qb_S_init 27 = .ok (.aload_n 0, 1) := by decide +kernel
theorem qd_S_init_28 : decode qb_S_init 28 = .ok (.getfield 21, 3) := by decide +kernel
theorem qd_S_init_31 : decode qb_S_init 31 = .ok (.imul, 1) := by decide +kernel
theorem qd_S_init_32 : decode qb_S_init 32 = .ok (.newarray .int, 2) := by decide +kernel
theorem qd_S_init_34 : decode qb_S_init 34 = .ok (.putfield 24, 3) := by decide +kernel
theorem qd_S_init_37 : decode qb_S_init 37 = .ok (.return_, 1) := by decide +kernel
theorem qd_S_size_0 : decode qb_S_size 0 = .ok (.aload_n 0, 1) := by decide +kernel
theorem qd_S_size_1 : decode qb_S_size 1 = .ok (.getfield 28, 3) := by decide +kernel
theorem qd_S_size_4 : decode qb_S_size 4 = .ok (.ireturn, 1) := by decide +kernel
theorem qd_S_get_0 : decode qb_S_get 0 = .ok (.iload_n 1, 1) := by decide +kernel
theorem qd_S_get_1 : decode qb_S_get 1 = .ok (.ifCond .lt 23, 3) := by decide +kernel
theorem qd_S_get_4 : decode qb_S_get 4 = .ok (.iload_n 1, 1) := by decide +kernel
theorem qd_S_get_5 : decode qb_S_get 5 = .ok (.aload_n 0, 1) := by decide +kernel
theorem qd_S_get_6 : decode qb_S_get 6 = .ok (.getfield 28, 3) := by decide +kernel
theorem qd_S_get_9 : decode qb_S_get 9 = .ok (.if_icmp .ge 15, 3) := by decide +kernel
theorem qd_S_get_12 : decode qb_S_get 12 = .ok (.iload_n 2, 1) := by decide +kernel
theorem qd_S_get_13 : decode qb_S_get 13 = .ok (.ifCond .lt 11, 3) := by decide +kernel
theorem qd_S_get_16 : decode qb_S_get 16 = .ok (.iload_n 2, 1) := by decide +kernel
theorem qd_S_get_17 : decode qb_S_get 17 = .ok (.aload_n 0, 1) := by decide +kernel
theorem qd_S_get_18 : decode qb_S_get 18 = .ok (.getfield 15, 3) := by decide +kernel
theorem qd_S_get_21 : decode qb_S_get 21 = .ok (.if_icmp .lt 6, 3) := by decide +kernel
theorem qd_S_get_24 : decode qb_S_get 24 = .ok (.bipush (-2), 2) := by decide +kernel
theorem qd_S_get_26 : decode qb_S_get 26 = .ok (.ireturn, 1) := by decide +kernel
theorem qd_S_get_27 : decode qb_S_get 27 = .ok (.aload_n 0, 1) := by decide +kernel
theorem qd_S_get_28 : decode qb_S_get 28 = .ok (.getfield 24, 3) := by decide +kernel
theorem qd_S_get_31 : decode qb_S_get 31 = .ok (.iload_n 1, 1) := by decide +kernel
theorem qd_S_get_32 : decode qb_S_get 32 = .ok (.aload_n 0, 1) := by decide +kernel
theorem qd_S_get_33 : decode qb_S_get 33 = .ok (.getfield 15, 3) := by decide +kernel
theorem qd_S_get_36 : decode qb_S_get 36 = .ok (.imul, 1) := by decide +kernel
theorem qd_S_get_37 : decode qb_S_get 37 = .ok (.iload_n 2, 1) := by decide +kernel
theorem qd_S_get_38 : decode qb_S_get 38 = .ok (.iadd, 1) := by decide +kernel
theorem qd_S_get_39 : decode qb_S_get 39 = .ok (.iaload, 1) := by decide +kernel
theorem qd_S_get_40 : decode qb_S_get 40 = .ok (.ireturn, 1) := by decide +kernel
theorem qd_S_set_0 : decode qb_S_set 0 = .ok (.iload_n 1, 1) := by decide +kernel
theorem qd_S_set_1 : decode qb_S_set 1 = .ok (.ifCond .lt 23, 3) := by decide +kernel
theorem qd_S_set_4 : decode qb_S_set 4 = .ok (.iload_n 1, 1) := by decide +kernel
theorem qd_S_set_5 : decode qb_S_set 5 = .ok (.aload_n 0, 1) := by decide +kernel
theorem qd_S_set_6 : decode qb_S_set 6 = .ok (.getfield 28, 3) := by decide +kernel
theorem qd_S_set_9 : decode qb_S_set 9 = .ok (.if_icmp .ge 15, 3) := by decide +kernel
theorem qd_S_set_12 : decode qb_S_set 12 = .ok (.iload_n 2, 1) := by decide +kernel
theorem qd_S_set_13 : decode qb_S_set 13 = .ok (.ifCond .lt 11, 3) := by decide +kernel
theorem qd_S_set_16 : decode qb_S_set 16 = .ok (.iload_n 2, 1) := by decide +kernel
theorem qd_S_set_17 : decode qb_S_set 17 = .ok (.aload_n 0, 1) := by decide +kernel
theorem qd_S_set_18 : decode qb_S_set 18 = .ok (.getfield 15, 3) := by decide +kernel
theorem qd_S_set_21 : decode qb_S_set 21 = .ok (.if_icmp .lt 4, 3) := by decide +kernel
theorem qd_S_set_24 : decode qb_S_set 24 = .ok (.return_, 1) := by decide +kernel
theorem qd_S_set_25 : decode qb_S_set 25 = .ok (.aload_n 0, 1) := by decide +kernel
theorem qd_S_set_26 : decode qb_S_set 26 = .ok (.getfield 24, 3) := by decide +kernel
theorem qd_S_set_29 : decode qb_S_set 29 = .ok (.iload_n 1, 1) := by decide +kernel
theorem qd_S_set_30 : decode qb_S_set 30 = .ok (.aload_n 0, 1) := by decide +kernel
theorem qd_S_set_31 : decode qb_S_set 31 = .ok (.getfield 15, 3) := by decide +kernel
theorem qd_S_set_34 : decode qb_S_set 34 = .ok (.imul, 1) := by decide +kernel
theorem qd_S_set_35 : decode qb_S_set 35 = .ok (.iload_n 2, 1) := by decide +kernel
theorem qd_S_set_36 : decode qb_S_set 36 = .ok (.iadd, 1) := by decide +kernel
theorem qd_S_set_37 : decode qb_S_set 37 = .ok (.iload_n 3, 1) := by decide +kernel
theorem qd_S_set_38 : decode qb_S_set 38 = .ok (.iastore, 1) := by decide +kernel
theorem qd_S_set_39 : decode qb_S_set 39 = .ok (.return_, 1) := by decide +kernel
theorem qd_S_open_0 : decode qb_S_open 0 = .ok (.iload_n 1, 1) := by decide +kernel
theorem qd_S_open_1 : decode qb_S_open 1 = .ok (.ifCond .lt 22, 3) := by decide +kernel
theorem qd_S_open_4 : decode qb_S_open 4 = .ok (.iload_n 1, 1) := by decide +kernel
theorem qd_S_open_5 : decode qb_S_open 5 = .ok (.aload_n 0, 1) := by decide +kernel
theorem qd_S_open_6 : decode qb_S_open 6 = .ok (.getfield 28, 3) := by decide +kernel
theorem qd_S_open_9 : decode qb_S_open 9 = .ok (.if_icmp .gt 14, 3) := by decide +kernel
theorem qd_S_open_12 : decode qb_S_open 12 = .ok (.aload_n 0, 1) := by decide +kernel
theorem qd_S_open_13 : decode qb_S_open 13 = .ok (.getfield 28, 3) := by decide +kernel
theorem qd_S_open_16 : decode qb_S_open 16 = .ok (.aload_n 0, 1) := by decide +kernel
theorem qd_S_open_17 : decode qb_S_open 17 = .ok (.getfield 21, 3) := by decide +kernel
theorem qd_S_open_20 : decode qb_S_open 20 = .ok (.if_icmp .lt 5, 3) := by decide +kernel
theorem qd_S_open_23 : decode qb_S_open 23 = .ok (.iconst 0, 1) := by decide +kernel
theorem qd_S_open_24 : decode qb_S_open 24 = .ok (.ireturn, 1) := by decide +kernel
theorem qd_S_open_25 : decode qb_S_open 25 = .ok (.iload_n 1, 1) := by decide +kernel
theorem qd_S_open_26 : decode qb_S_open 26 = .ok (.aload_n 0, 1) := by decide +kernel
theorem qd_S_open_27 : decode qb_S_open 27 = .ok (.getfield 15, 3) := by decide +kernel
theorem qd_S_open_30 : decode qb_S_open 30 = .ok (.imul, 1) := by decide +kernel
theorem qd_S_open_31 : decode qb_S_open 31 = .ok (.istore_n 2, 1) := by decide +kernel
theorem qd_S_open_32 : decode qb_S_open 32 = .ok (.aload_n 0, 1) := by decide +kernel
theorem qd_S_open_33 : decode qb_S_open 33 = .ok (.getfield 24, 3) := by decide +kernel
theorem qd_S_open_36 : decode qb_S_open 36 = .ok (.iload_n 2, 1) := by decide +kernel
theorem qd_S_open_37 : decode qb_S_open 37 = .ok (.aload_n 0, 1) := by decide +kernel
theorem qd_S_open_38 : decode qb_S_open 38 = .ok (.getfield 24, 3) := by decide +kernel
theorem qd_S_open_41 : decode qb_S_open 41 = .ok (.iload_n 2, 1) := by decide +kernel
theorem qd_S_open_42 : decode qb_S_open 42 = .ok (.aload_n 0, 1) := by decide +kernel
theorem qd_S_open_43 : decode qb_S_open 43 = .ok (.getfield 15, 3) := by decide +kernel
theorem qd_S_open_46 : decode qb_S_open 46 = .ok (.iadd, 1) := by decide +kernel
theorem qd_S_open_47 : decode qb_S_open 47 = .ok (.aload_n 0, 1) := by decide +kernel
theorem qd_S_open_48 : decode qb_S_open 48 = .ok (.getfield 28, 3) := by decide +kernel
theorem qd_S_open_51 : decode qb_S_open 51 = .ok (.iload_n 1, 1) := by decide +kernel
theorem qd_S_open_52 : decode qb_S_open 52 = .ok (.isub, 1) := by decide +kernel
theorem qd_S_open_53 : decode qb_S_open 53 = .ok (.aload_n 0, 1) := by decide +kernel
theorem qd_S_open_54 : decode qb_S_open 54 = .ok (.getfield 15, 3) := by decide +kernel
theorem qd_S_open_57 : decode qb_S_open 57 = .ok (.imul, 1) := by decide +kernel
theorem qd_S_open_58 : decode qb_S_open 58 = .ok (.invokestatic 31, 3) := by decide +kernel
theorem qd_S_open_61 : decode qb_S_open 61 = .ok (.aload_n 0, 1) := by decide +kernel
theorem qd_S_open_62 : decode qb_S_open 62 = .ok (.dup, 1) := by decide +kernel
theorem qd_S_open_63 : decode qb_S_open 63 = .ok (.getfield 28, 3) := by decide +kernel
theorem qd_S_open_66 : decode qb_S_open 66 = .ok (.iconst 1, 1) := by decide +kernel
theorem qd_S_open_67 : decode qb_S_open 67 = .ok (.iadd, 1) := by decide +kernel
theorem qd_S_open_68 : decode qb_S_open 68 = .ok (.putfield 28, 3) := by decide +kernel
theorem qd_S_open_71 : decode qb_S_open 71 = .ok (.iconst 1, 1) := by decide +kernel
theorem qd_S_open_72 : decode qb_S_open 72 = .ok (.ireturn, 1) := by decide +kernel
theorem qd_S_drop_0 : decode qb_S_drop 0 = .ok (.iload_n 1, 1) := by decide +kernel
theorem qd_S_drop_1 : decode qb_S_drop 1 = .ok (.ifCond .lt 11, 3) := by decide +kernel
theorem qd_S_drop_4 : decode qb_S_drop 4 = .ok (.iload_n 1, 1) := by decide +kernel
theorem qd_S_drop_5 : decode qb_S_drop 5 = .ok (.aload_n 0, 1) := by decide +kernel
theorem qd_S_drop_6 : decode qb_S_drop 6 = .ok (.getfield 28, 3) := by decide +kernel
theorem qd_S_drop_9 : decode qb_S_drop 9 = .ok (.if_icmp .lt 4, 3) := by decide +kernel
theorem qd_S_drop_12 : decode qb_S_drop 12 = .ok (.return_, 1) := by decide +kernel
theorem qd_S_drop_13 : decode qb_S_drop 13 = .ok (.iload_n 1, 1) := by decide +kernel
theorem qd_S_drop_14 : decode qb_S_drop 14 = .ok (.iconst 1, 1) := by decide +kernel
theorem qd_S_drop_15 : decode qb_S_drop 15 = .ok (.iadd, 1) := by decide +kernel
theorem qd_S_drop_16 : decode qb_S_drop 16 = .ok (.aload_n 0, 1) := by decide +kernel
theorem qd_S_drop_17 : decode qb_S_drop 17 = .ok (.getfield 15, 3) := by decide +kernel
theorem qd_S_drop_20 : decode qb_S_drop 20 = .ok (.imul, 1) := by decide +kernel
theorem qd_S_drop_21 : decode qb_S_drop 21 = .ok (.istore_n 2, 1) := by decide +kernel
theorem qd_S_drop_22 : decode qb_S_drop 22 = .ok (.aload_n 0, 1) := by decide +kernel
theorem qd_S_drop_23 : decode qb_S_drop 23 = .ok (.getfield 24, 3) := by decide +kernel
theorem qd_S_drop_26 : decode qb_S_drop 26 = .ok (.iload_n 2, 1) := by decide +kernel
theorem qd_S_drop_27 : decode qb_S_drop 27 = .ok (.aload_n 0, 1) := by decide +kernel
theorem qd_S_drop_28 : decode qb_S_drop 28 = .ok (.getfield 24, 3) := by decide +kernel
theorem qd_S_drop_31 : decode qb_S_drop 31 = .ok (.iload_n 2, 1) := by decide +kernel
theorem qd_S_drop_32 : decode qb_S_drop 32 = .ok (.aload_n 0, 1) := by decide +kernel
theorem qd_S_drop_33 : decode qb_S_drop 33 = .ok (.getfield 15, 3) := by decide +kernel
theorem qd_S_drop_36 : decode qb_S_drop 36 = .ok (.isub, 1) := by decide +kernel
theorem qd_S_drop_37 : decode qb_S_drop 37 = .ok (.aload_n 0, 1) := by decide +kernel
theorem qd_S_drop_38 : decode qb_S_drop 38 = .ok (.getfield 28, 3) := by decide +kernel
theorem qd_S_drop_41 : decode qb_S_drop 41 = .ok (.aload_n 0, 1) := by decide +kernel
theorem qd_S_drop_42 : decode qb_S_drop 42 = .ok (.getfield 15, 3) := by decide +kernel
theorem qd_S_drop_45 : decode qb_S_drop 45 = .ok (.imul, 1) := by decide +kernel
theorem qd_S_drop_46 : decode qb_S_drop 46 = .ok (.iload_n 2, 1) := by decide +kernel
theorem qd_S_drop_47 : decode qb_S_drop 47 = .ok (.isub, 1) := by decide +kernel
theorem qd_S_drop_48 : decode qb_S_drop 48 = .ok (.invokestatic 31, 3) := by decide +kernel
theorem qd_S_drop_51 : decode qb_S_drop 51 = .ok (.aload_n 0, 1) := by decide +kernel
theorem qd_S_drop_52 : decode qb_S_drop 52 = .ok (.dup, 1) := by decide +kernel
theorem qd_S_drop_53 : decode qb_S_drop 53 = .ok (.getfield 28, 3) := by decide +kernel
theorem qd_S_drop_56 : decode qb_S_drop 56 = .ok (.iconst 1, 1) := by decide +kernel
theorem qd_S_drop_57 : decode qb_S_drop 57 = .ok (.isub, 1) := by decide +kernel
theorem qd_S_drop_58 : decode qb_S_drop 58 = .ok (.putfield 28, 3) := by decide +kernel
theorem qd_S_drop_61 : decode qb_S_drop 61 = .ok (.return_, 1) := by decide +kernel
theorem qd_S_clear_0 : decode qb_S_clear 0 = .ok (.aload_n 0, 1) := by decide +kernel
theorem qd_S_clear_1 : decode qb_S_clear 1 = .ok (.iconst 0, 1) := by decide +kernel
theorem qd_S_clear_2 : decode qb_S_clear 2 = .ok (.putfield 28, 3) := by decide +kernel
theorem qd_S_clear_5 : decode qb_S_clear 5 = .ok (.return_, 1) := by decide +kernel
theorem qd_V_init_0 : decode qb_V_init 0 = .ok (.aload_n 0, 1) := by decide +kernel
theorem qd_V_init_1 : decode qb_V_init 1 = .ok (.invokespecial 3, 3) := by decide +kernel
theorem qd_V_init_4 : decode qb_V_init 4 = .ok (.aload_n 0, 1) := by decide +kernel
theorem qd_V_init_5 : decode qb_V_init 5 = .ok (.new 9, 3) := by decide +kernel
theorem qd_V_init_8 : decode qb_V_init 8 = .ok (.dup, 1) := by decide +kernel
theorem qd_V_init_9 : decode qb_V_init 9 = .ok (.iconst 3, 1) := by decide +kernel
theorem qd_V_init_10 : decode qb_V_init 10 = .ok (.sipush 160, 3) := by decide +kernel
theorem qd_V_init_13 : decode qb_V_init 13 = .ok (.invokespecial 13, 3) := by decide +kernel
theorem qd_V_init_16 : decode qb_V_init 16 = .ok (.putfield 16, 3) := by decide +kernel
theorem qd_V_init_19 : decode qb_V_init 19 = .ok (.return_, 1) := by decide +kernel
theorem qd_V_size_0 : decode qb_V_size 0 = .ok (.aload_n 0, 1) := by decide +kernel
theorem qd_V_size_1 : decode qb_V_size 1 = .ok (.getfield 16, 3) := by decide +kernel
theorem qd_V_size_4 : decode qb_V_size 4 = .ok (.invokevirtual 20, 3) := by decide +kernel
theorem qd_V_size_7 : decode qb_V_size 7 = .ok (.ireturn, 1) := by decide +kernel
theorem qd_V_get_0 : decode qb_V_get 0 = .ok (.aload_n 0, 1) := by decide +kernel
theorem qd_V_get_1 : decode qb_V_get 1 = .ok (.getfield 16, 3) := by decide +kernel
theorem qd_V_get_4 : decode qb_V_get 4 = .ok (.iload_n 1, 1) := by decide +kernel
theorem qd_V_get_5 : decode qb_V_get 5 = .ok (.iload_n 2, 1) := by decide +kernel
theorem qd_V_get_6 : decode qb_V_get 6 = .ok (.invokevirtual 24, 3) := by decide +kernel
theorem qd_V_get_9 : decode qb_V_get 9 = .ok (.ireturn, 1) := by decide +kernel
theorem qd_V_drop_0 : decode qb_V_drop 0 = .ok (.aload_n 0, 1) := by decide +kernel
theorem qd_V_drop_1 : decode qb_V_drop 1 = .ok (.getfield 16, 3) := by decide +kernel
theorem qd_V_drop_4 : decode qb_V_drop 4 = .ok (.iload_n 1, 1) := by decide +kernel
theorem qd_V_drop_5 : decode qb_V_drop 5 = .ok (.invokevirtual 28, 3) := by decide +kernel
theorem qd_V_drop_8 : decode qb_V_drop 8 = .ok (.return_, 1) := by decide +kernel
theorem qd_V_startOf_0 : decode qb_V_startOf 0 = .ok (.aload_n 0, 1) := by decide +kernel
theorem qd_V_startOf_1 : decode qb_V_startOf 1 = .ok (.iload_n 1, 1) := by decide +kernel
theorem qd_V_startOf_2 : decode qb_V_startOf 2 = .ok (.iconst 0, 1) := by decide +kernel
theorem qd_V_startOf_3 : decode qb_V_startOf 3 = .ok (.invokevirtual 32, 3) := by decide +kernel
theorem qd_V_startOf_6 : decode qb_V_startOf 6 = .ok (.ireturn, 1) := by decide +kernel
theorem qd_V_sizeAt_0 : decode qb_V_sizeAt 0 = .ok (.aload_n 0, 1) := by decide +kernel
theorem qd_V_sizeAt_1 : decode qb_V_sizeAt 1 = .ok (.iload_n 1, 1) := by decide +kernel
theorem qd_V_sizeAt_2 : decode qb_V_sizeAt 2 = .ok (.ldc 35, 2) := by decide +kernel
theorem qd_V_sizeAt_4 : decode qb_V_sizeAt 4 = .ok (.invokevirtual 32, 3) := by decide +kernel
theorem qd_V_sizeAt_7 : decode qb_V_sizeAt 7 = .ok (.aload_n 0, 1) := by decide +kernel
theorem qd_V_sizeAt_8 : decode qb_V_sizeAt 8 = .ok (.iload_n 1, 1) := by decide +kernel
theorem qd_V_sizeAt_9 : decode qb_V_sizeAt 9 = .ok (.invokevirtual 36, 3) := by decide +kernel
theorem qd_V_sizeAt_12 : decode qb_V_sizeAt 12 = .ok (.isub, 1) := by decide +kernel
theorem qd_V_sizeAt_13 : decode qb_V_sizeAt 13 = .ok (.ireturn, 1) := by decide +kernel
theorem qd_V_lineAsOf_0 : decode qb_V_lineAsOf 0 = .ok (.aload_n 0, 1) := by decide +kernel
theorem qd_V_lineAsOf_1 : decode qb_V_lineAsOf 1 = .ok (.iload_n 1, 1) := by decide +kernel
theorem qd_V_lineAsOf_2 : decode qb_V_lineAsOf 2 = .ok (.iload_n 2, 1) := by decide +kernel
theorem qd_V_lineAsOf_3 : decode qb_V_lineAsOf 3 = .ok (.invokevirtual 32, 3) := by decide +kernel
theorem qd_V_lineAsOf_6 : decode qb_V_lineAsOf 6 = .ok (.iconst 1, 1) := by decide +kernel
theorem qd_V_lineAsOf_7 : decode qb_V_lineAsOf 7 = .ok (.isub, 1) := by decide +kernel
theorem qd_V_lineAsOf_8 : decode qb_V_lineAsOf 8 = .ok (.istore_n 3, 1) := by decide +kernel
theorem qd_V_lineAsOf_9 : decode qb_V_lineAsOf 9 = .ok (.aload_n 0, 1) := by decide +kernel
theorem qd_V_lineAsOf_10 : decode qb_V_lineAsOf 10 = .ok (.getfield 16, 3) := by decide +kernel
theorem qd_V_lineAsOf_13 : decode qb_V_lineAsOf 13 = .ok (.iload_n 3, 1) := by decide +kernel
theorem qd_V_lineAsOf_14 : decode qb_V_lineAsOf 14 = .ok (.iconst 2, 1) := by decide +kernel
theorem qd_V_lineAsOf_15 : decode qb_V_lineAsOf 15 = .ok (.invokevirtual 24, 3) := by decide +kernel
theorem qd_V_lineAsOf_18 : decode qb_V_lineAsOf 18 = .ok (.iload_n 1, 1) := by decide +kernel
theorem qd_V_lineAsOf_19 : decode qb_V_lineAsOf 19 = .ok (.if_icmp .ne 20, 3) := by decide +kernel
theorem qd_V_lineAsOf_22 : decode qb_V_lineAsOf 22 = .ok (.aload_n 0, 1) := by decide +kernel
theorem qd_V_lineAsOf_23 : decode qb_V_lineAsOf 23 = .ok (.getfield 16, 3) := by decide +kernel
theorem qd_V_lineAsOf_26 : decode qb_V_lineAsOf 26 = .ok (.iload_n 3, 1) := by decide +kernel
theorem qd_V_lineAsOf_27 : decode qb_V_lineAsOf 27 = .ok (.iconst 1, 1) := by decide +kernel
theorem qd_V_lineAsOf_28 : decode qb_V_lineAsOf 28 = .ok (.invokevirtual 24, 3) := by decide +kernel
theorem qd_V_lineAsOf_31 : decode qb_V_lineAsOf 31 = .ok (.iconst (-1), 1) := by decide +kernel
theorem qd_V_lineAsOf_32 : decode qb_V_lineAsOf 32 = .ok (.if_icmp .eq 7, 3) := by decide +kernel
theorem qd_V_lineAsOf_35 : decode qb_V_lineAsOf 35 = .ok (.iload_n 3, 1) := by decide +kernel
theorem qd_V_lineAsOf_36 : decode qb_V_lineAsOf 36 = .ok (.goto (4), 3) := by decide +kernel
theorem qd_V_lineAsOf_39 : decode qb_V_lineAsOf 39 = .ok (.iconst (-1), 1) := by decide +kernel
theorem qd_V_lineAsOf_40 : decode qb_V_lineAsOf 40 = .ok (.ireturn, 1) := by decide +kernel
theorem qd_V_put_0 : decode qb_V_put 0 = .ok (.aload_n 0, 1) := by decide +kernel
theorem qd_V_put_1 : decode qb_V_put 1 = .ok (.iload_n 1, 1) := by decide +kernel
theorem qd_V_put_2 : decode qb_V_put 2 = .ok (.iload_n 2, 1) := by decide +kernel
theorem qd_V_put_3 : decode qb_V_put 3 = .ok (.invokevirtual 32, 3) := by decide +kernel
theorem qd_V_put_6 : decode qb_V_put 6 = .ok (.istore 4, 2) := by decide +kernel
theorem qd_V_put_8 : decode qb_V_put 8 = .ok (.aload_n 0, 1) := by decide +kernel
theorem qd_V_put_9 : decode qb_V_put 9 = .ok (.getfield 16, 3) := by decide +kernel
theorem qd_V_put_12 : decode qb_V_put 12 = .ok (.iload 4, 2) := by decide +kernel
theorem qd_V_put_14 : decode qb_V_put 14 = .ok (.iconst 1, 1) := by decide +kernel
theorem qd_V_put_15 : decode qb_V_put 15 = .ok (.isub, 1) := by decide +kernel
theorem qd_V_put_16 : decode qb_V_put 16 = .ok (.iconst 2, 1) := by decide +kernel
theorem qd_V_put_17 : decode qb_V_put 17 = .ok (.invokevirtual 24, 3) := by decide +kernel
theorem qd_V_put_20 : decode qb_V_put 20 = .ok (.iload_n 1, 1) := by decide +kernel
theorem qd_V_put_21 : decode qb_V_put 21 = .ok (.if_icmp .ne 35, 3) := by decide +kernel
theorem qd_V_put_24 : decode qb_V_put 24 = .ok (.aload_n 0, 1) := by decide +kernel
theorem qd_V_put_25 : decode qb_V_put 25 = .ok (.getfield 16, 3) := by decide +kernel
theorem qd_V_put_28 : decode qb_V_put 28 = .ok (.iload 4, 2) := by decide +kernel
theorem qd_V_put_30 : decode qb_V_put 30 = .ok (.iconst 1, 1) := by decide +kernel
theorem qd_V_put_31 : decode qb_V_put 31 = .ok (.isub, 1) := by decide +kernel
theorem qd_V_put_32 : decode qb_V_put 32 = .ok (.iconst 0, 1) := by decide +kernel
theorem qd_V_put_33 : decode qb_V_put 33 = .ok (.invokevirtual 24, 3) := by decide +kernel
theorem qd_V_put_36 : decode qb_V_put 36 = .ok (.iload_n 2, 1) := by decide +kernel
theorem qd_V_put_37 : decode qb_V_put 37 = .ok (.if_icmp .ne 19, 3) := by decide +kernel
theorem qd_V_put_40 : decode qb_V_put 40 = .ok (.aload_n 0, 1) := by decide +kernel
theorem qd_V_put_41 : decode qb_V_put 41 = .ok (.getfield 16, 3) := by decide +kernel
theorem qd_V_put_44 : decode qb_V_put 44 = .ok (.iload 4, 2) := by decide +kernel
theorem qd_V_put_46 : decode qb_V_put 46 = .ok (.iconst 1, 1) := by decide +kernel
theorem qd_V_put_47 : decode qb_V_put 47 = .ok (.isub, 1) := by decide +kernel
theorem qd_V_put_48 : decode qb_V_put 48 = .ok (.iconst 1, 1) := by decide +kernel
theorem qd_V_put_49 : decode qb_V_put 49 = .ok (.iload_n 3, 1) := by decide +kernel
theorem qd_V_put_50 : decode qb_V_put 50 = .ok (.invokevirtual 40, 3) := by decide +kernel
theorem qd_V_put_53 : decode qb_V_put 53 = .ok (.goto (48), 3) := by decide +kernel
theorem qd_V_put_56 : decode qb_V_put 56 = .ok (.aload_n 0, 1) := by decide +kernel
theorem qd_V_put_57 : decode qb_V_put 57 = .ok (.getfield 16, 3) := by decide +kernel
theorem qd_V_put_60 : decode qb_V_put 60 = .ok (.iload 4, 2) := by decide +kernel
theorem qd_V_put_62 : decode qb_V_put 62 = .ok (.invokevirtual 44, 3) := by decide +kernel
theorem qd_V_put_65 : decode qb_V_put 65 = .ok (.ifCond .eq 36, 3) := by decide +kernel
theorem qd_V_put_68 : decode qb_V_put 68 = .ok (.aload_n 0, 1) := by decide +kernel
theorem qd_V_put_69 : decode qb_V_put 69 = .ok (.getfield 16, 3) := by decide +kernel
theorem qd_V_put_72 : decode qb_V_put 72 = .ok (.iload 4, 2) := by decide +kernel
theorem qd_V_put_74 : decode qb_V_put 74 = .ok (.iconst 0, 1) := by decide +kernel
theorem qd_V_put_75 : decode qb_V_put 75 = .ok (.iload_n 2, 1) := by decide +kernel
theorem qd_V_put_76 : decode qb_V_put 76 = .ok (.invokevirtual 40, 3) := by decide +kernel
theorem qd_V_put_79 : decode qb_V_put 79 = .ok (.aload_n 0, 1) := by decide +kernel
theorem qd_V_put_80 : decode qb_V_put 80 = .ok (.getfield 16, 3) := by decide +kernel
theorem qd_V_put_83 : decode qb_V_put 83 = .ok (.iload 4, 2) := by decide +kernel
theorem qd_V_put_85 : decode qb_V_put 85 = .ok (.iconst 1, 1) := by decide +kernel
theorem qd_V_put_86 : decode qb_V_put 86 = .ok (.iload_n 3, 1) := by decide +kernel
theorem qd_V_put_87 : decode qb_V_put 87 = .ok (.invokevirtual 40, 3) := by decide +kernel
theorem qd_V_put_90 : decode qb_V_put 90 = .ok (.aload_n 0, 1) := by decide +kernel
theorem qd_V_put_91 : decode qb_V_put 91 = .ok (.getfield 16, 3) := by decide +kernel
theorem qd_V_put_94 : decode qb_V_put 94 = .ok (.iload 4, 2) := by decide +kernel
theorem qd_V_put_96 : decode qb_V_put 96 = .ok (.iconst 2, 1) := by decide +kernel
theorem qd_V_put_97 : decode qb_V_put 97 = .ok (.iload_n 1, 1) := by decide +kernel
theorem qd_V_put_98 : decode qb_V_put 98 = .ok (.invokevirtual 40, 3) := by decide +kernel
theorem qd_V_put_101 : decode qb_V_put 101 = .ok (.return_, 1) := by decide +kernel
theorem qd_V_linesUpTo_0 : decode qb_V_linesUpTo 0 = .ok (.iconst 0, 1) := by decide +kernel
theorem qd_V_linesUpTo_1 : decode qb_V_linesUpTo 1 = .ok (.istore_n 3, 1) := by decide +kernel
theorem qd_V_linesUpTo_2 : decode qb_V_linesUpTo 2 = .ok (.sipush 128, 3) := by decide +kernel
theorem qd_V_linesUpTo_5 : decode qb_V_linesUpTo 5 = .ok (.istore 4, 2) := by decide +kernel
theorem qd_V_linesUpTo_7 : decode qb_V_linesUpTo 7 = .ok (.iload 4, 2) := by decide +kernel
theorem qd_V_linesUpTo_9 : decode qb_V_linesUpTo 9 = .ok (.ifCond .le 87, 3) := by decide +kernel
theorem qd_V_linesUpTo_12 : decode qb_V_linesUpTo 12 = .ok (.iload_n 3, 1) := by decide +kernel
theorem qd_V_linesUpTo_13 : decode qb_V_linesUpTo 13 = .ok (.iload 4, 2) := by decide +kernel
theorem qd_V_linesUpTo_15 : decode qb_V_linesUpTo 15 = .ok (.iadd, 1) := by decide +kernel
theorem qd_V_linesUpTo_16 : decode qb_V_linesUpTo 16 = .ok (.iconst 1, 1) := by decide +kernel
theorem qd_V_linesUpTo_17 : decode qb_V_linesUpTo 17 = .ok (.isub, 1) := by decide +kernel
theorem qd_V_linesUpTo_18 : decode qb_V_linesUpTo 18 = .ok (.istore 5, 2) := by decide +kernel
theorem qd_V_linesUpTo_20 : decode qb_V_linesUpTo 20 = .ok (.aload_n 0, 1) := by decide +kernel
theorem qd_V_linesUpTo_21 : decode qb_V_linesUpTo 21 = .ok (.getfield 16, 3) := by decide +kernel
theorem qd_V_linesUpTo_24 : decode qb_V_linesUpTo 24 = .ok (.iload 5, 2) := by decide +kernel
theorem qd_V_linesUpTo_26 : decode qb_V_linesUpTo 26 = .ok (.iconst 2, 1) := by decide +kernel
theorem qd_V_linesUpTo_27 : decode qb_V_linesUpTo 27 = .ok (.invokevirtual 24, 3) := by decide +kernel
theorem qd_V_linesUpTo_30 : decode qb_V_linesUpTo 30 = .ok (.istore 6, 2) := by decide +kernel
theorem qd_V_linesUpTo_32 : decode qb_V_linesUpTo 32 = .ok (.iload 6, 2) := by decide +kernel
theorem qd_V_linesUpTo_34 : decode qb_V_linesUpTo 34 = .ok (.iload_n 1, 1) := by decide +kernel
theorem qd_V_linesUpTo_35 : decode qb_V_linesUpTo 35 = .ok (.if_icmp .gt 23, 3) := by decide +kernel
theorem qd_V_linesUpTo_38 : decode qb_V_linesUpTo 38 = .ok (.iload 6, 2) := by decide +kernel
theorem qd_V_linesUpTo_40 : decode qb_V_linesUpTo 40 = .ok (.iload_n 1, 1) := by decide +kernel
theorem qd_V_linesUpTo_41 : decode qb_V_linesUpTo 41 = .ok (.if_icmp .ne 21, 3) := by decide +kernel
theorem qd_V_linesUpTo_44 : decode qb_V_linesUpTo 44 = .ok (.aload_n 0, 1) := by decide +kernel
theorem qd_V_linesUpTo_45 : decode qb_V_linesUpTo 45 = .ok (.getfield 16, 3) := by decide +kernel
theorem qd_V_linesUpTo_48 : decode qb_V_linesUpTo 48 = .ok (.iload 5, 2) := by decide +kernel
theorem qd_V_linesUpTo_50 : decode qb_V_linesUpTo 50 = .ok (.iconst 0, 1) := by decide +kernel
theorem qd_V_linesUpTo_51 : decode qb_V_linesUpTo 51 = .ok (.invokevirtual 24, 3) := by decide +kernel
theorem qd_V_linesUpTo_54 : decode qb_V_linesUpTo 54 = .ok (.iload_n 2, 1) := by decide +kernel
theorem qd_V_linesUpTo_55 : decode qb_V_linesUpTo 55 = .ok (.if_icmp .le 7, 3) := by decide +kernel
theorem qd_V_linesUpTo_58 : decode qb_V_linesUpTo 58 = .ok (.iconst 1, 1) := by decide +kernel
theorem qd_V_linesUpTo_59 : decode qb_V_linesUpTo 59 = .ok (.goto (4), 3) := by decide +kernel
theorem qd_V_linesUpTo_62 : decode qb_V_linesUpTo 62 = .ok (.iconst 0, 1) := by decide +kernel
theorem qd_V_linesUpTo_63 : decode qb_V_linesUpTo 63 = .ok (.istore 7, 2) := by decide +kernel
theorem qd_V_linesUpTo_65 : decode qb_V_linesUpTo 65 = .ok (.iload 5, 2) := by decide +kernel
theorem qd_V_linesUpTo_67 : decode qb_V_linesUpTo 67 = .ok (.aload_n 0, 1) := by decide +kernel
theorem qd_V_linesUpTo_68 : decode qb_V_linesUpTo 68 = .ok (.getfield 16, 3) := by decide +kernel
theorem qd_V_linesUpTo_71 : decode qb_V_linesUpTo 71 = .ok (.invokevirtual 20, 3) := by decide +kernel
theorem qd_V_linesUpTo_74 : decode qb_V_linesUpTo 74 = .ok (.if_icmp .ge 13, 3) := by decide +kernel
theorem qd_V_linesUpTo_77 : decode qb_V_linesUpTo 77 = .ok (.iload 7, 2) := by decide +kernel
theorem qd_V_linesUpTo_79 : decode qb_V_linesUpTo 79 = .ok (.ifCond .ne 8, 3) := by decide +kernel
theorem qd_V_linesUpTo_82 : decode qb_V_linesUpTo 82 = .ok (.iload_n 3, 1) := by decide +kernel
theorem qd_V_linesUpTo_83 : decode qb_V_linesUpTo 83 = .ok (.iload 4, 2) := by decide +kernel
theorem qd_V_linesUpTo_85 : decode qb_V_linesUpTo 85 = .ok (.iadd, 1) := by decide +kernel
theorem qd_V_linesUpTo_86 : decode qb_V_linesUpTo 86 = .ok (.istore_n 3, 1) := by decide +kernel
theorem qd_V_linesUpTo_87 : decode qb_V_linesUpTo 87 = .ok (.iload 4, 2) := by decide +kernel
theorem qd_V_linesUpTo_89 : decode qb_V_linesUpTo 89 = .ok (.iconst 2, 1) := by decide +kernel
theorem qd_V_linesUpTo_90 : decode qb_V_linesUpTo 90 = .ok (.idiv, 1) := by decide +kernel
theorem qd_V_linesUpTo_91 : decode qb_V_linesUpTo 91 = .ok (.istore 4, 2) := by decide +kernel
theorem qd_V_linesUpTo_93 : decode qb_V_linesUpTo 93 = .ok (.goto (-86), 3) := by decide +kernel
theorem qd_V_linesUpTo_96 : decode qb_V_linesUpTo 96 = .ok (.iload_n 3, 1) := by decide +kernel
theorem qd_V_linesUpTo_97 : decode qb_V_linesUpTo 97 = .ok (.ireturn, 1) := by decide +kernel
end
section
/-! words by their places, calls by their links -/
theorem mw_0 : Cond.selects "AsOfJoins" ⟨"AsOfJoins", "isTable", "(I)Z"⟩ ⟨"AsOfJoins", "isTable", "(I)Z"⟩ ∈ lw_gd := lw_mw 0 (by decide +kernel) (by decide +kernel)
theorem mw_1 : Cond.selects "AsOfJoins" ⟨"AsOfJoins", "isLateChange", "(II)Z"⟩ ⟨"AsOfJoins", "isLateChange", "(II)Z"⟩ ∈ lw_gd := lw_mw 1 (by decide +kernel) (by decide +kernel)
theorem mw_2 : Cond.selects "AsOfJoins" ⟨"AsOfJoins", "horizon", "()I"⟩ ⟨"AsOfJoins", "horizon", "()I"⟩ ∈ lw_gd := lw_mw 2 (by decide +kernel) (by decide +kernel)
theorem mw_3 : Cond.selects "AsOfJoins" ⟨"AsOfJoins", "begin", "()V"⟩ ⟨"AsOfJoins", "begin", "()V"⟩ ∈ lw_gd := lw_mw 3 (by decide +kernel) (by decide +kernel)
theorem mw_4 : Cond.selects "AsOfJoins$Versions" ⟨"AsOfJoins$Versions", "linesUpTo", "(II)I"⟩ ⟨"AsOfJoins$Versions", "linesUpTo", "(II)I"⟩ ∈ lw_gd := lw_mw 4 (by decide +kernel) (by decide +kernel)
theorem mw_5 : Cond.selects "AsOfJoins" ⟨"AsOfJoins", "correctRows", "(I)V"⟩ ⟨"AsOfJoins", "correctRows", "(I)V"⟩ ∈ lw_gd := lw_mw 5 (by decide +kernel) (by decide +kernel)
theorem mw_6 : Cond.selects "AsOfJoins" ⟨"AsOfJoins", "correctRow", "(I)V"⟩ ⟨"AsOfJoins", "correctRow", "(I)V"⟩ ∈ lw_gd := lw_mw 6 (by decide +kernel) (by decide +kernel)
theorem mw_7 : Cond.selects "AsOfJoins" ⟨"AsOfJoins", "findJoin", "(II)V"⟩ ⟨"AsOfJoins", "findJoin", "(II)V"⟩ ∈ lw_gd := lw_mw 7 (by decide +kernel) (by decide +kernel)
theorem mw_8 : Cond.selects "AsOfJoins" ⟨"AsOfJoins", "takeJoin", "(I)V"⟩ ⟨"AsOfJoins", "takeJoin", "(I)V"⟩ ∈ lw_gd := lw_mw 8 (by decide +kernel) (by decide +kernel)
theorem mw_9 : Cond.selects "AsOfJoins" ⟨"AsOfJoins", "isGivenByJoin", "()Z"⟩ ⟨"AsOfJoins", "isGivenByJoin", "()Z"⟩ ∈ lw_gd := lw_mw 9 (by decide +kernel) (by decide +kernel)
theorem mw_10 : Cond.selects "AsOfJoins" ⟨"AsOfJoins", "joinRows", "()V"⟩ ⟨"AsOfJoins", "joinRows", "()V"⟩ ∈ lw_gd := lw_mw 10 (by decide +kernel) (by decide +kernel)
theorem mw_11 : Cond.selects "AsOfJoins" ⟨"AsOfJoins", "lowestMark", "()I"⟩ ⟨"AsOfJoins", "lowestMark", "()I"⟩ ∈ lw_gd := lw_mw 11 (by decide +kernel) (by decide +kernel)
theorem mw_12 : Cond.selects "AsOfJoins" ⟨"AsOfJoins", "dropVersions", "()V"⟩ ⟨"AsOfJoins", "dropVersions", "()V"⟩ ∈ lw_gd := lw_mw 12 (by decide +kernel) (by decide +kernel)
theorem mw_13 : Cond.selects "AsOfJoins" ⟨"AsOfJoins", "isNeedless", "(I)Z"⟩ ⟨"AsOfJoins", "isNeedless", "(I)Z"⟩ ∈ lw_gd := lw_mw 13 (by decide +kernel) (by decide +kernel)
theorem mw_14 : Cond.selects "AsOfJoins" ⟨"AsOfJoins", "markOrNone", "(I)I"⟩ ⟨"AsOfJoins", "markOrNone", "(I)I"⟩ ∈ lw_gd := lw_mw 14 (by decide +kernel) (by decide +kernel)
theorem mw_15 : Cond.selects "AsOfJoinsModel" ⟨"AsOfJoinsModel", "horizon", "()I"⟩ ⟨"AsOfJoinsModel", "horizon", "()I"⟩ ∈ lw_gd := lw_mw 15 (by decide +kernel) (by decide +kernel)
theorem mw_16 : Cond.selects "AsOfJoinsModel" ⟨"AsOfJoinsModel", "versionAt", "(III)I"⟩ ⟨"AsOfJoinsModel", "versionAt", "(III)I"⟩ ∈ lw_gd := lw_mw 16 (by decide +kernel) (by decide +kernel)
theorem mw_17 : Cond.selects "AsOfJoinsModel" ⟨"AsOfJoinsModel", "isOf", "(III)Z"⟩ ⟨"AsOfJoinsModel", "isOf", "(III)Z"⟩ ∈ lw_gd := lw_mw 17 (by decide +kernel) (by decide +kernel)
theorem mw_18 : Cond.selects "AsOfJoinsModel" ⟨"AsOfJoinsModel", "correct", "()V"⟩ ⟨"AsOfJoinsModel", "correct", "()V"⟩ ∈ lw_gd := lw_mw 18 (by decide +kernel) (by decide +kernel)
theorem mw_19 : Cond.selects "AsOfJoinsModel" ⟨"AsOfJoinsModel", "rowBy", "(I)I"⟩ ⟨"AsOfJoinsModel", "rowBy", "(I)I"⟩ ∈ lw_gd := lw_mw 19 (by decide +kernel) (by decide +kernel)
theorem mw_20 : Cond.selects "AsOfJoinsModel" ⟨"AsOfJoinsModel", "find", "(I)V"⟩ ⟨"AsOfJoinsModel", "find", "(I)V"⟩ ∈ lw_gd := lw_mw 20 (by decide +kernel) (by decide +kernel)
theorem mw_21 : Cond.selects "AsOfJoinsModel" ⟨"AsOfJoinsModel", "latest", "(III)I"⟩ ⟨"AsOfJoinsModel", "latest", "(III)I"⟩ ∈ lw_gd := lw_mw 21 (by decide +kernel) (by decide +kernel)
theorem mw_22 : Cond.selects "AsOfJoinsModel" ⟨"AsOfJoinsModel", "reaches", "(II)Z"⟩ ⟨"AsOfJoinsModel", "reaches", "(II)Z"⟩ ∈ lw_gd := lw_mw 22 (by decide +kernel) (by decide +kernel)
theorem mw_23 : Cond.selects "AsOfJoinsModel" ⟨"AsOfJoinsModel", "tell", "(II)V"⟩ ⟨"AsOfJoinsModel", "tell", "(II)V"⟩ ∈ lw_gd := lw_mw 23 (by decide +kernel) (by decide +kernel)
theorem mw_24 : Cond.selects "AsOfJoinsModel" ⟨"AsOfJoinsModel", "take", "(I)V"⟩ ⟨"AsOfJoinsModel", "take", "(I)V"⟩ ∈ lw_gd := lw_mw 24 (by decide +kernel) (by decide +kernel)
theorem mw_25 : Cond.selects "AsOfJoinsModel" ⟨"AsOfJoinsModel", "isGiven", "()Z"⟩ ⟨"AsOfJoinsModel", "isGiven", "()Z"⟩ ∈ lw_gd := lw_mw 25 (by decide +kernel) (by decide +kernel)
theorem mw_26 : Cond.selects "AsOfJoinsModel" ⟨"AsOfJoinsModel", "manyOf", "(II)I"⟩ ⟨"AsOfJoinsModel", "manyOf", "(II)I"⟩ ∈ lw_gd := lw_mw 26 (by decide +kernel) (by decide +kernel)
theorem mw_27 : Cond.selects "AsOfJoinsModel" ⟨"AsOfJoinsModel", "joinAll", "()V"⟩ ⟨"AsOfJoinsModel", "joinAll", "()V"⟩ ∈ lw_gd := lw_mw 27 (by decide +kernel) (by decide +kernel)
theorem mw_28 : Cond.selects "AsOfJoinsModel" ⟨"AsOfJoinsModel", "canJoin", "(I)Z"⟩ ⟨"AsOfJoinsModel", "canJoin", "(I)Z"⟩ ∈ lw_gd := lw_mw 28 (by decide +kernel) (by decide +kernel)
theorem mw_29 : Cond.selects "AsOfJoinsModel" ⟨"AsOfJoinsModel", "dropRows", "()V"⟩ ⟨"AsOfJoinsModel", "dropRows", "()V"⟩ ∈ lw_gd := lw_mw 29 (by decide +kernel) (by decide +kernel)
theorem mw_30 : Cond.selects "AsOfJoinsModel" ⟨"AsOfJoinsModel", "dropVersions", "()V"⟩ ⟨"AsOfJoinsModel", "dropVersions", "()V"⟩ ∈ lw_gd := lw_mw 30 (by decide +kernel) (by decide +kernel)
theorem mw_31 : Cond.selects "AsOfJoinsModel" ⟨"AsOfJoinsModel", "isNeeded", "(I)Z"⟩ ⟨"AsOfJoinsModel", "isNeeded", "(I)Z"⟩ ∈ lw_gd := lw_mw 31 (by decide +kernel) (by decide +kernel)
theorem mw_32 : Cond.selects "AsOfJoinsModel" ⟨"AsOfJoinsModel", "serves", "(III)Z"⟩ ⟨"AsOfJoinsModel", "serves", "(III)Z"⟩ ∈ lw_gd := lw_mw 32 (by decide +kernel) (by decide +kernel)
theorem mw_33 : Cond.selects "AsOfJoinsModel" ⟨"AsOfJoinsModel", "versionBy", "(III)I"⟩ ⟨"AsOfJoinsModel", "versionBy", "(III)I"⟩ ∈ lw_gd := lw_mw 33 (by decide +kernel) (by decide +kernel)
theorem mw_34 : Cond.initialized "AsOfJoinsLaw" ∈ lw_gd := lw_mw 34 (by decide +kernel) (by decide +kernel)
theorem mw_35 : Cond.initialized "AsOfJoins" ∈ lw_gd := lw_mw 35 (by decide +kernel) (by decide +kernel)
theorem mw_36 : Cond.initialized "AsOfJoins$Versions" ∈ lw_gd := lw_mw 36 (by decide +kernel) (by decide +kernel)
theorem mw_37 : Cond.initialized "AsOfJoins$Sheet" ∈ lw_gd := lw_mw 37 (by decide +kernel) (by decide +kernel)
theorem mw_38 : Cond.initialized "java/lang/Math" ∈ lw_gd := lw_mw 38 (by decide +kernel) (by decide +kernel)
theorem mw_39 : Cond.initialized "AsOfJoins$Rows" ∈ lw_gd := lw_mw 39 (by decide +kernel) (by decide +kernel)
theorem mw_40 : Cond.initialized "AsOfJoins$Outs" ∈ lw_gd := lw_mw 40 (by decide +kernel) (by decide +kernel)
theorem mw_41 : Cond.initialized "AsOfJoinsModel" ∈ lw_gd := lw_mw 41 (by decide +kernel) (by decide +kernel)
theorem mw_42 : Cond.initialized "java/lang/System" ∈ lw_gd := lw_mw 42 (by decide +kernel) (by decide +kernel)
theorem mw_43 : Cond.classLink "AsOfJoinsLaw" 7 "AsOfJoins" ∈ lw_gd := lw_mw 43 (by decide +kernel) (by decide +kernel)
theorem mw_44 : Cond.instantiable "AsOfJoins" 13 ∈ lw_gd := lw_mw 44 (by decide +kernel) (by decide +kernel)
theorem mw_45 : Cond.methodLink "AsOfJoinsLaw" 9 ⟨"AsOfJoins", "<init>", "()V"⟩ ∈ lw_gd := lw_mw 45 (by decide +kernel) (by decide +kernel)
theorem mw_46 : Cond.instanceMethod ⟨"AsOfJoins", "<init>", "()V"⟩ ∈ lw_gd := lw_mw 46 (by decide +kernel) (by decide +kernel)
theorem mw_47 : Cond.code qy_X_init qb_X_init 1 none ∈ lw_gd := lw_mw 47 (by decide +kernel) (by decide +kernel)
theorem mw_48 : Cond.methodLink "AsOfJoins" 3 ⟨"java/lang/Object", "<init>", "()V"⟩ ∈ lw_gd := lw_mw 48 (by decide +kernel) (by decide +kernel)
theorem mw_49 : Cond.instanceMethod ⟨"java/lang/Object", "<init>", "()V"⟩ ∈ lw_gd := lw_mw 49 (by decide +kernel) (by decide +kernel)
theorem mw_50 : Cond.code objectInit ⟨#[0xb1]⟩ 1 none ∈ lw_gd := lw_mw 50 (by decide +kernel) (by decide +kernel)
theorem mw_51 : Cond.classLink "AsOfJoins" 16 "AsOfJoins$Versions" ∈ lw_gd := lw_mw 51 (by decide +kernel) (by decide +kernel)
theorem mw_52 : Cond.instantiable "AsOfJoins$Versions" 1 ∈ lw_gd := lw_mw 52 (by decide +kernel) (by decide +kernel)
theorem mw_54 : Cond.instanceMethod ⟨"AsOfJoins$Versions", "<init>", "()V"⟩ ∈ lw_gd := lw_mw 54 (by decide +kernel) (by decide +kernel)
theorem mw_55 : Cond.code qy_V_init qb_V_init 1 none ∈ lw_gd := lw_mw 55 (by decide +kernel) (by decide +kernel)
theorem mw_56 : Cond.methodLink "AsOfJoins$Versions" 3 ⟨"java/lang/Object", "<init>", "()V"⟩ ∈ lw_gd := lw_mw 56 (by decide +kernel) (by decide +kernel)
theorem mw_57 : Cond.classLink "AsOfJoins$Versions" 9 "AsOfJoins$Sheet" ∈ lw_gd := lw_mw 57 (by decide +kernel) (by decide +kernel)
theorem mw_58 : Cond.instantiable "AsOfJoins$Sheet" 4 ∈ lw_gd := lw_mw 58 (by decide +kernel) (by decide +kernel)
theorem mw_59 : Cond.methodLink "AsOfJoins$Versions" 13 ⟨"AsOfJoins$Sheet", "<init>", "(II)V"⟩ ∈ lw_gd := lw_mw 59 (by decide +kernel) (by decide +kernel)
theorem mw_60 : Cond.instanceMethod ⟨"AsOfJoins$Sheet", "<init>", "(II)V"⟩ ∈ lw_gd := lw_mw 60 (by decide +kernel) (by decide +kernel)
theorem mw_61 : Cond.code qy_S_init qb_S_init 3 none ∈ lw_gd := lw_mw 61 (by decide +kernel) (by decide +kernel)
theorem mw_62 : Cond.methodLink "AsOfJoins$Sheet" 3 ⟨"java/lang/Object", "<init>", "()V"⟩ ∈ lw_gd := lw_mw 62 (by decide +kernel) (by decide +kernel)
theorem mw_63 : Cond.methodLink "AsOfJoins$Sheet" 9 ⟨"java/lang/Math", "max", "(II)I"⟩ ∈ lw_gd := lw_mw 63 (by decide +kernel) (by decide +kernel)
theorem mw_64 : Cond.static ⟨"java/lang/Math", "max", "(II)I"⟩ ∈ lw_gd := lw_mw 64 (by decide +kernel) (by decide +kernel)
theorem mw_65 : Cond.code Lib.Math.max.name Lib.Math.max.code 2 (some .int) ∈ lw_gd := lw_mw 65 (by decide +kernel) (by decide +kernel)
theorem mw_66 : Cond.fieldLink "AsOfJoins$Sheet" 15 "AsOfJoins$Sheet" "width" "I" ∈ lw_gd := lw_mw 66 (by decide +kernel) (by decide +kernel)
theorem mw_67 : Cond.fieldLink "AsOfJoins$Sheet" 21 "AsOfJoins$Sheet" "limit" "I" ∈ lw_gd := lw_mw 67 (by decide +kernel) (by decide +kernel)
theorem mw_68 : Cond.fieldLink "AsOfJoins$Sheet" 24 "AsOfJoins$Sheet" "cells" "[I" ∈ lw_gd := lw_mw 68 (by decide +kernel) (by decide +kernel)
theorem mw_69 : Cond.fieldLink "AsOfJoins$Sheet" 28 "AsOfJoins$Sheet" "lines" "I" ∈ lw_gd := lw_mw 69 (by decide +kernel) (by decide +kernel)
theorem mw_79 : Cond.arrayClass .int ∈ lw_gd := lw_mw 79 (by decide +kernel) (by decide +kernel)
theorem mw_80 : Cond.fieldLink "AsOfJoins$Versions" 16 "AsOfJoins$Versions" "sheet" "LAsOfJoins$Sheet;" ∈ lw_gd := lw_mw 80 (by decide +kernel) (by decide +kernel)
theorem mw_84 : Cond.classLink "AsOfJoins" 23 "AsOfJoins$Rows" ∈ lw_gd := lw_mw 84 (by decide +kernel) (by decide +kernel)
theorem mw_85 : Cond.instantiable "AsOfJoins$Rows" 1 ∈ lw_gd := lw_mw 85 (by decide +kernel) (by decide +kernel)
theorem mw_87 : Cond.instanceMethod ⟨"AsOfJoins$Rows", "<init>", "()V"⟩ ∈ lw_gd := lw_mw 87 (by decide +kernel) (by decide +kernel)
theorem mw_88 : Cond.code qy_R_init qb_R_init 1 none ∈ lw_gd := lw_mw 88 (by decide +kernel) (by decide +kernel)
theorem mw_89 : Cond.methodLink "AsOfJoins$Rows" 3 ⟨"java/lang/Object", "<init>", "()V"⟩ ∈ lw_gd := lw_mw 89 (by decide +kernel) (by decide +kernel)
theorem mw_90 : Cond.classLink "AsOfJoins$Rows" 9 "AsOfJoins$Sheet" ∈ lw_gd := lw_mw 90 (by decide +kernel) (by decide +kernel)
theorem mw_91 : Cond.methodLink "AsOfJoins$Rows" 13 ⟨"AsOfJoins$Sheet", "<init>", "(II)V"⟩ ∈ lw_gd := lw_mw 91 (by decide +kernel) (by decide +kernel)
theorem mw_92 : Cond.fieldLink "AsOfJoins$Rows" 16 "AsOfJoins$Rows" "sheet" "LAsOfJoins$Sheet;" ∈ lw_gd := lw_mw 92 (by decide +kernel) (by decide +kernel)
theorem mw_96 : Cond.classLink "AsOfJoins" 30 "AsOfJoins$Outs" ∈ lw_gd := lw_mw 96 (by decide +kernel) (by decide +kernel)
theorem mw_97 : Cond.instantiable "AsOfJoins$Outs" 3 ∈ lw_gd := lw_mw 97 (by decide +kernel) (by decide +kernel)
theorem mw_99 : Cond.instanceMethod ⟨"AsOfJoins$Outs", "<init>", "()V"⟩ ∈ lw_gd := lw_mw 99 (by decide +kernel) (by decide +kernel)
theorem mw_100 : Cond.code qy_O_init qb_O_init 1 none ∈ lw_gd := lw_mw 100 (by decide +kernel) (by decide +kernel)
theorem mw_101 : Cond.methodLink "AsOfJoins$Outs" 3 ⟨"java/lang/Object", "<init>", "()V"⟩ ∈ lw_gd := lw_mw 101 (by decide +kernel) (by decide +kernel)
theorem mw_102 : Cond.classLink "AsOfJoins$Outs" 9 "AsOfJoins$Sheet" ∈ lw_gd := lw_mw 102 (by decide +kernel) (by decide +kernel)
theorem mw_103 : Cond.methodLink "AsOfJoins$Outs" 13 ⟨"AsOfJoins$Sheet", "<init>", "(II)V"⟩ ∈ lw_gd := lw_mw 103 (by decide +kernel) (by decide +kernel)
theorem mw_104 : Cond.fieldLink "AsOfJoins$Outs" 16 "AsOfJoins$Outs" "sheet" "LAsOfJoins$Sheet;" ∈ lw_gd := lw_mw 104 (by decide +kernel) (by decide +kernel)
theorem mw_105 : Cond.fieldLink "AsOfJoins$Outs" 35 "AsOfJoins$Outs" "gives" "I" ∈ lw_gd := lw_mw 105 (by decide +kernel) (by decide +kernel)
theorem mw_107 : Cond.fieldLink "AsOfJoins$Outs" 39 "AsOfJoins$Outs" "takes" "I" ∈ lw_gd := lw_mw 107 (by decide +kernel) (by decide +kernel)
theorem mw_116 : Cond.fieldLink "AsOfJoins" 9 "AsOfJoins" "rules" "[I" ∈ lw_gd := lw_mw 116 (by decide +kernel) (by decide +kernel)
theorem mw_117 : Cond.fieldLink "AsOfJoins" 13 "AsOfJoins" "marks" "[I" ∈ lw_gd := lw_mw 117 (by decide +kernel) (by decide +kernel)
theorem mw_118 : Cond.fieldLink "AsOfJoins" 19 "AsOfJoins" "versions" "LAsOfJoins$Versions;" ∈ lw_gd := lw_mw 118 (by decide +kernel) (by decide +kernel)
theorem mw_119 : Cond.fieldLink "AsOfJoins" 26 "AsOfJoins" "rows" "LAsOfJoins$Rows;" ∈ lw_gd := lw_mw 119 (by decide +kernel) (by decide +kernel)
theorem mw_120 : Cond.fieldLink "AsOfJoins" 33 "AsOfJoins" "outs" "LAsOfJoins$Outs;" ∈ lw_gd := lw_mw 120 (by decide +kernel) (by decide +kernel)
theorem mw_121 : Cond.fieldLink "AsOfJoins" 37 "AsOfJoins" "join" "[I" ∈ lw_gd := lw_mw 121 (by decide +kernel) (by decide +kernel)
theorem mw_122 : Cond.fieldLink "AsOfJoins" 40 "AsOfJoins" "tables" "I" ∈ lw_gd := lw_mw 122 (by decide +kernel) (by decide +kernel)
theorem mw_123 : Cond.fieldLink "AsOfJoins" 91 "AsOfJoins" "rowMark" "I" ∈ lw_gd := lw_mw 123 (by decide +kernel) (by decide +kernel)
theorem mw_124 : Cond.fieldLink "AsOfJoins" 95 "AsOfJoins" "rowsCame" "I" ∈ lw_gd := lw_mw 124 (by decide +kernel) (by decide +kernel)
theorem mw_125 : Cond.fieldLink "AsOfJoins" 106 "AsOfJoins" "rowsWent" "I" ∈ lw_gd := lw_mw 125 (by decide +kernel) (by decide +kernel)
theorem mw_126 : Cond.fieldLink "AsOfJoins" 139 "AsOfJoins" "versionsWent" "I" ∈ lw_gd := lw_mw 126 (by decide +kernel) (by decide +kernel)
theorem mw_127 : Cond.fieldLink "AsOfJoins" 65 "AsOfJoins" "lateAnswers" "I" ∈ lw_gd := lw_mw 127 (by decide +kernel) (by decide +kernel)
theorem mw_128 : Cond.fieldLink "AsOfJoins" 44 "AsOfJoins" "begun" "Z" ∈ lw_gd := lw_mw 128 (by decide +kernel) (by decide +kernel)
theorem mw_156 : Cond.methodLink "AsOfJoinsLaw" 13 ⟨"AsOfJoins", "table", "()I"⟩ ∈ lw_gd := lw_mw 156 (by decide +kernel) (by decide +kernel)
theorem mw_157 : Cond.instanceMethod ⟨"AsOfJoins", "table", "()I"⟩ ∈ lw_gd := lw_mw 157 (by decide +kernel) (by decide +kernel)
theorem mw_158 : Cond.selects "AsOfJoins" ⟨"AsOfJoins", "table", "()I"⟩ ⟨"AsOfJoins", "table", "()I"⟩ ∈ lw_gd := lw_mw 158 (by decide +kernel) (by decide +kernel)
theorem mw_159 : Cond.code qy_X_table qb_X_table 1 (some .int) ∈ lw_gd := lw_mw 159 (by decide +kernel) (by decide +kernel)
theorem mw_160 : Cond.methodLink "AsOfJoinsLaw" 18 ⟨"AsOfJoins", "rule", "(II)I"⟩ ∈ lw_gd := lw_mw 160 (by decide +kernel) (by decide +kernel)
theorem mw_161 : Cond.instanceMethod ⟨"AsOfJoins", "rule", "(II)I"⟩ ∈ lw_gd := lw_mw 161 (by decide +kernel) (by decide +kernel)
theorem mw_162 : Cond.selects "AsOfJoins" ⟨"AsOfJoins", "rule", "(II)I"⟩ ⟨"AsOfJoins", "rule", "(II)I"⟩ ∈ lw_gd := lw_mw 162 (by decide +kernel) (by decide +kernel)
theorem mw_163 : Cond.code qy_X_rule qb_X_rule 4 (some .int) ∈ lw_gd := lw_mw 163 (by decide +kernel) (by decide +kernel)
theorem mw_164 : Cond.methodLink "AsOfJoinsLaw" 23 ⟨"AsOfJoins", "change", "(IIII)I"⟩ ∈ lw_gd := lw_mw 164 (by decide +kernel) (by decide +kernel)
theorem mw_165 : Cond.instanceMethod ⟨"AsOfJoins", "change", "(IIII)I"⟩ ∈ lw_gd := lw_mw 165 (by decide +kernel) (by decide +kernel)
theorem mw_166 : Cond.selects "AsOfJoins" ⟨"AsOfJoins", "change", "(IIII)I"⟩ ⟨"AsOfJoins", "change", "(IIII)I"⟩ ∈ lw_gd := lw_mw 166 (by decide +kernel) (by decide +kernel)
theorem mw_167 : Cond.code qy_X_change qb_X_change 6 (some .int) ∈ lw_gd := lw_mw 167 (by decide +kernel) (by decide +kernel)
theorem mw_168 : Cond.methodLink "AsOfJoins" 48 ⟨"AsOfJoins", "isTable", "(I)Z"⟩ ∈ lw_gd := lw_mw 168 (by decide +kernel) (by decide +kernel)
theorem mw_170 : Cond.instanceMethod ⟨"AsOfJoins", "isTable", "(I)Z"⟩ ∈ lw_gd := lw_mw 170 (by decide +kernel) (by decide +kernel)
theorem mw_171 : Cond.code qy_X_isTable qb_X_isTable 2 (some .boolean) ∈ lw_gd := lw_mw 171 (by decide +kernel) (by decide +kernel)
theorem mw_172 : Cond.methodLink "AsOfJoins" 52 ⟨"AsOfJoins", "isKey", "(I)Z"⟩ ∈ lw_gd := lw_mw 172 (by decide +kernel) (by decide +kernel)
theorem mw_173 : Cond.static ⟨"AsOfJoins", "isKey", "(I)Z"⟩ ∈ lw_gd := lw_mw 173 (by decide +kernel) (by decide +kernel)
theorem mw_174 : Cond.code qy_X_isKey qb_X_isKey 1 (some .boolean) ∈ lw_gd := lw_mw 174 (by decide +kernel) (by decide +kernel)
theorem mw_175 : Cond.methodLink "AsOfJoins" 55 ⟨"AsOfJoins", "isTime", "(I)Z"⟩ ∈ lw_gd := lw_mw 175 (by decide +kernel) (by decide +kernel)
theorem mw_176 : Cond.static ⟨"AsOfJoins", "isTime", "(I)Z"⟩ ∈ lw_gd := lw_mw 176 (by decide +kernel) (by decide +kernel)
theorem mw_177 : Cond.code qy_X_isTime qb_X_isTime 1 (some .boolean) ∈ lw_gd := lw_mw 177 (by decide +kernel) (by decide +kernel)
theorem mw_178 : Cond.constant "AsOfJoins" 105 100000 ∈ lw_gd := lw_mw 178 (by decide +kernel) (by decide +kernel)
theorem mw_179 : Cond.methodLink "AsOfJoins" 58 ⟨"AsOfJoins", "isValue", "(I)Z"⟩ ∈ lw_gd := lw_mw 179 (by decide +kernel) (by decide +kernel)
theorem mw_180 : Cond.static ⟨"AsOfJoins", "isValue", "(I)Z"⟩ ∈ lw_gd := lw_mw 180 (by decide +kernel) (by decide +kernel)
theorem mw_181 : Cond.code qy_X_isValue qb_X_isValue 1 (some .boolean) ∈ lw_gd := lw_mw 181 (by decide +kernel) (by decide +kernel)
theorem mw_182 : Cond.methodLink "AsOfJoins" 61 ⟨"AsOfJoins", "isLateChange", "(II)Z"⟩ ∈ lw_gd := lw_mw 182 (by decide +kernel) (by decide +kernel)
theorem mw_184 : Cond.instanceMethod ⟨"AsOfJoins", "isLateChange", "(II)Z"⟩ ∈ lw_gd := lw_mw 184 (by decide +kernel) (by decide +kernel)
theorem mw_185 : Cond.code qy_X_isLateChange qb_X_isLateChange 3 (some .boolean) ∈ lw_gd := lw_mw 185 (by decide +kernel) (by decide +kernel)
theorem mw_186 : Cond.methodLink "AsOfJoins" 109 ⟨"AsOfJoins", "horizon", "()I"⟩ ∈ lw_gd := lw_mw 186 (by decide +kernel) (by decide +kernel)
theorem mw_188 : Cond.instanceMethod ⟨"AsOfJoins", "horizon", "()I"⟩ ∈ lw_gd := lw_mw 188 (by decide +kernel) (by decide +kernel)
theorem mw_189 : Cond.code qy_X_horizon qb_X_horizon 1 (some .int) ∈ lw_gd := lw_mw 189 (by decide +kernel) (by decide +kernel)
theorem mw_190 : Cond.methodLink "AsOfJoins" 68 ⟨"AsOfJoins$Versions", "size", "()I"⟩ ∈ lw_gd := lw_mw 190 (by decide +kernel) (by decide +kernel)
theorem mw_191 : Cond.instanceMethod ⟨"AsOfJoins$Versions", "size", "()I"⟩ ∈ lw_gd := lw_mw 191 (by decide +kernel) (by decide +kernel)
theorem mw_192 : Cond.selects "AsOfJoins$Versions" ⟨"AsOfJoins$Versions", "size", "()I"⟩ ⟨"AsOfJoins$Versions", "size", "()I"⟩ ∈ lw_gd := lw_mw 192 (by decide +kernel) (by decide +kernel)
theorem mw_193 : Cond.code qy_V_size qb_V_size 1 (some .int) ∈ lw_gd := lw_mw 193 (by decide +kernel) (by decide +kernel)
theorem mw_194 : Cond.methodLink "AsOfJoins$Versions" 20 ⟨"AsOfJoins$Sheet", "size", "()I"⟩ ∈ lw_gd := lw_mw 194 (by decide +kernel) (by decide +kernel)
theorem mw_195 : Cond.instanceMethod ⟨"AsOfJoins$Sheet", "size", "()I"⟩ ∈ lw_gd := lw_mw 195 (by decide +kernel) (by decide +kernel)
theorem mw_196 : Cond.selects "AsOfJoins$Sheet" ⟨"AsOfJoins$Sheet", "size", "()I"⟩ ⟨"AsOfJoins$Sheet", "size", "()I"⟩ ∈ lw_gd := lw_mw 196 (by decide +kernel) (by decide +kernel)
theorem mw_197 : Cond.code qy_S_size qb_S_size 1 (some .int) ∈ lw_gd := lw_mw 197 (by decide +kernel) (by decide +kernel)
theorem mw_198 : Cond.methodLink "AsOfJoins" 72 ⟨"AsOfJoins", "begin", "()V"⟩ ∈ lw_gd := lw_mw 198 (by decide +kernel) (by decide +kernel)
theorem mw_200 : Cond.instanceMethod ⟨"AsOfJoins", "begin", "()V"⟩ ∈ lw_gd := lw_mw 200 (by decide +kernel) (by decide +kernel)
theorem mw_201 : Cond.code qy_X_begin qb_X_begin 1 none ∈ lw_gd := lw_mw 201 (by decide +kernel) (by decide +kernel)
theorem mw_202 : Cond.methodLink "AsOfJoins" 145 ⟨"AsOfJoins$Outs", "clear", "()V"⟩ ∈ lw_gd := lw_mw 202 (by decide +kernel) (by decide +kernel)
theorem mw_203 : Cond.instanceMethod ⟨"AsOfJoins$Outs", "clear", "()V"⟩ ∈ lw_gd := lw_mw 203 (by decide +kernel) (by decide +kernel)
theorem mw_204 : Cond.selects "AsOfJoins$Outs" ⟨"AsOfJoins$Outs", "clear", "()V"⟩ ⟨"AsOfJoins$Outs", "clear", "()V"⟩ ∈ lw_gd := lw_mw 204 (by decide +kernel) (by decide +kernel)
theorem mw_205 : Cond.code qy_O_clear qb_O_clear 1 none ∈ lw_gd := lw_mw 205 (by decide +kernel) (by decide +kernel)
theorem mw_206 : Cond.methodLink "AsOfJoins$Outs" 28 ⟨"AsOfJoins$Sheet", "clear", "()V"⟩ ∈ lw_gd := lw_mw 206 (by decide +kernel) (by decide +kernel)
theorem mw_207 : Cond.instanceMethod ⟨"AsOfJoins$Sheet", "clear", "()V"⟩ ∈ lw_gd := lw_mw 207 (by decide +kernel) (by decide +kernel)
theorem mw_208 : Cond.selects "AsOfJoins$Sheet" ⟨"AsOfJoins$Sheet", "clear", "()V"⟩ ⟨"AsOfJoins$Sheet", "clear", "()V"⟩ ∈ lw_gd := lw_mw 208 (by decide +kernel) (by decide +kernel)
theorem mw_209 : Cond.code qy_S_clear qb_S_clear 1 none ∈ lw_gd := lw_mw 209 (by decide +kernel) (by decide +kernel)
theorem mw_210 : Cond.methodLink "AsOfJoins" 75 ⟨"AsOfJoins", "placeOf", "(II)I"⟩ ∈ lw_gd := lw_mw 210 (by decide +kernel) (by decide +kernel)
theorem mw_211 : Cond.static ⟨"AsOfJoins", "placeOf", "(II)I"⟩ ∈ lw_gd := lw_mw 211 (by decide +kernel) (by decide +kernel)
theorem mw_212 : Cond.code qy_X_placeOf qb_X_placeOf 2 (some .int) ∈ lw_gd := lw_mw 212 (by decide +kernel) (by decide +kernel)
theorem mw_213 : Cond.methodLink "AsOfJoins" 79 ⟨"AsOfJoins$Versions", "put", "(III)V"⟩ ∈ lw_gd := lw_mw 213 (by decide +kernel) (by decide +kernel)
theorem mw_214 : Cond.instanceMethod ⟨"AsOfJoins$Versions", "put", "(III)V"⟩ ∈ lw_gd := lw_mw 214 (by decide +kernel) (by decide +kernel)
theorem mw_215 : Cond.selects "AsOfJoins$Versions" ⟨"AsOfJoins$Versions", "put", "(III)V"⟩ ⟨"AsOfJoins$Versions", "put", "(III)V"⟩ ∈ lw_gd := lw_mw 215 (by decide +kernel) (by decide +kernel)
theorem mw_216 : Cond.code qy_V_put qb_V_put 5 none ∈ lw_gd := lw_mw 216 (by decide +kernel) (by decide +kernel)
theorem mw_217 : Cond.methodLink "AsOfJoins$Versions" 32 ⟨"AsOfJoins$Versions", "linesUpTo", "(II)I"⟩ ∈ lw_gd := lw_mw 217 (by decide +kernel) (by decide +kernel)
theorem mw_219 : Cond.instanceMethod ⟨"AsOfJoins$Versions", "linesUpTo", "(II)I"⟩ ∈ lw_gd := lw_mw 219 (by decide +kernel) (by decide +kernel)
theorem mw_220 : Cond.code qy_V_linesUpTo qb_V_linesUpTo 8 (some .int) ∈ lw_gd := lw_mw 220 (by decide +kernel) (by decide +kernel)
theorem mw_221 : Cond.methodLink "AsOfJoins$Versions" 24 ⟨"AsOfJoins$Sheet", "get", "(II)I"⟩ ∈ lw_gd := lw_mw 221 (by decide +kernel) (by decide +kernel)
theorem mw_222 : Cond.instanceMethod ⟨"AsOfJoins$Sheet", "get", "(II)I"⟩ ∈ lw_gd := lw_mw 222 (by decide +kernel) (by decide +kernel)
theorem mw_223 : Cond.selects "AsOfJoins$Sheet" ⟨"AsOfJoins$Sheet", "get", "(II)I"⟩ ⟨"AsOfJoins$Sheet", "get", "(II)I"⟩ ∈ lw_gd := lw_mw 223 (by decide +kernel) (by decide +kernel)
theorem mw_224 : Cond.code qy_S_get qb_S_get 3 (some .int) ∈ lw_gd := lw_mw 224 (by decide +kernel) (by decide +kernel)
theorem mw_225 : Cond.methodLink "AsOfJoins$Versions" 40 ⟨"AsOfJoins$Sheet", "set", "(III)V"⟩ ∈ lw_gd := lw_mw 225 (by decide +kernel) (by decide +kernel)
theorem mw_226 : Cond.instanceMethod ⟨"AsOfJoins$Sheet", "set", "(III)V"⟩ ∈ lw_gd := lw_mw 226 (by decide +kernel) (by decide +kernel)
theorem mw_227 : Cond.selects "AsOfJoins$Sheet" ⟨"AsOfJoins$Sheet", "set", "(III)V"⟩ ⟨"AsOfJoins$Sheet", "set", "(III)V"⟩ ∈ lw_gd := lw_mw 227 (by decide +kernel) (by decide +kernel)
theorem mw_228 : Cond.code qy_S_set qb_S_set 4 none ∈ lw_gd := lw_mw 228 (by decide +kernel) (by decide +kernel)
theorem mw_229 : Cond.methodLink "AsOfJoins$Versions" 44 ⟨"AsOfJoins$Sheet", "open", "(I)Z"⟩ ∈ lw_gd := lw_mw 229 (by decide +kernel) (by decide +kernel)
theorem mw_230 : Cond.instanceMethod ⟨"AsOfJoins$Sheet", "open", "(I)Z"⟩ ∈ lw_gd := lw_mw 230 (by decide +kernel) (by decide +kernel)
theorem mw_231 : Cond.selects "AsOfJoins$Sheet" ⟨"AsOfJoins$Sheet", "open", "(I)Z"⟩ ⟨"AsOfJoins$Sheet", "open", "(I)Z"⟩ ∈ lw_gd := lw_mw 231 (by decide +kernel) (by decide +kernel)
theorem mw_232 : Cond.code qy_S_open qb_S_open 3 (some .boolean) ∈ lw_gd := lw_mw 232 (by decide +kernel) (by decide +kernel)
theorem mw_233 : Cond.methodLink "AsOfJoins$Sheet" 31 ⟨"java/lang/System", "arraycopy", "(Ljava/lang/Object;ILjava/lang/Object;II)V"⟩ ∈ lw_gd := lw_mw 233 (by decide +kernel) (by decide +kernel)
theorem mw_234 : Cond.static ⟨"java/lang/System", "arraycopy", "(Ljava/lang/Object;ILjava/lang/Object;II)V"⟩ ∈ lw_gd := lw_mw 234 (by decide +kernel) (by decide +kernel)
theorem mw_235 : Cond.native ⟨"java/lang/System", "arraycopy", "(Ljava/lang/Object;ILjava/lang/Object;II)V"⟩ ∈ lw_gd := lw_mw 235 (by decide +kernel) (by decide +kernel)
theorem mw_236 : Cond.methodLink "AsOfJoins" 83 ⟨"AsOfJoins", "correctRows", "(I)V"⟩ ∈ lw_gd := lw_mw 236 (by decide +kernel) (by decide +kernel)
theorem mw_238 : Cond.instanceMethod ⟨"AsOfJoins", "correctRows", "(I)V"⟩ ∈ lw_gd := lw_mw 238 (by decide +kernel) (by decide +kernel)
theorem mw_239 : Cond.code qy_X_correctRows qb_X_correctRows 3 none ∈ lw_gd := lw_mw 239 (by decide +kernel) (by decide +kernel)
theorem mw_240 : Cond.methodLink "AsOfJoins" 94 ⟨"AsOfJoins$Rows", "size", "()I"⟩ ∈ lw_gd := lw_mw 240 (by decide +kernel) (by decide +kernel)
theorem mw_241 : Cond.instanceMethod ⟨"AsOfJoins$Rows", "size", "()I"⟩ ∈ lw_gd := lw_mw 241 (by decide +kernel) (by decide +kernel)
theorem mw_242 : Cond.selects "AsOfJoins$Rows" ⟨"AsOfJoins$Rows", "size", "()I"⟩ ⟨"AsOfJoins$Rows", "size", "()I"⟩ ∈ lw_gd := lw_mw 242 (by decide +kernel) (by decide +kernel)
theorem mw_243 : Cond.code qy_R_size qb_R_size 1 (some .int) ∈ lw_gd := lw_mw 243 (by decide +kernel) (by decide +kernel)
theorem mw_244 : Cond.methodLink "AsOfJoins$Rows" 20 ⟨"AsOfJoins$Sheet", "size", "()I"⟩ ∈ lw_gd := lw_mw 244 (by decide +kernel) (by decide +kernel)
theorem mw_245 : Cond.methodLink "AsOfJoins" 129 ⟨"AsOfJoins$Rows", "get", "(II)I"⟩ ∈ lw_gd := lw_mw 245 (by decide +kernel) (by decide +kernel)
theorem mw_246 : Cond.instanceMethod ⟨"AsOfJoins$Rows", "get", "(II)I"⟩ ∈ lw_gd := lw_mw 246 (by decide +kernel) (by decide +kernel)
theorem mw_247 : Cond.selects "AsOfJoins$Rows" ⟨"AsOfJoins$Rows", "get", "(II)I"⟩ ⟨"AsOfJoins$Rows", "get", "(II)I"⟩ ∈ lw_gd := lw_mw 247 (by decide +kernel) (by decide +kernel)
theorem mw_248 : Cond.code qy_R_get qb_R_get 3 (some .int) ∈ lw_gd := lw_mw 248 (by decide +kernel) (by decide +kernel)
theorem mw_249 : Cond.methodLink "AsOfJoins$Rows" 24 ⟨"AsOfJoins$Sheet", "get", "(II)I"⟩ ∈ lw_gd := lw_mw 249 (by decide +kernel) (by decide +kernel)
theorem mw_250 : Cond.methodLink "AsOfJoins" 156 ⟨"AsOfJoins$Rows", "waits", "(I)Z"⟩ ∈ lw_gd := lw_mw 250 (by decide +kernel) (by decide +kernel)
theorem mw_251 : Cond.instanceMethod ⟨"AsOfJoins$Rows", "waits", "(I)Z"⟩ ∈ lw_gd := lw_mw 251 (by decide +kernel) (by decide +kernel)
theorem mw_252 : Cond.selects "AsOfJoins$Rows" ⟨"AsOfJoins$Rows", "waits", "(I)Z"⟩ ⟨"AsOfJoins$Rows", "waits", "(I)Z"⟩ ∈ lw_gd := lw_mw 252 (by decide +kernel) (by decide +kernel)
theorem mw_253 : Cond.code qy_R_waits qb_R_waits 2 (some .boolean) ∈ lw_gd := lw_mw 253 (by decide +kernel) (by decide +kernel)
theorem mw_254 : Cond.methodLink "AsOfJoins" 177 ⟨"AsOfJoins", "correctRow", "(I)V"⟩ ∈ lw_gd := lw_mw 254 (by decide +kernel) (by decide +kernel)
theorem mw_256 : Cond.instanceMethod ⟨"AsOfJoins", "correctRow", "(I)V"⟩ ∈ lw_gd := lw_mw 256 (by decide +kernel) (by decide +kernel)
theorem mw_257 : Cond.code qy_X_correctRow qb_X_correctRow 2 none ∈ lw_gd := lw_mw 257 (by decide +kernel) (by decide +kernel)
theorem mw_258 : Cond.methodLink "AsOfJoins" 159 ⟨"AsOfJoins", "findJoin", "(II)V"⟩ ∈ lw_gd := lw_mw 258 (by decide +kernel) (by decide +kernel)
theorem mw_260 : Cond.instanceMethod ⟨"AsOfJoins", "findJoin", "(II)V"⟩ ∈ lw_gd := lw_mw 260 (by decide +kernel) (by decide +kernel)
theorem mw_261 : Cond.code qy_X_findJoin qb_X_findJoin 5 none ∈ lw_gd := lw_mw 261 (by decide +kernel) (by decide +kernel)
theorem mw_262 : Cond.methodLink "AsOfJoins" 122 ⟨"AsOfJoins$Versions", "lineAsOf", "(II)I"⟩ ∈ lw_gd := lw_mw 262 (by decide +kernel) (by decide +kernel)
theorem mw_263 : Cond.instanceMethod ⟨"AsOfJoins$Versions", "lineAsOf", "(II)I"⟩ ∈ lw_gd := lw_mw 263 (by decide +kernel) (by decide +kernel)
theorem mw_264 : Cond.selects "AsOfJoins$Versions" ⟨"AsOfJoins$Versions", "lineAsOf", "(II)I"⟩ ⟨"AsOfJoins$Versions", "lineAsOf", "(II)I"⟩ ∈ lw_gd := lw_mw 264 (by decide +kernel) (by decide +kernel)
theorem mw_265 : Cond.code qy_V_lineAsOf qb_V_lineAsOf 4 (some .int) ∈ lw_gd := lw_mw 265 (by decide +kernel) (by decide +kernel)
theorem mw_266 : Cond.methodLink "AsOfJoins" 125 ⟨"AsOfJoins$Versions", "get", "(II)I"⟩ ∈ lw_gd := lw_mw 266 (by decide +kernel) (by decide +kernel)
theorem mw_267 : Cond.instanceMethod ⟨"AsOfJoins$Versions", "get", "(II)I"⟩ ∈ lw_gd := lw_mw 267 (by decide +kernel) (by decide +kernel)
theorem mw_268 : Cond.selects "AsOfJoins$Versions" ⟨"AsOfJoins$Versions", "get", "(II)I"⟩ ⟨"AsOfJoins$Versions", "get", "(II)I"⟩ ∈ lw_gd := lw_mw 268 (by decide +kernel) (by decide +kernel)
theorem mw_269 : Cond.code qy_V_get qb_V_get 3 (some .int) ∈ lw_gd := lw_mw 269 (by decide +kernel) (by decide +kernel)
theorem mw_270 : Cond.methodLink "AsOfJoins" 180 ⟨"AsOfJoins$Rows", "hasJoin", "(I[I)Z"⟩ ∈ lw_gd := lw_mw 270 (by decide +kernel) (by decide +kernel)
theorem mw_271 : Cond.instanceMethod ⟨"AsOfJoins$Rows", "hasJoin", "(I[I)Z"⟩ ∈ lw_gd := lw_mw 271 (by decide +kernel) (by decide +kernel)
theorem mw_272 : Cond.selects "AsOfJoins$Rows" ⟨"AsOfJoins$Rows", "hasJoin", "(I[I)Z"⟩ ⟨"AsOfJoins$Rows", "hasJoin", "(I[I)Z"⟩ ∈ lw_gd := lw_mw 272 (by decide +kernel) (by decide +kernel)
theorem mw_273 : Cond.code qy_R_hasJoin qb_R_hasJoin 4 (some .boolean) ∈ lw_gd := lw_mw 273 (by decide +kernel) (by decide +kernel)
theorem mw_274 : Cond.methodLink "AsOfJoins" 184 ⟨"AsOfJoins$Rows", "wasGiven", "(I)Z"⟩ ∈ lw_gd := lw_mw 274 (by decide +kernel) (by decide +kernel)
theorem mw_275 : Cond.instanceMethod ⟨"AsOfJoins$Rows", "wasGiven", "(I)Z"⟩ ∈ lw_gd := lw_mw 275 (by decide +kernel) (by decide +kernel)
theorem mw_276 : Cond.selects "AsOfJoins$Rows" ⟨"AsOfJoins$Rows", "wasGiven", "(I)Z"⟩ ⟨"AsOfJoins$Rows", "wasGiven", "(I)Z"⟩ ∈ lw_gd := lw_mw 276 (by decide +kernel) (by decide +kernel)
theorem mw_277 : Cond.code qy_R_wasGiven qb_R_wasGiven 2 (some .boolean) ∈ lw_gd := lw_mw 277 (by decide +kernel) (by decide +kernel)
theorem mw_278 : Cond.methodLink "AsOfJoins" 174 ⟨"AsOfJoins$Outs", "add", "(ILAsOfJoins$Rows;I)V"⟩ ∈ lw_gd := lw_mw 278 (by decide +kernel) (by decide +kernel)
theorem mw_279 : Cond.instanceMethod ⟨"AsOfJoins$Outs", "add", "(ILAsOfJoins$Rows;I)V"⟩ ∈ lw_gd := lw_mw 279 (by decide +kernel) (by decide +kernel)
theorem mw_280 : Cond.selects "AsOfJoins$Outs" ⟨"AsOfJoins$Outs", "add", "(ILAsOfJoins$Rows;I)V"⟩ ⟨"AsOfJoins$Outs", "add", "(ILAsOfJoins$Rows;I)V"⟩ ∈ lw_gd := lw_mw 280 (by decide +kernel) (by decide +kernel)
theorem mw_281 : Cond.code qy_O_add qb_O_add 6 none ∈ lw_gd := lw_mw 281 (by decide +kernel) (by decide +kernel)
theorem mw_282 : Cond.methodLink "AsOfJoins$Outs" 20 ⟨"AsOfJoins$Sheet", "size", "()I"⟩ ∈ lw_gd := lw_mw 282 (by decide +kernel) (by decide +kernel)
theorem mw_283 : Cond.methodLink "AsOfJoins$Outs" 31 ⟨"AsOfJoins$Sheet", "open", "(I)Z"⟩ ∈ lw_gd := lw_mw 283 (by decide +kernel) (by decide +kernel)
theorem mw_284 : Cond.methodLink "AsOfJoins$Outs" 42 ⟨"AsOfJoins$Sheet", "set", "(III)V"⟩ ∈ lw_gd := lw_mw 284 (by decide +kernel) (by decide +kernel)
theorem mw_285 : Cond.methodLink "AsOfJoins$Outs" 48 ⟨"AsOfJoins$Rows", "get", "(II)I"⟩ ∈ lw_gd := lw_mw 285 (by decide +kernel) (by decide +kernel)
theorem mw_286 : Cond.methodLink "AsOfJoins" 163 ⟨"AsOfJoins", "takeJoin", "(I)V"⟩ ∈ lw_gd := lw_mw 286 (by decide +kernel) (by decide +kernel)
theorem mw_288 : Cond.instanceMethod ⟨"AsOfJoins", "takeJoin", "(I)V"⟩ ∈ lw_gd := lw_mw 288 (by decide +kernel) (by decide +kernel)
theorem mw_289 : Cond.code qy_X_takeJoin qb_X_takeJoin 3 none ∈ lw_gd := lw_mw 289 (by decide +kernel) (by decide +kernel)
theorem mw_290 : Cond.methodLink "AsOfJoins" 166 ⟨"AsOfJoins", "isGivenByJoin", "()Z"⟩ ∈ lw_gd := lw_mw 290 (by decide +kernel) (by decide +kernel)
theorem mw_292 : Cond.instanceMethod ⟨"AsOfJoins", "isGivenByJoin", "()Z"⟩ ∈ lw_gd := lw_mw 292 (by decide +kernel) (by decide +kernel)
theorem mw_293 : Cond.code qy_X_isGivenByJoin qb_X_isGivenByJoin 2 (some .boolean) ∈ lw_gd := lw_mw 293 (by decide +kernel) (by decide +kernel)
theorem mw_294 : Cond.methodLink "AsOfJoins" 170 ⟨"AsOfJoins$Rows", "setJoin", "(I[IZ)V"⟩ ∈ lw_gd := lw_mw 294 (by decide +kernel) (by decide +kernel)
theorem mw_295 : Cond.instanceMethod ⟨"AsOfJoins$Rows", "setJoin", "(I[IZ)V"⟩ ∈ lw_gd := lw_mw 295 (by decide +kernel) (by decide +kernel)
theorem mw_296 : Cond.selects "AsOfJoins$Rows" ⟨"AsOfJoins$Rows", "setJoin", "(I[IZ)V"⟩ ⟨"AsOfJoins$Rows", "setJoin", "(I[IZ)V"⟩ ∈ lw_gd := lw_mw 296 (by decide +kernel) (by decide +kernel)
theorem mw_297 : Cond.code qy_R_setJoin qb_R_setJoin 5 none ∈ lw_gd := lw_mw 297 (by decide +kernel) (by decide +kernel)
theorem mw_298 : Cond.methodLink "AsOfJoins$Rows" 32 ⟨"AsOfJoins$Sheet", "set", "(III)V"⟩ ∈ lw_gd := lw_mw 298 (by decide +kernel) (by decide +kernel)
theorem mw_299 : Cond.methodLink "AsOfJoins" 87 ⟨"AsOfJoins$Versions", "sizeAt", "(I)I"⟩ ∈ lw_gd := lw_mw 299 (by decide +kernel) (by decide +kernel)
theorem mw_300 : Cond.instanceMethod ⟨"AsOfJoins$Versions", "sizeAt", "(I)I"⟩ ∈ lw_gd := lw_mw 300 (by decide +kernel) (by decide +kernel)
theorem mw_301 : Cond.selects "AsOfJoins$Versions" ⟨"AsOfJoins$Versions", "sizeAt", "(I)I"⟩ ⟨"AsOfJoins$Versions", "sizeAt", "(I)I"⟩ ∈ lw_gd := lw_mw 301 (by decide +kernel) (by decide +kernel)
theorem mw_302 : Cond.code qy_V_sizeAt qb_V_sizeAt 2 (some .int) ∈ lw_gd := lw_mw 302 (by decide +kernel) (by decide +kernel)
theorem mw_303 : Cond.constant "AsOfJoins$Versions" 35 100000 ∈ lw_gd := lw_mw 303 (by decide +kernel) (by decide +kernel)
theorem mw_304 : Cond.methodLink "AsOfJoins$Versions" 36 ⟨"AsOfJoins$Versions", "startOf", "(I)I"⟩ ∈ lw_gd := lw_mw 304 (by decide +kernel) (by decide +kernel)
theorem mw_305 : Cond.instanceMethod ⟨"AsOfJoins$Versions", "startOf", "(I)I"⟩ ∈ lw_gd := lw_mw 305 (by decide +kernel) (by decide +kernel)
theorem mw_306 : Cond.selects "AsOfJoins$Versions" ⟨"AsOfJoins$Versions", "startOf", "(I)I"⟩ ⟨"AsOfJoins$Versions", "startOf", "(I)I"⟩ ∈ lw_gd := lw_mw 306 (by decide +kernel) (by decide +kernel)
theorem mw_307 : Cond.code qy_V_startOf qb_V_startOf 2 (some .int) ∈ lw_gd := lw_mw 307 (by decide +kernel) (by decide +kernel)
theorem mw_308 : Cond.methodLink "AsOfJoinsLaw" 28 ⟨"AsOfJoins", "row", "(III)I"⟩ ∈ lw_gd := lw_mw 308 (by decide +kernel) (by decide +kernel)
theorem mw_309 : Cond.instanceMethod ⟨"AsOfJoins", "row", "(III)I"⟩ ∈ lw_gd := lw_mw 309 (by decide +kernel) (by decide +kernel)
theorem mw_310 : Cond.selects "AsOfJoins" ⟨"AsOfJoins", "row", "(III)I"⟩ ⟨"AsOfJoins", "row", "(III)I"⟩ ∈ lw_gd := lw_mw 310 (by decide +kernel) (by decide +kernel)
theorem mw_311 : Cond.code qy_X_row qb_X_row 5 (some .int) ∈ lw_gd := lw_mw 311 (by decide +kernel) (by decide +kernel)
theorem mw_312 : Cond.methodLink "AsOfJoins" 98 ⟨"AsOfJoins$Rows", "add", "(IIII)V"⟩ ∈ lw_gd := lw_mw 312 (by decide +kernel) (by decide +kernel)
theorem mw_313 : Cond.instanceMethod ⟨"AsOfJoins$Rows", "add", "(IIII)V"⟩ ∈ lw_gd := lw_mw 313 (by decide +kernel) (by decide +kernel)
theorem mw_314 : Cond.selects "AsOfJoins$Rows" ⟨"AsOfJoins$Rows", "add", "(IIII)V"⟩ ⟨"AsOfJoins$Rows", "add", "(IIII)V"⟩ ∈ lw_gd := lw_mw 314 (by decide +kernel) (by decide +kernel)
theorem mw_315 : Cond.code qy_R_add qb_R_add 6 none ∈ lw_gd := lw_mw 315 (by decide +kernel) (by decide +kernel)
theorem mw_316 : Cond.methodLink "AsOfJoins$Rows" 28 ⟨"AsOfJoins$Sheet", "open", "(I)Z"⟩ ∈ lw_gd := lw_mw 316 (by decide +kernel) (by decide +kernel)
theorem mw_317 : Cond.methodLink "AsOfJoins" 102 ⟨"AsOfJoins", "joinRows", "()V"⟩ ∈ lw_gd := lw_mw 317 (by decide +kernel) (by decide +kernel)
theorem mw_319 : Cond.instanceMethod ⟨"AsOfJoins", "joinRows", "()V"⟩ ∈ lw_gd := lw_mw 319 (by decide +kernel) (by decide +kernel)
theorem mw_320 : Cond.code qy_X_joinRows qb_X_joinRows 4 none ∈ lw_gd := lw_mw 320 (by decide +kernel) (by decide +kernel)
theorem mw_321 : Cond.methodLink "AsOfJoins" 153 ⟨"AsOfJoins", "lowestMark", "()I"⟩ ∈ lw_gd := lw_mw 321 (by decide +kernel) (by decide +kernel)
theorem mw_323 : Cond.instanceMethod ⟨"AsOfJoins", "lowestMark", "()I"⟩ ∈ lw_gd := lw_mw 323 (by decide +kernel) (by decide +kernel)
theorem mw_324 : Cond.code qy_X_lowestMark qb_X_lowestMark 3 (some .int) ∈ lw_gd := lw_mw 324 (by decide +kernel) (by decide +kernel)
theorem mw_325 : Cond.methodLink "AsOfJoins" 148 ⟨"java/lang/Math", "min", "(II)I"⟩ ∈ lw_gd := lw_mw 325 (by decide +kernel) (by decide +kernel)
theorem mw_326 : Cond.static ⟨"java/lang/Math", "min", "(II)I"⟩ ∈ lw_gd := lw_mw 326 (by decide +kernel) (by decide +kernel)
theorem mw_327 : Cond.code Lib.Math.min.name Lib.Math.min.code 2 (some .int) ∈ lw_gd := lw_mw 327 (by decide +kernel) (by decide +kernel)
theorem mw_328 : Cond.methodLink "AsOfJoinsLaw" 33 ⟨"AsOfJoins", "mark", "(II)I"⟩ ∈ lw_gd := lw_mw 328 (by decide +kernel) (by decide +kernel)
theorem mw_329 : Cond.instanceMethod ⟨"AsOfJoins", "mark", "(II)I"⟩ ∈ lw_gd := lw_mw 329 (by decide +kernel) (by decide +kernel)
theorem mw_330 : Cond.selects "AsOfJoins" ⟨"AsOfJoins", "mark", "(II)I"⟩ ⟨"AsOfJoins", "mark", "(II)I"⟩ ∈ lw_gd := lw_mw 330 (by decide +kernel) (by decide +kernel)
theorem mw_331 : Cond.code qy_X_mark qb_X_mark 4 (some .int) ∈ lw_gd := lw_mw 331 (by decide +kernel) (by decide +kernel)
theorem mw_332 : Cond.methodLink "AsOfJoins" 112 ⟨"AsOfJoins$Rows", "dropJoined", "(I)I"⟩ ∈ lw_gd := lw_mw 332 (by decide +kernel) (by decide +kernel)
theorem mw_333 : Cond.instanceMethod ⟨"AsOfJoins$Rows", "dropJoined", "(I)I"⟩ ∈ lw_gd := lw_mw 333 (by decide +kernel) (by decide +kernel)
theorem mw_334 : Cond.selects "AsOfJoins$Rows" ⟨"AsOfJoins$Rows", "dropJoined", "(I)I"⟩ ⟨"AsOfJoins$Rows", "dropJoined", "(I)I"⟩ ∈ lw_gd := lw_mw 334 (by decide +kernel) (by decide +kernel)
theorem mw_335 : Cond.code qy_R_dropJoined qb_R_dropJoined 4 (some .int) ∈ lw_gd := lw_mw 335 (by decide +kernel) (by decide +kernel)
theorem mw_336 : Cond.methodLink "AsOfJoins$Rows" 36 ⟨"AsOfJoins$Rows", "waits", "(I)Z"⟩ ∈ lw_gd := lw_mw 336 (by decide +kernel) (by decide +kernel)
theorem mw_337 : Cond.methodLink "AsOfJoins$Rows" 39 ⟨"AsOfJoins$Sheet", "drop", "(I)V"⟩ ∈ lw_gd := lw_mw 337 (by decide +kernel) (by decide +kernel)
theorem mw_338 : Cond.instanceMethod ⟨"AsOfJoins$Sheet", "drop", "(I)V"⟩ ∈ lw_gd := lw_mw 338 (by decide +kernel) (by decide +kernel)
theorem mw_339 : Cond.selects "AsOfJoins$Sheet" ⟨"AsOfJoins$Sheet", "drop", "(I)V"⟩ ⟨"AsOfJoins$Sheet", "drop", "(I)V"⟩ ∈ lw_gd := lw_mw 339 (by decide +kernel) (by decide +kernel)
theorem mw_340 : Cond.code qy_S_drop qb_S_drop 3 none ∈ lw_gd := lw_mw 340 (by decide +kernel) (by decide +kernel)
theorem mw_341 : Cond.methodLink "AsOfJoins" 115 ⟨"AsOfJoins", "dropVersions", "()V"⟩ ∈ lw_gd := lw_mw 341 (by decide +kernel) (by decide +kernel)
theorem mw_343 : Cond.instanceMethod ⟨"AsOfJoins", "dropVersions", "()V"⟩ ∈ lw_gd := lw_mw 343 (by decide +kernel) (by decide +kernel)
theorem mw_344 : Cond.code qy_X_dropVersions qb_X_dropVersions 3 none ∈ lw_gd := lw_mw 344 (by decide +kernel) (by decide +kernel)
theorem mw_345 : Cond.methodLink "AsOfJoins" 187 ⟨"AsOfJoins", "isNeedless", "(I)Z"⟩ ∈ lw_gd := lw_mw 345 (by decide +kernel) (by decide +kernel)
theorem mw_347 : Cond.instanceMethod ⟨"AsOfJoins", "isNeedless", "(I)Z"⟩ ∈ lw_gd := lw_mw 347 (by decide +kernel) (by decide +kernel)
theorem mw_348 : Cond.code qy_X_isNeedless qb_X_isNeedless 5 (some .boolean) ∈ lw_gd := lw_mw 348 (by decide +kernel) (by decide +kernel)
theorem mw_349 : Cond.methodLink "AsOfJoins" 193 ⟨"AsOfJoins$Rows", "anyWaits", "(III)Z"⟩ ∈ lw_gd := lw_mw 349 (by decide +kernel) (by decide +kernel)
theorem mw_350 : Cond.instanceMethod ⟨"AsOfJoins$Rows", "anyWaits", "(III)Z"⟩ ∈ lw_gd := lw_mw 350 (by decide +kernel) (by decide +kernel)
theorem mw_351 : Cond.selects "AsOfJoins$Rows" ⟨"AsOfJoins$Rows", "anyWaits", "(III)Z"⟩ ⟨"AsOfJoins$Rows", "anyWaits", "(III)Z"⟩ ∈ lw_gd := lw_mw 351 (by decide +kernel) (by decide +kernel)
theorem mw_352 : Cond.code qy_R_anyWaits qb_R_anyWaits 6 (some .boolean) ∈ lw_gd := lw_mw 352 (by decide +kernel) (by decide +kernel)
theorem mw_353 : Cond.methodLink "AsOfJoins" 190 ⟨"AsOfJoins$Versions", "drop", "(I)V"⟩ ∈ lw_gd := lw_mw 353 (by decide +kernel) (by decide +kernel)
theorem mw_354 : Cond.instanceMethod ⟨"AsOfJoins$Versions", "drop", "(I)V"⟩ ∈ lw_gd := lw_mw 354 (by decide +kernel) (by decide +kernel)
theorem mw_355 : Cond.selects "AsOfJoins$Versions" ⟨"AsOfJoins$Versions", "drop", "(I)V"⟩ ⟨"AsOfJoins$Versions", "drop", "(I)V"⟩ ∈ lw_gd := lw_mw 355 (by decide +kernel) (by decide +kernel)
theorem mw_356 : Cond.code qy_V_drop qb_V_drop 2 none ∈ lw_gd := lw_mw 356 (by decide +kernel) (by decide +kernel)
theorem mw_357 : Cond.methodLink "AsOfJoins$Versions" 28 ⟨"AsOfJoins$Sheet", "drop", "(I)V"⟩ ∈ lw_gd := lw_mw 357 (by decide +kernel) (by decide +kernel)
theorem mw_358 : Cond.methodLink "AsOfJoinsLaw" 37 ⟨"AsOfJoins", "out", "(II)I"⟩ ∈ lw_gd := lw_mw 358 (by decide +kernel) (by decide +kernel)
theorem mw_359 : Cond.instanceMethod ⟨"AsOfJoins", "out", "(II)I"⟩ ∈ lw_gd := lw_mw 359 (by decide +kernel) (by decide +kernel)
theorem mw_360 : Cond.selects "AsOfJoins" ⟨"AsOfJoins", "out", "(II)I"⟩ ⟨"AsOfJoins", "out", "(II)I"⟩ ∈ lw_gd := lw_mw 360 (by decide +kernel) (by decide +kernel)
theorem mw_361 : Cond.code qy_X_out qb_X_out 3 (some .int) ∈ lw_gd := lw_mw 361 (by decide +kernel) (by decide +kernel)
theorem mw_362 : Cond.methodLink "AsOfJoins" 118 ⟨"AsOfJoins$Outs", "size", "()I"⟩ ∈ lw_gd := lw_mw 362 (by decide +kernel) (by decide +kernel)
theorem mw_363 : Cond.instanceMethod ⟨"AsOfJoins$Outs", "size", "()I"⟩ ∈ lw_gd := lw_mw 363 (by decide +kernel) (by decide +kernel)
theorem mw_364 : Cond.selects "AsOfJoins$Outs" ⟨"AsOfJoins$Outs", "size", "()I"⟩ ⟨"AsOfJoins$Outs", "size", "()I"⟩ ∈ lw_gd := lw_mw 364 (by decide +kernel) (by decide +kernel)
theorem mw_365 : Cond.code qy_O_size qb_O_size 1 (some .int) ∈ lw_gd := lw_mw 365 (by decide +kernel) (by decide +kernel)
theorem mw_366 : Cond.methodLink "AsOfJoins" 119 ⟨"AsOfJoins$Outs", "get", "(II)I"⟩ ∈ lw_gd := lw_mw 366 (by decide +kernel) (by decide +kernel)
theorem mw_367 : Cond.instanceMethod ⟨"AsOfJoins$Outs", "get", "(II)I"⟩ ∈ lw_gd := lw_mw 367 (by decide +kernel) (by decide +kernel)
theorem mw_368 : Cond.selects "AsOfJoins$Outs" ⟨"AsOfJoins$Outs", "get", "(II)I"⟩ ⟨"AsOfJoins$Outs", "get", "(II)I"⟩ ∈ lw_gd := lw_mw 368 (by decide +kernel) (by decide +kernel)
theorem mw_369 : Cond.code qy_O_get qb_O_get 3 (some .int) ∈ lw_gd := lw_mw 369 (by decide +kernel) (by decide +kernel)
theorem mw_370 : Cond.methodLink "AsOfJoins$Outs" 24 ⟨"AsOfJoins$Sheet", "get", "(II)I"⟩ ∈ lw_gd := lw_mw 370 (by decide +kernel) (by decide +kernel)
theorem mw_371 : Cond.methodLink "AsOfJoinsLaw" 41 ⟨"AsOfJoins", "asOf", "(III)I"⟩ ∈ lw_gd := lw_mw 371 (by decide +kernel) (by decide +kernel)
theorem mw_372 : Cond.instanceMethod ⟨"AsOfJoins", "asOf", "(III)I"⟩ ∈ lw_gd := lw_mw 372 (by decide +kernel) (by decide +kernel)
theorem mw_373 : Cond.selects "AsOfJoins" ⟨"AsOfJoins", "asOf", "(III)I"⟩ ⟨"AsOfJoins", "asOf", "(III)I"⟩ ∈ lw_gd := lw_mw 373 (by decide +kernel) (by decide +kernel)
theorem mw_374 : Cond.code qy_X_asOf qb_X_asOf 5 (some .int) ∈ lw_gd := lw_mw 374 (by decide +kernel) (by decide +kernel)
theorem mw_375 : Cond.methodLink "AsOfJoinsLaw" 45 ⟨"AsOfJoins", "version", "(IIII)I"⟩ ∈ lw_gd := lw_mw 375 (by decide +kernel) (by decide +kernel)
theorem mw_376 : Cond.instanceMethod ⟨"AsOfJoins", "version", "(IIII)I"⟩ ∈ lw_gd := lw_mw 376 (by decide +kernel) (by decide +kernel)
theorem mw_377 : Cond.selects "AsOfJoins" ⟨"AsOfJoins", "version", "(IIII)I"⟩ ⟨"AsOfJoins", "version", "(IIII)I"⟩ ∈ lw_gd := lw_mw 377 (by decide +kernel) (by decide +kernel)
theorem mw_378 : Cond.code qy_X_version qb_X_version 6 (some .int) ∈ lw_gd := lw_mw 378 (by decide +kernel) (by decide +kernel)
theorem mw_379 : Cond.methodLink "AsOfJoins" 126 ⟨"AsOfJoins$Versions", "startOf", "(I)I"⟩ ∈ lw_gd := lw_mw 379 (by decide +kernel) (by decide +kernel)
theorem mw_380 : Cond.methodLink "AsOfJoinsLaw" 49 ⟨"AsOfJoins", "there", "(II)I"⟩ ∈ lw_gd := lw_mw 380 (by decide +kernel) (by decide +kernel)
theorem mw_381 : Cond.instanceMethod ⟨"AsOfJoins", "there", "(II)I"⟩ ∈ lw_gd := lw_mw 381 (by decide +kernel) (by decide +kernel)
theorem mw_382 : Cond.selects "AsOfJoins" ⟨"AsOfJoins", "there", "(II)I"⟩ ⟨"AsOfJoins", "there", "(II)I"⟩ ∈ lw_gd := lw_mw 382 (by decide +kernel) (by decide +kernel)
theorem mw_383 : Cond.code qy_X_there qb_X_there 3 (some .int) ∈ lw_gd := lw_mw 383 (by decide +kernel) (by decide +kernel)
theorem mw_384 : Cond.methodLink "AsOfJoinsLaw" 53 ⟨"AsOfJoins", "count", "(I)I"⟩ ∈ lw_gd := lw_mw 384 (by decide +kernel) (by decide +kernel)
theorem mw_385 : Cond.instanceMethod ⟨"AsOfJoins", "count", "(I)I"⟩ ∈ lw_gd := lw_mw 385 (by decide +kernel) (by decide +kernel)
theorem mw_386 : Cond.selects "AsOfJoins" ⟨"AsOfJoins", "count", "(I)I"⟩ ⟨"AsOfJoins", "count", "(I)I"⟩ ∈ lw_gd := lw_mw 386 (by decide +kernel) (by decide +kernel)
theorem mw_387 : Cond.code qy_X_count qb_X_count 2 (some .int) ∈ lw_gd := lw_mw 387 (by decide +kernel) (by decide +kernel)
theorem mw_388 : Cond.methodLink "AsOfJoins" 130 ⟨"AsOfJoins$Rows", "waiting", "()I"⟩ ∈ lw_gd := lw_mw 388 (by decide +kernel) (by decide +kernel)
theorem mw_389 : Cond.instanceMethod ⟨"AsOfJoins$Rows", "waiting", "()I"⟩ ∈ lw_gd := lw_mw 389 (by decide +kernel) (by decide +kernel)
theorem mw_390 : Cond.selects "AsOfJoins$Rows" ⟨"AsOfJoins$Rows", "waiting", "()I"⟩ ⟨"AsOfJoins$Rows", "waiting", "()I"⟩ ∈ lw_gd := lw_mw 390 (by decide +kernel) (by decide +kernel)
theorem mw_391 : Cond.code qy_R_waiting qb_R_waiting 3 (some .int) ∈ lw_gd := lw_mw 391 (by decide +kernel) (by decide +kernel)
theorem mw_392 : Cond.methodLink "AsOfJoins" 142 ⟨"AsOfJoins", "markOrNone", "(I)I"⟩ ∈ lw_gd := lw_mw 392 (by decide +kernel) (by decide +kernel)
theorem mw_394 : Cond.instanceMethod ⟨"AsOfJoins", "markOrNone", "(I)I"⟩ ∈ lw_gd := lw_mw 394 (by decide +kernel) (by decide +kernel)
theorem mw_395 : Cond.code qy_X_markOrNone qb_X_markOrNone 2 (some .int) ∈ lw_gd := lw_mw 395 (by decide +kernel) (by decide +kernel)
theorem mw_396 : Cond.classLink "AsOfJoinsLaw" 10 "AsOfJoinsModel" ∈ lw_gd := lw_mw 396 (by decide +kernel) (by decide +kernel)
theorem mw_397 : Cond.instantiable "AsOfJoinsModel" 24 ∈ lw_gd := lw_mw 397 (by decide +kernel) (by decide +kernel)
theorem mw_398 : Cond.methodLink "AsOfJoinsLaw" 12 ⟨"AsOfJoinsModel", "<init>", "()V"⟩ ∈ lw_gd := lw_mw 398 (by decide +kernel) (by decide +kernel)
theorem mw_399 : Cond.instanceMethod ⟨"AsOfJoinsModel", "<init>", "()V"⟩ ∈ lw_gd := lw_mw 399 (by decide +kernel) (by decide +kernel)
theorem mw_400 : Cond.code qy_M_init qb_M_init 1 none ∈ lw_gd := lw_mw 400 (by decide +kernel) (by decide +kernel)
theorem mw_401 : Cond.methodLink "AsOfJoinsModel" 7 ⟨"java/lang/Object", "<init>", "()V"⟩ ∈ lw_gd := lw_mw 401 (by decide +kernel) (by decide +kernel)
theorem mw_402 : Cond.fieldLink "AsOfJoinsModel" 1 "AsOfJoinsModel" "thrown" "I" ∈ lw_gd := lw_mw 402 (by decide +kernel) (by decide +kernel)
theorem mw_403 : Cond.fieldLink "AsOfJoinsModel" 42 "AsOfJoinsModel" "tables" "I" ∈ lw_gd := lw_mw 403 (by decide +kernel) (by decide +kernel)
theorem mw_404 : Cond.fieldLink "AsOfJoinsModel" 57 "AsOfJoinsModel" "side" "I" ∈ lw_gd := lw_mw 404 (by decide +kernel) (by decide +kernel)
theorem mw_405 : Cond.fieldLink "AsOfJoinsModel" 60 "AsOfJoinsModel" "lates" "I" ∈ lw_gd := lw_mw 405 (by decide +kernel) (by decide +kernel)
theorem mw_406 : Cond.fieldLink "AsOfJoinsModel" 63 "AsOfJoinsModel" "inner" "I" ∈ lw_gd := lw_mw 406 (by decide +kernel) (by decide +kernel)
theorem mw_407 : Cond.fieldLink "AsOfJoinsModel" 39 "AsOfJoinsModel" "keep" "I" ∈ lw_gd := lw_mw 407 (by decide +kernel) (by decide +kernel)
theorem mw_408 : Cond.fieldLink "AsOfJoinsModel" 45 "AsOfJoinsModel" "begun" "Z" ∈ lw_gd := lw_mw 408 (by decide +kernel) (by decide +kernel)
theorem mw_409 : Cond.fieldLink "AsOfJoinsModel" 13 "AsOfJoinsModel" "marks" "[I" ∈ lw_gd := lw_mw 409 (by decide +kernel) (by decide +kernel)
theorem mw_410 : Cond.fieldLink "AsOfJoinsModel" 36 "AsOfJoinsModel" "rowMark" "I" ∈ lw_gd := lw_mw 410 (by decide +kernel) (by decide +kernel)
theorem mw_411 : Cond.fieldLink "AsOfJoinsModel" 17 "AsOfJoinsModel" "version" "[I" ∈ lw_gd := lw_mw 411 (by decide +kernel) (by decide +kernel)
theorem mw_412 : Cond.fieldLink "AsOfJoinsModel" 66 "AsOfJoinsModel" "versions" "I" ∈ lw_gd := lw_mw 412 (by decide +kernel) (by decide +kernel)
theorem mw_413 : Cond.fieldLink "AsOfJoinsModel" 20 "AsOfJoinsModel" "row" "[I" ∈ lw_gd := lw_mw 413 (by decide +kernel) (by decide +kernel)
theorem mw_414 : Cond.fieldLink "AsOfJoinsModel" 23 "AsOfJoinsModel" "join" "[I" ∈ lw_gd := lw_mw 414 (by decide +kernel) (by decide +kernel)
theorem mw_415 : Cond.fieldLink "AsOfJoinsModel" 98 "AsOfJoinsModel" "rows" "I" ∈ lw_gd := lw_mw 415 (by decide +kernel) (by decide +kernel)
theorem mw_416 : Cond.fieldLink "AsOfJoinsModel" 139 "AsOfJoinsModel" "came" "I" ∈ lw_gd := lw_mw 416 (by decide +kernel) (by decide +kernel)
theorem mw_417 : Cond.fieldLink "AsOfJoinsModel" 84 "AsOfJoinsModel" "gives" "I" ∈ lw_gd := lw_mw 417 (by decide +kernel) (by decide +kernel)
theorem mw_418 : Cond.fieldLink "AsOfJoinsModel" 87 "AsOfJoinsModel" "takes" "I" ∈ lw_gd := lw_mw 418 (by decide +kernel) (by decide +kernel)
theorem mw_419 : Cond.fieldLink "AsOfJoinsModel" 151 "AsOfJoinsModel" "rowsGone" "I" ∈ lw_gd := lw_mw 419 (by decide +kernel) (by decide +kernel)
theorem mw_420 : Cond.fieldLink "AsOfJoinsModel" 162 "AsOfJoinsModel" "versionsGone" "I" ∈ lw_gd := lw_mw 420 (by decide +kernel) (by decide +kernel)
theorem mw_421 : Cond.fieldLink "AsOfJoinsModel" 126 "AsOfJoinsModel" "lateAnswers" "I" ∈ lw_gd := lw_mw 421 (by decide +kernel) (by decide +kernel)
theorem mw_422 : Cond.fieldLink "AsOfJoinsModel" 26 "AsOfJoinsModel" "out" "[I" ∈ lw_gd := lw_mw 422 (by decide +kernel) (by decide +kernel)
theorem mw_423 : Cond.fieldLink "AsOfJoinsModel" 81 "AsOfJoinsModel" "outs" "I" ∈ lw_gd := lw_mw 423 (by decide +kernel) (by decide +kernel)
theorem mw_424 : Cond.fieldLink "AsOfJoinsModel" 29 "AsOfJoinsModel" "found" "[I" ∈ lw_gd := lw_mw 424 (by decide +kernel) (by decide +kernel)
theorem mw_425 : Cond.fieldLink "AsOfJoinsModel" 32 "AsOfJoinsModel" "goes" "[Z" ∈ lw_gd := lw_mw 425 (by decide +kernel) (by decide +kernel)
theorem mw_475 : Cond.arrayClass .boolean ∈ lw_gd := lw_mw 475 (by decide +kernel) (by decide +kernel)
theorem mw_476 : Cond.methodLink "AsOfJoinsLaw" 17 ⟨"AsOfJoinsModel", "table", "()I"⟩ ∈ lw_gd := lw_mw 476 (by decide +kernel) (by decide +kernel)
theorem mw_477 : Cond.instanceMethod ⟨"AsOfJoinsModel", "table", "()I"⟩ ∈ lw_gd := lw_mw 477 (by decide +kernel) (by decide +kernel)
theorem mw_478 : Cond.selects "AsOfJoinsModel" ⟨"AsOfJoinsModel", "table", "()I"⟩ ⟨"AsOfJoinsModel", "table", "()I"⟩ ∈ lw_gd := lw_mw 478 (by decide +kernel) (by decide +kernel)
theorem mw_479 : Cond.code qy_M_table qb_M_table 1 (some .int) ∈ lw_gd := lw_mw 479 (by decide +kernel) (by decide +kernel)
theorem mw_480 : Cond.methodLink "AsOfJoinsLaw" 22 ⟨"AsOfJoinsModel", "rule", "(II)I"⟩ ∈ lw_gd := lw_mw 480 (by decide +kernel) (by decide +kernel)
theorem mw_481 : Cond.instanceMethod ⟨"AsOfJoinsModel", "rule", "(II)I"⟩ ∈ lw_gd := lw_mw 481 (by decide +kernel) (by decide +kernel)
theorem mw_482 : Cond.selects "AsOfJoinsModel" ⟨"AsOfJoinsModel", "rule", "(II)I"⟩ ⟨"AsOfJoinsModel", "rule", "(II)I"⟩ ∈ lw_gd := lw_mw 482 (by decide +kernel) (by decide +kernel)
theorem mw_483 : Cond.code qy_M_rule qb_M_rule 4 (some .int) ∈ lw_gd := lw_mw 483 (by decide +kernel) (by decide +kernel)
theorem mw_484 : Cond.constantLong "AsOfJoinsModel" 49 3 ∈ lw_gd := lw_mw 484 (by decide +kernel) (by decide +kernel)
theorem mw_485 : Cond.methodLink "AsOfJoinsModel" 51 ⟨"AsOfJoinsModel", "in", "(JJJ)Z"⟩ ∈ lw_gd := lw_mw 485 (by decide +kernel) (by decide +kernel)
theorem mw_486 : Cond.static ⟨"AsOfJoinsModel", "in", "(JJJ)Z"⟩ ∈ lw_gd := lw_mw 486 (by decide +kernel) (by decide +kernel)
theorem mw_487 : Cond.code qy_M_in qb_M_in 6 (some .boolean) ∈ lw_gd := lw_mw 487 (by decide +kernel) (by decide +kernel)
theorem mw_488 : Cond.constantLong "AsOfJoinsModel" 55 1000 ∈ lw_gd := lw_mw 488 (by decide +kernel) (by decide +kernel)
theorem mw_489 : Cond.methodLink "AsOfJoinsLaw" 27 ⟨"AsOfJoinsModel", "change", "(IIII)I"⟩ ∈ lw_gd := lw_mw 489 (by decide +kernel) (by decide +kernel)
theorem mw_490 : Cond.instanceMethod ⟨"AsOfJoinsModel", "change", "(IIII)I"⟩ ∈ lw_gd := lw_mw 490 (by decide +kernel) (by decide +kernel)
theorem mw_491 : Cond.selects "AsOfJoinsModel" ⟨"AsOfJoinsModel", "change", "(IIII)I"⟩ ⟨"AsOfJoinsModel", "change", "(IIII)I"⟩ ∈ lw_gd := lw_mw 491 (by decide +kernel) (by decide +kernel)
theorem mw_492 : Cond.code qy_M_change qb_M_change 6 (some .int) ∈ lw_gd := lw_mw 492 (by decide +kernel) (by decide +kernel)
theorem mw_493 : Cond.constantLong "AsOfJoinsModel" 116 15 ∈ lw_gd := lw_mw 493 (by decide +kernel) (by decide +kernel)
theorem mw_494 : Cond.constantLong "AsOfJoinsModel" 118 100000 ∈ lw_gd := lw_mw 494 (by decide +kernel) (by decide +kernel)
theorem mw_495 : Cond.constantLong "AsOfJoinsModel" 120 (-1) ∈ lw_gd := lw_mw 495 (by decide +kernel) (by decide +kernel)
theorem mw_496 : Cond.methodLink "AsOfJoinsModel" 122 ⟨"AsOfJoinsModel", "horizon", "()I"⟩ ∈ lw_gd := lw_mw 496 (by decide +kernel) (by decide +kernel)
theorem mw_498 : Cond.instanceMethod ⟨"AsOfJoinsModel", "horizon", "()I"⟩ ∈ lw_gd := lw_mw 498 (by decide +kernel) (by decide +kernel)
theorem mw_499 : Cond.code qy_M_horizon qb_M_horizon 1 (some .int) ∈ lw_gd := lw_mw 499 (by decide +kernel) (by decide +kernel)
theorem mw_500 : Cond.methodLink "AsOfJoinsModel" 129 ⟨"AsOfJoinsModel", "versionAt", "(III)I"⟩ ∈ lw_gd := lw_mw 500 (by decide +kernel) (by decide +kernel)
theorem mw_502 : Cond.instanceMethod ⟨"AsOfJoinsModel", "versionAt", "(III)I"⟩ ∈ lw_gd := lw_mw 502 (by decide +kernel) (by decide +kernel)
theorem mw_503 : Cond.code qy_M_versionAt qb_M_versionAt 5 (some .int) ∈ lw_gd := lw_mw 503 (by decide +kernel) (by decide +kernel)
theorem mw_504 : Cond.methodLink "AsOfJoinsModel" 69 ⟨"AsOfJoinsModel", "isOf", "(III)Z"⟩ ∈ lw_gd := lw_mw 504 (by decide +kernel) (by decide +kernel)
theorem mw_506 : Cond.instanceMethod ⟨"AsOfJoinsModel", "isOf", "(III)Z"⟩ ∈ lw_gd := lw_mw 506 (by decide +kernel) (by decide +kernel)
theorem mw_507 : Cond.code qy_M_isOf qb_M_isOf 4 (some .boolean) ∈ lw_gd := lw_mw 507 (by decide +kernel) (by decide +kernel)
theorem mw_508 : Cond.methodLink "AsOfJoinsModel" 132 ⟨"AsOfJoinsModel", "correct", "()V"⟩ ∈ lw_gd := lw_mw 508 (by decide +kernel) (by decide +kernel)
theorem mw_510 : Cond.instanceMethod ⟨"AsOfJoinsModel", "correct", "()V"⟩ ∈ lw_gd := lw_mw 510 (by decide +kernel) (by decide +kernel)
theorem mw_511 : Cond.code qy_M_correct qb_M_correct 5 none ∈ lw_gd := lw_mw 511 (by decide +kernel) (by decide +kernel)
theorem mw_512 : Cond.methodLink "AsOfJoinsModel" 101 ⟨"AsOfJoinsModel", "rowBy", "(I)I"⟩ ∈ lw_gd := lw_mw 512 (by decide +kernel) (by decide +kernel)
theorem mw_514 : Cond.instanceMethod ⟨"AsOfJoinsModel", "rowBy", "(I)I"⟩ ∈ lw_gd := lw_mw 514 (by decide +kernel) (by decide +kernel)
theorem mw_515 : Cond.code qy_M_rowBy qb_M_rowBy 7 (some .int) ∈ lw_gd := lw_mw 515 (by decide +kernel) (by decide +kernel)
theorem mw_516 : Cond.methodLink "AsOfJoinsModel" 109 ⟨"AsOfJoinsModel", "find", "(I)V"⟩ ∈ lw_gd := lw_mw 516 (by decide +kernel) (by decide +kernel)
theorem mw_518 : Cond.instanceMethod ⟨"AsOfJoinsModel", "find", "(I)V"⟩ ∈ lw_gd := lw_mw 518 (by decide +kernel) (by decide +kernel)
theorem mw_519 : Cond.code qy_M_find qb_M_find 5 none ∈ lw_gd := lw_mw 519 (by decide +kernel) (by decide +kernel)
theorem mw_520 : Cond.methodLink "AsOfJoinsModel" 77 ⟨"AsOfJoinsModel", "latest", "(III)I"⟩ ∈ lw_gd := lw_mw 520 (by decide +kernel) (by decide +kernel)
theorem mw_522 : Cond.instanceMethod ⟨"AsOfJoinsModel", "latest", "(III)I"⟩ ∈ lw_gd := lw_mw 522 (by decide +kernel) (by decide +kernel)
theorem mw_523 : Cond.code qy_M_latest qb_M_latest 6 (some .int) ∈ lw_gd := lw_mw 523 (by decide +kernel) (by decide +kernel)
theorem mw_524 : Cond.methodLink "AsOfJoinsModel" 73 ⟨"AsOfJoinsModel", "reaches", "(II)Z"⟩ ∈ lw_gd := lw_mw 524 (by decide +kernel) (by decide +kernel)
theorem mw_526 : Cond.instanceMethod ⟨"AsOfJoinsModel", "reaches", "(II)Z"⟩ ∈ lw_gd := lw_mw 526 (by decide +kernel) (by decide +kernel)
theorem mw_527 : Cond.code qy_M_reaches qb_M_reaches 3 (some .boolean) ∈ lw_gd := lw_mw 527 (by decide +kernel) (by decide +kernel)
theorem mw_528 : Cond.methodLink "AsOfJoinsModel" 94 ⟨"AsOfJoinsModel", "tell", "(II)V"⟩ ∈ lw_gd := lw_mw 528 (by decide +kernel) (by decide +kernel)
theorem mw_530 : Cond.instanceMethod ⟨"AsOfJoinsModel", "tell", "(II)V"⟩ ∈ lw_gd := lw_mw 530 (by decide +kernel) (by decide +kernel)
theorem mw_531 : Cond.code qy_M_tell qb_M_tell 5 none ∈ lw_gd := lw_mw 531 (by decide +kernel) (by decide +kernel)
theorem mw_532 : Cond.methodLink "AsOfJoinsModel" 113 ⟨"AsOfJoinsModel", "take", "(I)V"⟩ ∈ lw_gd := lw_mw 532 (by decide +kernel) (by decide +kernel)
theorem mw_534 : Cond.instanceMethod ⟨"AsOfJoinsModel", "take", "(I)V"⟩ ∈ lw_gd := lw_mw 534 (by decide +kernel) (by decide +kernel)
theorem mw_535 : Cond.code qy_M_take qb_M_take 3 none ∈ lw_gd := lw_mw 535 (by decide +kernel) (by decide +kernel)
theorem mw_536 : Cond.methodLink "AsOfJoinsModel" 90 ⟨"AsOfJoinsModel", "isGiven", "()Z"⟩ ∈ lw_gd := lw_mw 536 (by decide +kernel) (by decide +kernel)
theorem mw_538 : Cond.instanceMethod ⟨"AsOfJoinsModel", "isGiven", "()Z"⟩ ∈ lw_gd := lw_mw 538 (by decide +kernel) (by decide +kernel)
theorem mw_539 : Cond.code qy_M_isGiven qb_M_isGiven 3 (some .boolean) ∈ lw_gd := lw_mw 539 (by decide +kernel) (by decide +kernel)
theorem mw_540 : Cond.methodLink "AsOfJoinsModel" 135 ⟨"AsOfJoinsModel", "manyOf", "(II)I"⟩ ∈ lw_gd := lw_mw 540 (by decide +kernel) (by decide +kernel)
theorem mw_542 : Cond.instanceMethod ⟨"AsOfJoinsModel", "manyOf", "(II)I"⟩ ∈ lw_gd := lw_mw 542 (by decide +kernel) (by decide +kernel)
theorem mw_543 : Cond.code qy_M_manyOf qb_M_manyOf 5 (some .int) ∈ lw_gd := lw_mw 543 (by decide +kernel) (by decide +kernel)
theorem mw_544 : Cond.methodLink "AsOfJoinsLaw" 32 ⟨"AsOfJoinsModel", "row", "(III)I"⟩ ∈ lw_gd := lw_mw 544 (by decide +kernel) (by decide +kernel)
theorem mw_545 : Cond.instanceMethod ⟨"AsOfJoinsModel", "row", "(III)I"⟩ ∈ lw_gd := lw_mw 545 (by decide +kernel) (by decide +kernel)
theorem mw_546 : Cond.selects "AsOfJoinsModel" ⟨"AsOfJoinsModel", "row", "(III)I"⟩ ⟨"AsOfJoinsModel", "row", "(III)I"⟩ ∈ lw_gd := lw_mw 546 (by decide +kernel) (by decide +kernel)
theorem mw_547 : Cond.code qy_M_row qb_M_row 5 (some .int) ∈ lw_gd := lw_mw 547 (by decide +kernel) (by decide +kernel)
theorem mw_548 : Cond.methodLink "AsOfJoinsModel" 142 ⟨"AsOfJoinsModel", "joinAll", "()V"⟩ ∈ lw_gd := lw_mw 548 (by decide +kernel) (by decide +kernel)
theorem mw_550 : Cond.instanceMethod ⟨"AsOfJoinsModel", "joinAll", "()V"⟩ ∈ lw_gd := lw_mw 550 (by decide +kernel) (by decide +kernel)
theorem mw_551 : Cond.code qy_M_joinAll qb_M_joinAll 3 none ∈ lw_gd := lw_mw 551 (by decide +kernel) (by decide +kernel)
theorem mw_552 : Cond.methodLink "AsOfJoinsModel" 105 ⟨"AsOfJoinsModel", "canJoin", "(I)Z"⟩ ∈ lw_gd := lw_mw 552 (by decide +kernel) (by decide +kernel)
theorem mw_554 : Cond.instanceMethod ⟨"AsOfJoinsModel", "canJoin", "(I)Z"⟩ ∈ lw_gd := lw_mw 554 (by decide +kernel) (by decide +kernel)
theorem mw_555 : Cond.code qy_M_canJoin qb_M_canJoin 4 (some .boolean) ∈ lw_gd := lw_mw 555 (by decide +kernel) (by decide +kernel)
theorem mw_556 : Cond.methodLink "AsOfJoinsLaw" 36 ⟨"AsOfJoinsModel", "mark", "(II)I"⟩ ∈ lw_gd := lw_mw 556 (by decide +kernel) (by decide +kernel)
theorem mw_557 : Cond.instanceMethod ⟨"AsOfJoinsModel", "mark", "(II)I"⟩ ∈ lw_gd := lw_mw 557 (by decide +kernel) (by decide +kernel)
theorem mw_558 : Cond.selects "AsOfJoinsModel" ⟨"AsOfJoinsModel", "mark", "(II)I"⟩ ⟨"AsOfJoinsModel", "mark", "(II)I"⟩ ∈ lw_gd := lw_mw 558 (by decide +kernel) (by decide +kernel)
theorem mw_559 : Cond.code qy_M_mark qb_M_mark 4 (some .int) ∈ lw_gd := lw_mw 559 (by decide +kernel) (by decide +kernel)
theorem mw_560 : Cond.methodLink "AsOfJoinsModel" 145 ⟨"AsOfJoinsModel", "dropRows", "()V"⟩ ∈ lw_gd := lw_mw 560 (by decide +kernel) (by decide +kernel)
theorem mw_562 : Cond.instanceMethod ⟨"AsOfJoinsModel", "dropRows", "()V"⟩ ∈ lw_gd := lw_mw 562 (by decide +kernel) (by decide +kernel)
theorem mw_563 : Cond.code qy_M_dropRows qb_M_dropRows 5 none ∈ lw_gd := lw_mw 563 (by decide +kernel) (by decide +kernel)
theorem mw_564 : Cond.methodLink "AsOfJoinsModel" 148 ⟨"AsOfJoinsModel", "dropVersions", "()V"⟩ ∈ lw_gd := lw_mw 564 (by decide +kernel) (by decide +kernel)
theorem mw_566 : Cond.instanceMethod ⟨"AsOfJoinsModel", "dropVersions", "()V"⟩ ∈ lw_gd := lw_mw 566 (by decide +kernel) (by decide +kernel)
theorem mw_567 : Cond.code qy_M_dropVersions qb_M_dropVersions 4 none ∈ lw_gd := lw_mw 567 (by decide +kernel) (by decide +kernel)
theorem mw_568 : Cond.methodLink "AsOfJoinsModel" 159 ⟨"AsOfJoinsModel", "isNeeded", "(I)Z"⟩ ∈ lw_gd := lw_mw 568 (by decide +kernel) (by decide +kernel)
theorem mw_570 : Cond.instanceMethod ⟨"AsOfJoinsModel", "isNeeded", "(I)Z"⟩ ∈ lw_gd := lw_mw 570 (by decide +kernel) (by decide +kernel)
theorem mw_571 : Cond.code qy_M_isNeeded qb_M_isNeeded 7 (some .boolean) ∈ lw_gd := lw_mw 571 (by decide +kernel) (by decide +kernel)
theorem mw_572 : Cond.constant "AsOfJoinsModel" 154 100001 ∈ lw_gd := lw_mw 572 (by decide +kernel) (by decide +kernel)
theorem mw_573 : Cond.constant "AsOfJoinsModel" 155 100000 ∈ lw_gd := lw_mw 573 (by decide +kernel) (by decide +kernel)
theorem mw_574 : Cond.methodLink "AsOfJoinsModel" 156 ⟨"AsOfJoinsModel", "serves", "(III)Z"⟩ ∈ lw_gd := lw_mw 574 (by decide +kernel) (by decide +kernel)
theorem mw_576 : Cond.instanceMethod ⟨"AsOfJoinsModel", "serves", "(III)Z"⟩ ∈ lw_gd := lw_mw 576 (by decide +kernel) (by decide +kernel)
theorem mw_577 : Cond.code qy_M_serves qb_M_serves 4 (some .boolean) ∈ lw_gd := lw_mw 577 (by decide +kernel) (by decide +kernel)
theorem mw_578 : Cond.methodLink "AsOfJoinsLaw" 40 ⟨"AsOfJoinsModel", "out", "(II)I"⟩ ∈ lw_gd := lw_mw 578 (by decide +kernel) (by decide +kernel)
theorem mw_579 : Cond.instanceMethod ⟨"AsOfJoinsModel", "out", "(II)I"⟩ ∈ lw_gd := lw_mw 579 (by decide +kernel) (by decide +kernel)
theorem mw_580 : Cond.selects "AsOfJoinsModel" ⟨"AsOfJoinsModel", "out", "(II)I"⟩ ⟨"AsOfJoinsModel", "out", "(II)I"⟩ ∈ lw_gd := lw_mw 580 (by decide +kernel) (by decide +kernel)
theorem mw_581 : Cond.code qy_M_out qb_M_out 3 (some .int) ∈ lw_gd := lw_mw 581 (by decide +kernel) (by decide +kernel)
theorem mw_582 : Cond.methodLink "AsOfJoinsLaw" 44 ⟨"AsOfJoinsModel", "asOf", "(III)I"⟩ ∈ lw_gd := lw_mw 582 (by decide +kernel) (by decide +kernel)
theorem mw_583 : Cond.instanceMethod ⟨"AsOfJoinsModel", "asOf", "(III)I"⟩ ∈ lw_gd := lw_mw 583 (by decide +kernel) (by decide +kernel)
theorem mw_584 : Cond.selects "AsOfJoinsModel" ⟨"AsOfJoinsModel", "asOf", "(III)I"⟩ ⟨"AsOfJoinsModel", "asOf", "(III)I"⟩ ∈ lw_gd := lw_mw 584 (by decide +kernel) (by decide +kernel)
theorem mw_585 : Cond.code qy_M_asOf qb_M_asOf 5 (some .int) ∈ lw_gd := lw_mw 585 (by decide +kernel) (by decide +kernel)
theorem mw_586 : Cond.methodLink "AsOfJoinsLaw" 48 ⟨"AsOfJoinsModel", "version", "(IIII)I"⟩ ∈ lw_gd := lw_mw 586 (by decide +kernel) (by decide +kernel)
theorem mw_587 : Cond.instanceMethod ⟨"AsOfJoinsModel", "version", "(IIII)I"⟩ ∈ lw_gd := lw_mw 587 (by decide +kernel) (by decide +kernel)
theorem mw_588 : Cond.selects "AsOfJoinsModel" ⟨"AsOfJoinsModel", "version", "(IIII)I"⟩ ⟨"AsOfJoinsModel", "version", "(IIII)I"⟩ ∈ lw_gd := lw_mw 588 (by decide +kernel) (by decide +kernel)
theorem mw_589 : Cond.code qy_M_version qb_M_version 5 (some .int) ∈ lw_gd := lw_mw 589 (by decide +kernel) (by decide +kernel)
theorem mw_590 : Cond.methodLink "AsOfJoinsModel" 165 ⟨"AsOfJoinsModel", "versionBy", "(III)I"⟩ ∈ lw_gd := lw_mw 590 (by decide +kernel) (by decide +kernel)
theorem mw_592 : Cond.instanceMethod ⟨"AsOfJoinsModel", "versionBy", "(III)I"⟩ ∈ lw_gd := lw_mw 592 (by decide +kernel) (by decide +kernel)
theorem mw_593 : Cond.code qy_M_versionBy qb_M_versionBy 7 (some .int) ∈ lw_gd := lw_mw 593 (by decide +kernel) (by decide +kernel)
theorem mw_594 : Cond.methodLink "AsOfJoinsLaw" 52 ⟨"AsOfJoinsModel", "there", "(II)I"⟩ ∈ lw_gd := lw_mw 594 (by decide +kernel) (by decide +kernel)
theorem mw_595 : Cond.instanceMethod ⟨"AsOfJoinsModel", "there", "(II)I"⟩ ∈ lw_gd := lw_mw 595 (by decide +kernel) (by decide +kernel)
theorem mw_596 : Cond.selects "AsOfJoinsModel" ⟨"AsOfJoinsModel", "there", "(II)I"⟩ ⟨"AsOfJoinsModel", "there", "(II)I"⟩ ∈ lw_gd := lw_mw 596 (by decide +kernel) (by decide +kernel)
theorem mw_597 : Cond.code qy_M_there qb_M_there 3 (some .int) ∈ lw_gd := lw_mw 597 (by decide +kernel) (by decide +kernel)
theorem mw_598 : Cond.constantLong "AsOfJoinsModel" 168 5 ∈ lw_gd := lw_mw 598 (by decide +kernel) (by decide +kernel)
theorem mw_599 : Cond.methodLink "AsOfJoinsLaw" 57 ⟨"AsOfJoinsModel", "count", "(I)I"⟩ ∈ lw_gd := lw_mw 599 (by decide +kernel) (by decide +kernel)
theorem mw_600 : Cond.instanceMethod ⟨"AsOfJoinsModel", "count", "(I)I"⟩ ∈ lw_gd := lw_mw 600 (by decide +kernel) (by decide +kernel)
theorem mw_601 : Cond.selects "AsOfJoinsModel" ⟨"AsOfJoinsModel", "count", "(I)I"⟩ ⟨"AsOfJoinsModel", "count", "(I)I"⟩ ∈ lw_gd := lw_mw 601 (by decide +kernel) (by decide +kernel)
theorem mw_602 : Cond.code qy_M_count qb_M_count 4 (some .int) ∈ lw_gd := lw_mw 602 (by decide +kernel) (by decide +kernel)
theorem gc_L_13 : GoodIn lw_gd (wsV qR_L 13 qR_X qy_X_table qw_X_table) := lw_ga (lw_gc mw_156 (lw_gc mw_157 (lw_gc mw_158 (lw_gc mw_35 lw_g0)))) (lw_g1 mw_159)
theorem gc_L_18 : GoodIn lw_gd (wsV qR_L 18 qR_X qy_X_rule qw_X_rule) := lw_ga (lw_gc mw_160 (lw_gc mw_161 (lw_gc mw_162 (lw_gc mw_35 lw_g0)))) (lw_g1 mw_163)
theorem gc_L_23 : GoodIn lw_gd (wsV qR_L 23 qR_X qy_X_change qw_X_change) := lw_ga (lw_gc mw_164 (lw_gc mw_165 (lw_gc mw_166 (lw_gc mw_35 lw_g0)))) (lw_g1 mw_167)
theorem gc_X_48 : GoodIn lw_gd (wsV qR_X 48 qR_X qy_X_isTable qw_X_isTable) := lw_ga (lw_gc mw_168 (lw_gc mw_170 (lw_gc mw_0 (lw_gc mw_35 lw_g0)))) (lw_g1 mw_171)
theorem gc_X_52 : GoodIn lw_gd (va_wsS qR_X 52 qy_X_isKey qw_X_isKey) := lw_ga (lw_gc mw_172 (lw_gc mw_173 (lw_gc mw_35 lw_g0))) (lw_g1 mw_174)
theorem gc_X_55 : GoodIn lw_gd (va_wsS qR_X 55 qy_X_isTime qw_X_isTime) := lw_ga (lw_gc mw_175 (lw_gc mw_176 (lw_gc mw_35 lw_g0))) (lw_g1 mw_177)
theorem gc_X_58 : GoodIn lw_gd (va_wsS qR_X 58 qy_X_isValue qw_X_isValue) := lw_ga (lw_gc mw_179 (lw_gc mw_180 (lw_gc mw_35 lw_g0))) (lw_g1 mw_181)
theorem gc_X_61 : GoodIn lw_gd (wsV qR_X 61 qR_X qy_X_isLateChange qw_X_isLateChange) := lw_ga (lw_gc mw_182 (lw_gc mw_184 (lw_gc mw_1 (lw_gc mw_35 lw_g0)))) (lw_g1 mw_185)
theorem gc_X_109 : GoodIn lw_gd (wsV qR_X 109 qR_X qy_X_horizon qw_X_horizon) := lw_ga (lw_gc mw_186 (lw_gc mw_188 (lw_gc mw_2 (lw_gc mw_35 lw_g0)))) (lw_g1 mw_189)
theorem gc_X_68 : GoodIn lw_gd (wsV qR_X 68 qR_V qy_V_size qw_V_size) := lw_ga (lw_gc mw_190 (lw_gc mw_191 (lw_gc mw_192 (lw_gc mw_36 lw_g0)))) (lw_g1 mw_193)
theorem gc_V_20 : GoodIn lw_gd (wsV qR_V 20 qR_S qy_S_size qw_S_size) := lw_ga (lw_gc mw_194 (lw_gc mw_195 (lw_gc mw_196 (lw_gc mw_37 lw_g0)))) (lw_g1 mw_197)
theorem gc_X_72 : GoodIn lw_gd (wsV qR_X 72 qR_X qy_X_begin qw_X_begin) := lw_ga (lw_gc mw_198 (lw_gc mw_200 (lw_gc mw_3 (lw_gc mw_35 lw_g0)))) (lw_g1 mw_201)
theorem gc_X_145 : GoodIn lw_gd (wsV qR_X 145 qR_O qy_O_clear qw_O_clear) := lw_ga (lw_gc mw_202 (lw_gc mw_203 (lw_gc mw_204 (lw_gc mw_40 lw_g0)))) (lw_g1 mw_205)
theorem gc_O_28 : GoodIn lw_gd (wsV qR_O 28 qR_S qy_S_clear qw_S_clear) := lw_ga (lw_gc mw_206 (lw_gc mw_207 (lw_gc mw_208 (lw_gc mw_37 lw_g0)))) (lw_g1 mw_209)
theorem gc_X_75 : GoodIn lw_gd (va_wsS qR_X 75 qy_X_placeOf qw_X_placeOf) := lw_ga (lw_gc mw_210 (lw_gc mw_211 (lw_gc mw_35 lw_g0))) (lw_g1 mw_212)
theorem gc_X_79 : GoodIn lw_gd (wsV qR_X 79 qR_V qy_V_put qw_V_put) := lw_ga (lw_gc mw_213 (lw_gc mw_214 (lw_gc mw_215 (lw_gc mw_36 lw_g0)))) (lw_g1 mw_216)
theorem gc_V_32 : GoodIn lw_gd (wsV qR_V 32 qR_V qy_V_linesUpTo qw_V_linesUpTo) := lw_ga (lw_gc mw_217 (lw_gc mw_219 (lw_gc mw_4 (lw_gc mw_36 lw_g0)))) (lw_g1 mw_220)
theorem gc_V_24 : GoodIn lw_gd (wsV qR_V 24 qR_S qy_S_get qw_S_get) := lw_ga (lw_gc mw_221 (lw_gc mw_222 (lw_gc mw_223 (lw_gc mw_37 lw_g0)))) (lw_g1 mw_224)
theorem gc_V_40 : GoodIn lw_gd (wsV qR_V 40 qR_S qy_S_set qw_S_set) := lw_ga (lw_gc mw_225 (lw_gc mw_226 (lw_gc mw_227 (lw_gc mw_37 lw_g0)))) (lw_g1 mw_228)
theorem gc_V_44 : GoodIn lw_gd (wsV qR_V 44 qR_S qy_S_open qw_S_open) := lw_ga (lw_gc mw_229 (lw_gc mw_230 (lw_gc mw_231 (lw_gc mw_37 lw_g0)))) (lw_g1 mw_232)
theorem gc_X_83 : GoodIn lw_gd (wsV qR_X 83 qR_X qy_X_correctRows qw_X_correctRows) := lw_ga (lw_gc mw_236 (lw_gc mw_238 (lw_gc mw_5 (lw_gc mw_35 lw_g0)))) (lw_g1 mw_239)
theorem gc_X_94 : GoodIn lw_gd (wsV qR_X 94 qR_R qy_R_size qw_R_size) := lw_ga (lw_gc mw_240 (lw_gc mw_241 (lw_gc mw_242 (lw_gc mw_39 lw_g0)))) (lw_g1 mw_243)
theorem gc_R_20 : GoodIn lw_gd (wsV qR_R 20 qR_S qy_S_size qw_S_size) := lw_ga (lw_gc mw_244 (lw_gc mw_195 (lw_gc mw_196 (lw_gc mw_37 lw_g0)))) (lw_g1 mw_197)
theorem gc_X_129 : GoodIn lw_gd (wsV qR_X 129 qR_R qy_R_get qw_R_get) := lw_ga (lw_gc mw_245 (lw_gc mw_246 (lw_gc mw_247 (lw_gc mw_39 lw_g0)))) (lw_g1 mw_248)
theorem gc_R_24 : GoodIn lw_gd (wsV qR_R 24 qR_S qy_S_get qw_S_get) := lw_ga (lw_gc mw_249 (lw_gc mw_222 (lw_gc mw_223 (lw_gc mw_37 lw_g0)))) (lw_g1 mw_224)
theorem gc_X_156 : GoodIn lw_gd (wsV qR_X 156 qR_R qy_R_waits qw_R_waits) := lw_ga (lw_gc mw_250 (lw_gc mw_251 (lw_gc mw_252 (lw_gc mw_39 lw_g0)))) (lw_g1 mw_253)
theorem gc_X_177 : GoodIn lw_gd (wsV qR_X 177 qR_X qy_X_correctRow qw_X_correctRow) := lw_ga (lw_gc mw_254 (lw_gc mw_256 (lw_gc mw_6 (lw_gc mw_35 lw_g0)))) (lw_g1 mw_257)
theorem gc_X_159 : GoodIn lw_gd (wsV qR_X 159 qR_X qy_X_findJoin qw_X_findJoin) := lw_ga (lw_gc mw_258 (lw_gc mw_260 (lw_gc mw_7 (lw_gc mw_35 lw_g0)))) (lw_g1 mw_261)
theorem gc_X_122 : GoodIn lw_gd (wsV qR_X 122 qR_V qy_V_lineAsOf qw_V_lineAsOf) := lw_ga (lw_gc mw_262 (lw_gc mw_263 (lw_gc mw_264 (lw_gc mw_36 lw_g0)))) (lw_g1 mw_265)
theorem gc_X_125 : GoodIn lw_gd (wsV qR_X 125 qR_V qy_V_get qw_V_get) := lw_ga (lw_gc mw_266 (lw_gc mw_267 (lw_gc mw_268 (lw_gc mw_36 lw_g0)))) (lw_g1 mw_269)
theorem gc_X_180 : GoodIn lw_gd (wsV qR_X 180 qR_R qy_R_hasJoin qw_R_hasJoin) := lw_ga (lw_gc mw_270 (lw_gc mw_271 (lw_gc mw_272 (lw_gc mw_39 lw_g0)))) (lw_g1 mw_273)
theorem gc_X_184 : GoodIn lw_gd (wsV qR_X 184 qR_R qy_R_wasGiven qw_R_wasGiven) := lw_ga (lw_gc mw_274 (lw_gc mw_275 (lw_gc mw_276 (lw_gc mw_39 lw_g0)))) (lw_g1 mw_277)
theorem gc_X_174 : GoodIn lw_gd (wsV qR_X 174 qR_O qy_O_add qw_O_add) := lw_ga (lw_gc mw_278 (lw_gc mw_279 (lw_gc mw_280 (lw_gc mw_40 lw_g0)))) (lw_g1 mw_281)
theorem gc_O_20 : GoodIn lw_gd (wsV qR_O 20 qR_S qy_S_size qw_S_size) := lw_ga (lw_gc mw_282 (lw_gc mw_195 (lw_gc mw_196 (lw_gc mw_37 lw_g0)))) (lw_g1 mw_197)
theorem gc_O_31 : GoodIn lw_gd (wsV qR_O 31 qR_S qy_S_open qw_S_open) := lw_ga (lw_gc mw_283 (lw_gc mw_230 (lw_gc mw_231 (lw_gc mw_37 lw_g0)))) (lw_g1 mw_232)
theorem gc_O_42 : GoodIn lw_gd (wsV qR_O 42 qR_S qy_S_set qw_S_set) := lw_ga (lw_gc mw_284 (lw_gc mw_226 (lw_gc mw_227 (lw_gc mw_37 lw_g0)))) (lw_g1 mw_228)
theorem gc_O_48 : GoodIn lw_gd (wsV qR_O 48 qR_R qy_R_get qw_R_get) := lw_ga (lw_gc mw_285 (lw_gc mw_246 (lw_gc mw_247 (lw_gc mw_39 lw_g0)))) (lw_g1 mw_248)
theorem gc_X_163 : GoodIn lw_gd (wsV qR_X 163 qR_X qy_X_takeJoin qw_X_takeJoin) := lw_ga (lw_gc mw_286 (lw_gc mw_288 (lw_gc mw_8 (lw_gc mw_35 lw_g0)))) (lw_g1 mw_289)
theorem gc_X_166 : GoodIn lw_gd (wsV qR_X 166 qR_X qy_X_isGivenByJoin qw_X_isGivenByJoin) := lw_ga (lw_gc mw_290 (lw_gc mw_292 (lw_gc mw_9 (lw_gc mw_35 lw_g0)))) (lw_g1 mw_293)
theorem gc_X_170 : GoodIn lw_gd (wsV qR_X 170 qR_R qy_R_setJoin qw_R_setJoin) := lw_ga (lw_gc mw_294 (lw_gc mw_295 (lw_gc mw_296 (lw_gc mw_39 lw_g0)))) (lw_g1 mw_297)
theorem gc_R_32 : GoodIn lw_gd (wsV qR_R 32 qR_S qy_S_set qw_S_set) := lw_ga (lw_gc mw_298 (lw_gc mw_226 (lw_gc mw_227 (lw_gc mw_37 lw_g0)))) (lw_g1 mw_228)
theorem gc_X_87 : GoodIn lw_gd (wsV qR_X 87 qR_V qy_V_sizeAt qw_V_sizeAt) := lw_ga (lw_gc mw_299 (lw_gc mw_300 (lw_gc mw_301 (lw_gc mw_36 lw_g0)))) (lw_g1 mw_302)
theorem gc_V_36 : GoodIn lw_gd (wsV qR_V 36 qR_V qy_V_startOf qw_V_startOf) := lw_ga (lw_gc mw_304 (lw_gc mw_305 (lw_gc mw_306 (lw_gc mw_36 lw_g0)))) (lw_g1 mw_307)
theorem gc_L_28 : GoodIn lw_gd (wsV qR_L 28 qR_X qy_X_row qw_X_row) := lw_ga (lw_gc mw_308 (lw_gc mw_309 (lw_gc mw_310 (lw_gc mw_35 lw_g0)))) (lw_g1 mw_311)
theorem gc_X_98 : GoodIn lw_gd (wsV qR_X 98 qR_R qy_R_add qw_R_add) := lw_ga (lw_gc mw_312 (lw_gc mw_313 (lw_gc mw_314 (lw_gc mw_39 lw_g0)))) (lw_g1 mw_315)
theorem gc_R_28 : GoodIn lw_gd (wsV qR_R 28 qR_S qy_S_open qw_S_open) := lw_ga (lw_gc mw_316 (lw_gc mw_230 (lw_gc mw_231 (lw_gc mw_37 lw_g0)))) (lw_g1 mw_232)
theorem gc_X_102 : GoodIn lw_gd (wsV qR_X 102 qR_X qy_X_joinRows qw_X_joinRows) := lw_ga (lw_gc mw_317 (lw_gc mw_319 (lw_gc mw_10 (lw_gc mw_35 lw_g0)))) (lw_g1 mw_320)
theorem gc_X_153 : GoodIn lw_gd (wsV qR_X 153 qR_X qy_X_lowestMark qw_X_lowestMark) := lw_ga (lw_gc mw_321 (lw_gc mw_323 (lw_gc mw_11 (lw_gc mw_35 lw_g0)))) (lw_g1 mw_324)
theorem gc_L_33 : GoodIn lw_gd (wsV qR_L 33 qR_X qy_X_mark qw_X_mark) := lw_ga (lw_gc mw_328 (lw_gc mw_329 (lw_gc mw_330 (lw_gc mw_35 lw_g0)))) (lw_g1 mw_331)
theorem gc_X_112 : GoodIn lw_gd (wsV qR_X 112 qR_R qy_R_dropJoined qw_R_dropJoined) := lw_ga (lw_gc mw_332 (lw_gc mw_333 (lw_gc mw_334 (lw_gc mw_39 lw_g0)))) (lw_g1 mw_335)
theorem gc_R_36 : GoodIn lw_gd (wsV qR_R 36 qR_R qy_R_waits qw_R_waits) := lw_ga (lw_gc mw_336 (lw_gc mw_251 (lw_gc mw_252 (lw_gc mw_39 lw_g0)))) (lw_g1 mw_253)
theorem gc_R_39 : GoodIn lw_gd (wsV qR_R 39 qR_S qy_S_drop qw_S_drop) := lw_ga (lw_gc mw_337 (lw_gc mw_338 (lw_gc mw_339 (lw_gc mw_37 lw_g0)))) (lw_g1 mw_340)
theorem gc_X_115 : GoodIn lw_gd (wsV qR_X 115 qR_X qy_X_dropVersions qw_X_dropVersions) := lw_ga (lw_gc mw_341 (lw_gc mw_343 (lw_gc mw_12 (lw_gc mw_35 lw_g0)))) (lw_g1 mw_344)
theorem gc_X_187 : GoodIn lw_gd (wsV qR_X 187 qR_X qy_X_isNeedless qw_X_isNeedless) := lw_ga (lw_gc mw_345 (lw_gc mw_347 (lw_gc mw_13 (lw_gc mw_35 lw_g0)))) (lw_g1 mw_348)
theorem gc_X_193 : GoodIn lw_gd (wsV qR_X 193 qR_R qy_R_anyWaits qw_R_anyWaits) := lw_ga (lw_gc mw_349 (lw_gc mw_350 (lw_gc mw_351 (lw_gc mw_39 lw_g0)))) (lw_g1 mw_352)
theorem gc_X_190 : GoodIn lw_gd (wsV qR_X 190 qR_V qy_V_drop qw_V_drop) := lw_ga (lw_gc mw_353 (lw_gc mw_354 (lw_gc mw_355 (lw_gc mw_36 lw_g0)))) (lw_g1 mw_356)
theorem gc_V_28 : GoodIn lw_gd (wsV qR_V 28 qR_S qy_S_drop qw_S_drop) := lw_ga (lw_gc mw_357 (lw_gc mw_338 (lw_gc mw_339 (lw_gc mw_37 lw_g0)))) (lw_g1 mw_340)
theorem gc_L_37 : GoodIn lw_gd (wsV qR_L 37 qR_X qy_X_out qw_X_out) := lw_ga (lw_gc mw_358 (lw_gc mw_359 (lw_gc mw_360 (lw_gc mw_35 lw_g0)))) (lw_g1 mw_361)
theorem gc_X_118 : GoodIn lw_gd (wsV qR_X 118 qR_O qy_O_size qw_O_size) := lw_ga (lw_gc mw_362 (lw_gc mw_363 (lw_gc mw_364 (lw_gc mw_40 lw_g0)))) (lw_g1 mw_365)
theorem gc_X_119 : GoodIn lw_gd (wsV qR_X 119 qR_O qy_O_get qw_O_get) := lw_ga (lw_gc mw_366 (lw_gc mw_367 (lw_gc mw_368 (lw_gc mw_40 lw_g0)))) (lw_g1 mw_369)
theorem gc_O_24 : GoodIn lw_gd (wsV qR_O 24 qR_S qy_S_get qw_S_get) := lw_ga (lw_gc mw_370 (lw_gc mw_222 (lw_gc mw_223 (lw_gc mw_37 lw_g0)))) (lw_g1 mw_224)
theorem gc_L_41 : GoodIn lw_gd (wsV qR_L 41 qR_X qy_X_asOf qw_X_asOf) := lw_ga (lw_gc mw_371 (lw_gc mw_372 (lw_gc mw_373 (lw_gc mw_35 lw_g0)))) (lw_g1 mw_374)
theorem gc_L_45 : GoodIn lw_gd (wsV qR_L 45 qR_X qy_X_version qw_X_version) := lw_ga (lw_gc mw_375 (lw_gc mw_376 (lw_gc mw_377 (lw_gc mw_35 lw_g0)))) (lw_g1 mw_378)
theorem gc_X_126 : GoodIn lw_gd (wsV qR_X 126 qR_V qy_V_startOf qw_V_startOf) := lw_ga (lw_gc mw_379 (lw_gc mw_305 (lw_gc mw_306 (lw_gc mw_36 lw_g0)))) (lw_g1 mw_307)
theorem gc_L_49 : GoodIn lw_gd (wsV qR_L 49 qR_X qy_X_there qw_X_there) := lw_ga (lw_gc mw_380 (lw_gc mw_381 (lw_gc mw_382 (lw_gc mw_35 lw_g0)))) (lw_g1 mw_383)
theorem gc_L_53 : GoodIn lw_gd (wsV qR_L 53 qR_X qy_X_count qw_X_count) := lw_ga (lw_gc mw_384 (lw_gc mw_385 (lw_gc mw_386 (lw_gc mw_35 lw_g0)))) (lw_g1 mw_387)
theorem gc_X_130 : GoodIn lw_gd (wsV qR_X 130 qR_R qy_R_waiting qw_R_waiting) := lw_ga (lw_gc mw_388 (lw_gc mw_389 (lw_gc mw_390 (lw_gc mw_39 lw_g0)))) (lw_g1 mw_391)
theorem gc_X_142 : GoodIn lw_gd (wsV qR_X 142 qR_X qy_X_markOrNone qw_X_markOrNone) := lw_ga (lw_gc mw_392 (lw_gc mw_394 (lw_gc mw_14 (lw_gc mw_35 lw_g0)))) (lw_g1 mw_395)
theorem gc_L_17 : GoodIn lw_gd (wsV qR_L 17 qR_M qy_M_table qw_M_table) := lw_ga (lw_gc mw_476 (lw_gc mw_477 (lw_gc mw_478 (lw_gc mw_41 lw_g0)))) (lw_g1 mw_479)
theorem gc_L_22 : GoodIn lw_gd (wsV qR_L 22 qR_M qy_M_rule qw_M_rule) := lw_ga (lw_gc mw_480 (lw_gc mw_481 (lw_gc mw_482 (lw_gc mw_41 lw_g0)))) (lw_g1 mw_483)
theorem gc_M_51 : GoodIn lw_gd (va_wsS qR_M 51 qy_M_in qw_M_in) := lw_ga (lw_gc mw_485 (lw_gc mw_486 (lw_gc mw_41 lw_g0))) (lw_g1 mw_487)
theorem gc_L_27 : GoodIn lw_gd (wsV qR_L 27 qR_M qy_M_change qw_M_change) := lw_ga (lw_gc mw_489 (lw_gc mw_490 (lw_gc mw_491 (lw_gc mw_41 lw_g0)))) (lw_g1 mw_492)
theorem gc_M_122 : GoodIn lw_gd (wsV qR_M 122 qR_M qy_M_horizon qw_M_horizon) := lw_ga (lw_gc mw_496 (lw_gc mw_498 (lw_gc mw_15 (lw_gc mw_41 lw_g0)))) (lw_g1 mw_499)
theorem gc_M_129 : GoodIn lw_gd (wsV qR_M 129 qR_M qy_M_versionAt qw_M_versionAt) := lw_ga (lw_gc mw_500 (lw_gc mw_502 (lw_gc mw_16 (lw_gc mw_41 lw_g0)))) (lw_g1 mw_503)
theorem gc_M_69 : GoodIn lw_gd (wsV qR_M 69 qR_M qy_M_isOf qw_M_isOf) := lw_ga (lw_gc mw_504 (lw_gc mw_506 (lw_gc mw_17 (lw_gc mw_41 lw_g0)))) (lw_g1 mw_507)
theorem gc_M_132 : GoodIn lw_gd (wsV qR_M 132 qR_M qy_M_correct qw_M_correct) := lw_ga (lw_gc mw_508 (lw_gc mw_510 (lw_gc mw_18 (lw_gc mw_41 lw_g0)))) (lw_g1 mw_511)
theorem gc_M_101 : GoodIn lw_gd (wsV qR_M 101 qR_M qy_M_rowBy qw_M_rowBy) := lw_ga (lw_gc mw_512 (lw_gc mw_514 (lw_gc mw_19 (lw_gc mw_41 lw_g0)))) (lw_g1 mw_515)
theorem gc_M_109 : GoodIn lw_gd (wsV qR_M 109 qR_M qy_M_find qw_M_find) := lw_ga (lw_gc mw_516 (lw_gc mw_518 (lw_gc mw_20 (lw_gc mw_41 lw_g0)))) (lw_g1 mw_519)
theorem gc_M_77 : GoodIn lw_gd (wsV qR_M 77 qR_M qy_M_latest qw_M_latest) := lw_ga (lw_gc mw_520 (lw_gc mw_522 (lw_gc mw_21 (lw_gc mw_41 lw_g0)))) (lw_g1 mw_523)
theorem gc_M_73 : GoodIn lw_gd (wsV qR_M 73 qR_M qy_M_reaches qw_M_reaches) := lw_ga (lw_gc mw_524 (lw_gc mw_526 (lw_gc mw_22 (lw_gc mw_41 lw_g0)))) (lw_g1 mw_527)
theorem gc_M_94 : GoodIn lw_gd (wsV qR_M 94 qR_M qy_M_tell qw_M_tell) := lw_ga (lw_gc mw_528 (lw_gc mw_530 (lw_gc mw_23 (lw_gc mw_41 lw_g0)))) (lw_g1 mw_531)
theorem gc_M_113 : GoodIn lw_gd (wsV qR_M 113 qR_M qy_M_take qw_M_take) := lw_ga (lw_gc mw_532 (lw_gc mw_534 (lw_gc mw_24 (lw_gc mw_41 lw_g0)))) (lw_g1 mw_535)
theorem gc_M_90 : GoodIn lw_gd (wsV qR_M 90 qR_M qy_M_isGiven qw_M_isGiven) := lw_ga (lw_gc mw_536 (lw_gc mw_538 (lw_gc mw_25 (lw_gc mw_41 lw_g0)))) (lw_g1 mw_539)
theorem gc_M_135 : GoodIn lw_gd (wsV qR_M 135 qR_M qy_M_manyOf qw_M_manyOf) := lw_ga (lw_gc mw_540 (lw_gc mw_542 (lw_gc mw_26 (lw_gc mw_41 lw_g0)))) (lw_g1 mw_543)
theorem gc_L_32 : GoodIn lw_gd (wsV qR_L 32 qR_M qy_M_row qw_M_row) := lw_ga (lw_gc mw_544 (lw_gc mw_545 (lw_gc mw_546 (lw_gc mw_41 lw_g0)))) (lw_g1 mw_547)
theorem gc_M_142 : GoodIn lw_gd (wsV qR_M 142 qR_M qy_M_joinAll qw_M_joinAll) := lw_ga (lw_gc mw_548 (lw_gc mw_550 (lw_gc mw_27 (lw_gc mw_41 lw_g0)))) (lw_g1 mw_551)
theorem gc_M_105 : GoodIn lw_gd (wsV qR_M 105 qR_M qy_M_canJoin qw_M_canJoin) := lw_ga (lw_gc mw_552 (lw_gc mw_554 (lw_gc mw_28 (lw_gc mw_41 lw_g0)))) (lw_g1 mw_555)
theorem gc_L_36 : GoodIn lw_gd (wsV qR_L 36 qR_M qy_M_mark qw_M_mark) := lw_ga (lw_gc mw_556 (lw_gc mw_557 (lw_gc mw_558 (lw_gc mw_41 lw_g0)))) (lw_g1 mw_559)
theorem gc_M_145 : GoodIn lw_gd (wsV qR_M 145 qR_M qy_M_dropRows qw_M_dropRows) := lw_ga (lw_gc mw_560 (lw_gc mw_562 (lw_gc mw_29 (lw_gc mw_41 lw_g0)))) (lw_g1 mw_563)
theorem gc_M_148 : GoodIn lw_gd (wsV qR_M 148 qR_M qy_M_dropVersions qw_M_dropVersions) := lw_ga (lw_gc mw_564 (lw_gc mw_566 (lw_gc mw_30 (lw_gc mw_41 lw_g0)))) (lw_g1 mw_567)
theorem gc_M_159 : GoodIn lw_gd (wsV qR_M 159 qR_M qy_M_isNeeded qw_M_isNeeded) := lw_ga (lw_gc mw_568 (lw_gc mw_570 (lw_gc mw_31 (lw_gc mw_41 lw_g0)))) (lw_g1 mw_571)
theorem gc_M_156 : GoodIn lw_gd (wsV qR_M 156 qR_M qy_M_serves qw_M_serves) := lw_ga (lw_gc mw_574 (lw_gc mw_576 (lw_gc mw_32 (lw_gc mw_41 lw_g0)))) (lw_g1 mw_577)
theorem gc_L_40 : GoodIn lw_gd (wsV qR_L 40 qR_M qy_M_out qw_M_out) := lw_ga (lw_gc mw_578 (lw_gc mw_579 (lw_gc mw_580 (lw_gc mw_41 lw_g0)))) (lw_g1 mw_581)
theorem gc_L_44 : GoodIn lw_gd (wsV qR_L 44 qR_M qy_M_asOf qw_M_asOf) := lw_ga (lw_gc mw_582 (lw_gc mw_583 (lw_gc mw_584 (lw_gc mw_41 lw_g0)))) (lw_g1 mw_585)
theorem gc_L_48 : GoodIn lw_gd (wsV qR_L 48 qR_M qy_M_version qw_M_version) := lw_ga (lw_gc mw_586 (lw_gc mw_587 (lw_gc mw_588 (lw_gc mw_41 lw_g0)))) (lw_g1 mw_589)
theorem gc_M_165 : GoodIn lw_gd (wsV qR_M 165 qR_M qy_M_versionBy qw_M_versionBy) := lw_ga (lw_gc mw_590 (lw_gc mw_592 (lw_gc mw_33 (lw_gc mw_41 lw_g0)))) (lw_g1 mw_593)
theorem gc_L_52 : GoodIn lw_gd (wsV qR_L 52 qR_M qy_M_there qw_M_there) := lw_ga (lw_gc mw_594 (lw_gc mw_595 (lw_gc mw_596 (lw_gc mw_41 lw_g0)))) (lw_g1 mw_597)
theorem gc_L_57 : GoodIn lw_gd (wsV qR_L 57 qR_M qy_M_count qw_M_count) := lw_ga (lw_gc mw_599 (lw_gc mw_600 (lw_gc mw_601 (lw_gc mw_41 lw_g0)))) (lw_g1 mw_602)
end
section
/-! our own rows over the kit: read-only contracts, writing contracts, their calls and ends -/
section MK
variable {p : Program} {l : Launch} {e : Env} {R : Room} {s : State} {m : MethodId} {args : Array Value} {below : List Frame} {meth : Method} {c : Code} {H : Heap} {locs : List Loc} {cells slots : Nat} {Q : State → Prop}
variable {pc : Nat} {ls : Array Slot} {rest st0 : List Value} {a : Array Value} {A A0 : Nat → Prop} {H0 : Heap} {D : va_G} {cl : List vw_C} {ws wc wr : va_W} {tys : List (ClassId × FieldType)} {cc : ByteArray}
/-- the cells that are new -/
def mk_new (sz : Nat) : Nat → Prop := fun q => sz ≤ q
/-- a start that only reads its world -/
def mk_ro (av : List Value) (sz : Nat) (D : va_G) (cl : List vw_C) (tys : List (ClassId × FieldType)) (ws : va_W) : Array Value → State → Prop := va_Pc av (fun U => U.heap.size = sz ∧ va_P D cl ws U.heap ∧ va_K D cl tys U)
/-- its end: the answer alone -/
def mk_roQ (post : Int32 → Prop) (sz : Nat) : Array Value → State → Outcome → State → Prop := va_Qi (fun r (_ : Unit) => post r) (fun _ _ => True) (mk_new sz)
/-- a start that may write its world -/
def mk_mu (av : List Value) (sz : Nat) (D : va_G) (cl : List vw_C) (tys : List (ClassId × FieldType)) (ws : va_W) : Array Value → State → Prop := va_Pc av (fun U => U.heap.size = sz ∧ va_P D cl ws U.heap ∧ va_K D cl tys U ∧ va_D (fun _ => True) ws)
def mk_B {S : Type} (wo : S → va_W) (D : va_G) (cl : List vw_C) (tys : List (ClassId × FieldType)) (A : Nat → Prop) : S → State → Prop := fun u t => va_P D cl (wo u) t.heap ∧ va_K D cl tys t ∧ va_D A (wo u)
def mk_muQ {S : Type} (post : Int32 → S → Prop) (wo : S → va_W) (D : va_G) (cl : List vw_C) (tys : List (ClassId × FieldType)) (A : Nat → Prop) : Array Value → State → Outcome → State → Prop := va_Qi post (mk_B wo D cl tys A) A
def mk_muV {S : Type} (post : S → Prop) (wo : S → va_W) (D : va_G) (cl : List vw_C) (tys : List (ClassId × FieldType)) (A : Nat → Prop) : Array Value → State → Outcome → State → Prop := va_Qv post (mk_B wo D cl tys A) A
theorem mk_ro_blind {av : List Value} {sz : Nat} : FrameBlind (mk_ro av sz D cl tys ws) := fun a U g mk q => by
  obtain ⟨q0, q1, qP, qK⟩ := q
  exact ⟨q0, q1, qP, va_K.moved (u := U) (U := U.calling g mk a) (Vm.Alike.refl U.vm) qK⟩
theorem mk_mu_blind {av : List Value} {sz : Nat} : FrameBlind (mk_mu av sz D cl tys ws) := fun a U g mk q => by
  obtain ⟨q0, q1, qP, qK, qD⟩ := q
  exact ⟨q0, q1, qP, va_K.moved (u := U) (U := U.calling g mk a) (Vm.Alike.refl U.vm) qK, qD⟩
theorem mk_Psub {ws' : va_W} (h : va_P D cl ws H) (is : List Nat) (hs : is.map (fun i => ws[i]?) = ws'.map some) : va_P D cl ws' H := by
  intro k q hk
  have h1 : (is.map (fun i => ws[i]?))[k]? = some (some q) := by rw [hs, List.getElem?_map, hk]; rfl
  rw [List.getElem?_map] at h1
  cases hi : is[k]? with
  | none => rw [hi] at h1; cases h1
  | some i => rw [hi] at h1; exact h i q (Option.some.inj h1)
theorem mk_roV {C : String} {b : Addr} {As : List Value} (hP : va_P D cl ws H) (is : List Nat) (hs : is.map (fun i => ws[i]?) = wc.map some) (hK : va_K D cl tys s) (hrecv : ∃ cell : Cell, H[b]? = some cell ∧ cell.vm.isStatics = false ∧ s.vm.findClass C = some cell.cls) : PreV s H C b (mk_ro (.ref b :: As) H.size D cl tys wc) As :=
  ⟨mk_ro_blind, hrecv, fun U hU hW => ⟨rfl, by rw [hU], by rw [hU]; exact mk_Psub hP is hs, va_K.moved hW.alike hK⟩⟩
theorem mk_roS {As : List Value} (hP : va_P D cl ws H) (is : List Nat) (hs : is.map (fun i => ws[i]?) = wc.map some) (hK : va_K D cl tys s) : PreS s H (mk_ro As H.size D cl tys wc) As :=
  ⟨mk_ro_blind, fun U hU hW => ⟨rfl, by rw [hU], by rw [hU]; exact mk_Psub hP is hs, va_K.moved hW.alike hK⟩⟩
theorem mk_muP {C : String} {b : Addr} {As : List Value} (hP : va_P D cl ws H) (hD : va_D A0 ws) (is : List Nat) (hn : va_nd is = true) (hs : is.map (fun i => ws[i]?) = wc.map some) (hK : va_K D cl tys s) (hrecv : ∃ cell : Cell, H[b]? = some cell ∧ cell.vm.isStatics = false ∧ s.vm.findClass C = some cell.cls) : PreV s H C b (mk_mu (.ref b :: As) H.size D cl tys wc) As :=
  ⟨mk_mu_blind, hrecv, fun U hU hW => ⟨rfl, by rw [hU], by rw [hU]; exact mk_Psub hP is hs, va_K.moved hW.alike hK, (hD.sub is hn hs).weaken (fun _ _ _ _ => trivial)⟩⟩
theorem mk_muI {As : List Value} (hP : va_P D cl ws H) (hD : va_D A0 ws) (is : List Nat) (hn : va_nd is = true) (hs : is.map (fun i => ws[i]?) = wc.map some) (hK : va_K D cl tys s) : PreS s H (mk_mu As H.size D cl tys wc) As :=
  ⟨mk_mu_blind, fun U hU hW => ⟨rfl, by rw [hU], by rw [hU]; exact mk_Psub hP is hs, va_K.moved hW.alike hK, (hD.sub is hn hs).weaken (fun _ _ _ _ => trivial)⟩⟩
/-- behind a call that only reads: the whole world stays -/
theorem mk_calli {post : Int32 → Prop} (hr : va_Run p l e R s m args below meth c H locs cells slots 0 0 (F0 m pc ls st0) rest (mk_roQ post H.size a) (mk_new H.size)) (hS : va_S A0 H0 H locs) (hA : ∀ q, H0.size ≤ q → A0 q) (hP : va_P D cl ws H)
    (kk : ∀ (r : Int32) (H1 : Heap) (locs1 : List Loc), post r → va_P D cl ws H1 → va_S A0 H0 H1 locs1 → W p l e R s m args below meth c H1 locs1 cells slots Q (F0 m (pc + 3) ls (.int r :: rest))) : W p l e R s m args below meth c H locs cells slots Q (F0 m pc ls st0) :=
  va_calli (A1 := mk_new H.size) (free := mk_new H.size) hr hS (fun q _ h => hA q (Nat.le_trans hS.1 h)) (fun q h => hA q (Nat.le_trans hS.1 h)) (fun r u t H1 locs1 ht hvm hpost hB hz hk hS1 => kk r H1 locs1 hpost (hP.kept (fun k q hq => hk q.1 (hP k q hq).lt (Nat.not_le.mpr (hP k q hq).lt))) hS1)
/-- behind a call that writes a part of the world: that part comes back as 'wo u', the rest stays; the order is mended by isF -/
theorem mk_mcalli {S : Type} {post : Int32 → S → Prop} {wo wf : S → va_W} {mc ms : Nat} (hr : va_Run p l e R s m args below meth c H locs cells slots mc ms (F0 m pc ls st0) rest (mk_muQ post wo D cl tys (va_A wc H.size) a) (va_A wc H.size)) (hS : va_S A0 H0 H locs) (hA : ∀ q, H0.size ≤ q → A0 q) (hP : va_P D cl ws H) (hD : va_D A0 ws)
    (isC isR isF : List Nat) (hC : isC.map (fun i => ws[i]?) = wc.map some) (hR : isR.map (fun i => ws[i]?) = wr.map some) (hn : va_nd isR = true) (hdis : ∀ i ∈ isR, i ∉ isC) (hnF : va_nd isF = true) (hF : ∀ u, isF.map (fun i => (wr ++ wo u)[i]?) = (wf u).map some)
    (kk : ∀ (r : Int32) (u : S) (H1 : Heap) (locs1 : List Loc), post r u → va_P D cl (wf u) H1 → va_D A0 (wf u) → va_S A0 H0 H1 locs1 → W p l e R s m args below meth c H1 locs1 (cells + mc) (slots + ms) Q (F0 m (pc + 3) ls (.int r :: rest))) : W p l e R s m args below meth c H locs cells slots Q (F0 m pc ls st0) := by
  have hFc := va_free (wc := wc) hD hS hA isC hC
  refine va_calli (A1 := va_A wc H.size) (free := va_A wc H.size) hr hS (fun q _ h => hFc q h) hFc (fun r u t H1 locs1 ht hvm hw hB hz hk hS1 => ?_)
  obtain ⟨hP1, hK1, hD1⟩ := hB
  rw [ht] at hP1
  obtain ⟨hP2, hD2⟩ := va_join (wr := wr) (w1 := wo u) hP hD isC isR hC hR hn hdis hk hFc hP1 hD1
  exact kk r u H1 locs1 hw (mk_Psub hP2 isF (hF u)) (hD2.sub isF hnF (hF u)) hS1
theorem mk_mcallv {S : Type} {post : S → Prop} {wo wf : S → va_W} {mc ms : Nat} (hr : va_Run p l e R s m args below meth c H locs cells slots mc ms (F0 m pc ls st0) rest (mk_muV post wo D cl tys (va_A wc H.size) a) (va_A wc H.size)) (hS : va_S A0 H0 H locs) (hA : ∀ q, H0.size ≤ q → A0 q) (hP : va_P D cl ws H) (hD : va_D A0 ws)
    (isC isR isF : List Nat) (hC : isC.map (fun i => ws[i]?) = wc.map some) (hR : isR.map (fun i => ws[i]?) = wr.map some) (hn : va_nd isR = true) (hdis : ∀ i ∈ isR, i ∉ isC) (hnF : va_nd isF = true) (hF : ∀ u, isF.map (fun i => (wr ++ wo u)[i]?) = (wf u).map some)
    (kk : ∀ (u : S) (H1 : Heap) (locs1 : List Loc), post u → va_P D cl (wf u) H1 → va_D A0 (wf u) → va_S A0 H0 H1 locs1 → W p l e R s m args below meth c H1 locs1 (cells + mc) (slots + ms) Q (F0 m (pc + 3) ls rest)) : W p l e R s m args below meth c H locs cells slots Q (F0 m pc ls st0) := by
  have hFc := va_free (wc := wc) hD hS hA isC hC
  refine va_callv (A1 := va_A wc H.size) (free := va_A wc H.size) hr hS (fun q _ h => hFc q h) hFc (fun u t H1 locs1 ht hvm hw hB hz hk hS1 => ?_)
  obtain ⟨hP1, hK1, hD1⟩ := hB
  rw [ht] at hP1
  obtain ⟨hP2, hD2⟩ := va_join (wr := wr) (w1 := wo u) hP hD isC isR hC hR hn hdis hk hFc hP1 hD1
  exact kk u H1 locs1 hw (mk_Psub hP2 isF (hF u)) (hD2.sub isF hnF (hF u)) hS1
theorem mk_rw {x y : Int32} (h : x = y) (k : W p l e R s m args below meth c H locs cells slots Q (F0 m pc ls (.int y :: rest))) : W p l e R s m args below meth c H locs cells slots Q (F0 m pc ls (.int x :: rest)) := h ▸ k
theorem mk_rw3 {x y : Int32} {v1 v2 : Value} (h : x = y) (k : W p l e R s m args below meth c H locs cells slots Q (F0 m pc ls (v1 :: v2 :: .int y :: rest))) : W p l e R s m args below meth c H locs cells slots Q (F0 m pc ls (v1 :: v2 :: .int x :: rest)) := h ▸ k
theorem mk_rw2 {x y : Int32} {v1 : Value} (h : x = y) (k : W p l e R s m args below meth c H locs cells slots Q (F0 m pc ls (v1 :: .int y :: rest))) : W p l e R s m args below meth c H locs cells slots Q (F0 m pc ls (v1 :: .int x :: rest)) := h ▸ k
/-- a place where roads meet: the top of the stack is all that differs -/
theorem mk_meet (P : Int32 → Prop) (mk : Int32 → JFrame) (J : ∀ v, P v → W p l e R s m args below meth c H locs cells slots Q (mk v)) {g : JFrame} (k : (∀ v, P v → W p l e R s m args below meth c H locs cells slots Q (mk v)) → W p l e R s m args below meth c H locs cells slots Q g) : W p l e R s m args below meth c H locs cells slots Q g := k J
/-- the same where the heap may have moved (its world hasn't) -/
theorem mk_meetH (P : Int32 → Prop) (mk : Int32 → JFrame) (J : ∀ v H1 locs1, P v → va_P D cl ws H1 → va_S A0 H0 H1 locs1 → W p l e R s m args below meth c H1 locs1 cells slots Q (mk v)) {g : JFrame} (k : (∀ v H1 locs1, P v → va_P D cl ws H1 → va_S A0 H0 H1 locs1 → W p l e R s m args below meth c H1 locs1 cells slots Q (mk v)) → W p l e R s m args below meth c H locs cells slots Q g) : W p l e R s m args below meth c H locs cells slots Q g := k J
theorem mk_iret {post : Int32 → Prop} {v : Int32} (hx : p.tables.exec = Jvm.exec) (hb : c.code = cc) (hr : meth.sig.returnType = some .int) (hlocks : meth.locks = false) (hS : va_S (mk_new s.heap.size) s.heap H locs) (hdg : decode cc pc = .ok (.ireturn, 1)) (hp : post v) :
    W p l e R s m args below meth c H locs cells slots (MQ below (mk_roQ post s.heap.size) args s cells slots (mk_new s.heap.size)) (F0 m pc ls [.int v]) :=
  W.iret (v := v) hx hb hr (fun t ht hW => ⟨⟨v, (), rfl, hp, trivial⟩, hS.F ht⟩) hS.2.2 hdg hlocks
theorem mk_zret {post : Int32 → Prop} {v : Int32} (hx : p.tables.exec = Jvm.exec) (hb : c.code = cc) (hr : meth.sig.returnType = some .boolean) (hlocks : meth.locks = false) (hS : va_S (mk_new s.heap.size) s.heap H locs) (hdg : decode cc pc = .ok (.ireturn, 1)) (hn : v = 0 ∨ v = 1) (hp : post v) :
    W p l e R s m args below meth c H locs cells slots (MQ below (mk_roQ post s.heap.size) args s cells slots (mk_new s.heap.size)) (F0 m pc ls [.int v]) :=
  W.zret (v := v) (ty := .boolean) hx hb hr (by rcases hn with rfl | rfl <;> rfl) (fun t ht hW => ⟨⟨v, (), rfl, hp, trivial⟩, hS.F ht⟩) hS.2.2 hdg hlocks
theorem mk_miret {S : Type} {post : Int32 → S → Prop} {wo : S → va_W} (u : S) {v : Int32} (hx : p.tables.exec = Jvm.exec) (hb : c.code = cc) (hr : meth.sig.returnType = some .int) (hlocks : meth.locks = false) (hP : va_P D cl (wo u) H) (hK : va_K D cl tys s) (hD : va_D A (wo u)) (hS : va_S A s.heap H locs) (hdg : decode cc pc = .ok (.ireturn, 1)) (hp : post v u) :
    W p l e R s m args below meth c H locs cells slots (MQ below (mk_muQ post wo D cl tys A) args s cells slots A) (F0 m pc ls [.int v]) :=
  W.iret (v := v) hx hb hr (fun t ht hW => ⟨⟨v, u, rfl, hp, by rw [ht]; exact hP, va_K.moved hW.alike hK, hD⟩, hS.F ht⟩) hS.2.2 hdg hlocks
theorem mk_mzret {S : Type} {post : Int32 → S → Prop} {wo : S → va_W} (u : S) {v : Int32} (hx : p.tables.exec = Jvm.exec) (hb : c.code = cc) (hr : meth.sig.returnType = some .boolean) (hlocks : meth.locks = false) (hP : va_P D cl (wo u) H) (hK : va_K D cl tys s) (hD : va_D A (wo u)) (hS : va_S A s.heap H locs) (hdg : decode cc pc = .ok (.ireturn, 1)) (hn : v = 0 ∨ v = 1) (hp : post v u) :
    W p l e R s m args below meth c H locs cells slots (MQ below (mk_muQ post wo D cl tys A) args s cells slots A) (F0 m pc ls [.int v]) :=
  W.zret (v := v) (ty := .boolean) hx hb hr (by rcases hn with rfl | rfl <;> rfl) (fun t ht hW => ⟨⟨v, u, rfl, hp, by rw [ht]; exact hP, va_K.moved hW.alike hK, hD⟩, hS.F ht⟩) hS.2.2 hdg hlocks
theorem mk_mvret {S : Type} {post : S → Prop} {wo : S → va_W} (u : S) (hx : p.tables.exec = Jvm.exec) (hb : c.code = cc) (hr : meth.sig.returnType = none) (hlocks : meth.locks = false) (hP : va_P D cl (wo u) H) (hK : va_K D cl tys s) (hD : va_D A (wo u)) (hS : va_S A s.heap H locs) (hdg : decode cc pc = .ok (.return_, 1)) (hp : post u) :
    W p l e R s m args below meth c H locs cells slots (MQ below (mk_muV post wo D cl tys A) args s cells slots A) (F0 m pc ls []) :=
  W.vret hx hb hr (fun t ht hW => ⟨⟨u, rfl, hp, by rw [ht]; exact hP, va_K.moved hW.alike hK, hD⟩, hS.F ht⟩) hS.2.2 hdg hlocks
end MK
section MK2
variable {p : Program} {l : Launch} {e : Env} {R : Room} {s : State} {m : MethodId} {args : Array Value} {below : List Frame} {meth : Method} {c : Code} {cells slots : Nat} {Q : State → Prop} {g : JFrame} {A : Nat → Prop} {D : va_G} {cl : List vw_C} {ws : va_W}
theorem mk_start (hP : va_P D cl ws s.heap) (k : ∀ (H : Heap) (locs : List Loc), va_P D cl ws H → va_S A s.heap H locs → W p l e R s m args below meth c H locs cells slots Q g) : W p l e R s m args below meth c s.heap [] cells slots Q g := k s.heap [] hP va_S.rf
/-- a loop: n turns are left -/
theorem mk_loop {σ : Type} (I : Nat → σ → Heap → List Loc → Array Slot → Prop) (fr : Array Slot → JFrame)
    (step : ∀ n x H locs ls, I (n + 1) x H locs ls → (∀ x' H' locs' ls', I n x' H' locs' ls' → W p l e R s m args below meth c H' locs' cells slots Q (fr ls')) → W p l e R s m args below meth c H locs cells slots Q (fr ls))
    (base : ∀ x H locs ls, I 0 x H locs ls → W p l e R s m args below meth c H locs cells slots Q (fr ls)) :
    ∀ n x H locs ls, I n x H locs ls → W p l e R s m args below meth c H locs cells slots Q (fr ls) := by
  intro n
  induction n with
  | zero => exact base
  | succ n ih => exact fun x H locs ls h => step n x H locs ls h ih
end MK2
section MK3
variable {p : Program} {l : Launch} {e : Env} {R : Room} {s : State} {m : MethodId} {args : Array Value} {below : List Frame} {meth : Method} {c : Code} {cells slots : Nat} {Q : State → Prop}
/-- what comes behind a place is proved first -/
theorem mk_after {σ : Type} (I : σ → Heap → List Loc → Array Slot → Prop) (fr : Array Slot → JFrame) (J : ∀ x H locs ls, I x H locs ls → W p l e R s m args below meth c H locs cells slots Q (fr ls)) {H : Heap} {locs : List Loc} {g : JFrame}
    (k : (∀ x H locs ls, I x H locs ls → W p l e R s m args below meth c H locs cells slots Q (fr ls)) → W p l e R s m args below meth c H locs cells slots Q g) : W p l e R s m args below meth c H locs cells slots Q g := k J
end MK3
theorem mk_inc (k : Nat) : nI k + Int32.ofInt 1 = nI (k + 1) := nI_1 k
theorem mk_m1 : Int32.ofInt (-1) = (-1 : Int32) := by decide
theorem mk_dec (k : Nat) : nI (k + 1) + Int32.ofInt (-1) = nI k := by rw [mk_m1]; exact pk_m1 k
theorem mk_dec2 (k : Nat) : nI (k + 1) - 1 + Int32.ofInt (-1) = nI k - 1 := by rw [nI_pred, mk_m1, Int32.sub_eq_add_neg]
section MK4
variable {D : va_G} {cl : List vw_C} {args : Array Value} {s : State}
/-- the int arrays' class is one -/
theorem mk_cA {cA cB : ClassId} (h : va_K D cl [(cA, .int), (cB, .int)] s) : cA = cB := Option.some.inj ((h.2 0 _ rfl).2.symm.trans (h.2 1 _ rfl).2)
theorem mk_cA_of (h : (Cond.arrayClass .int).before args s = true) (hK : va_K D cl [] s) : ∃ cA, va_K D cl [(cA, .int)] s := by
  obtain ⟨cA, kA, comp, h1, h2, h3⟩ := Cond.arrayClass_spec h
  refine ⟨cA, hK.1, fun k q hk => ?_⟩
  have hz : k < 1 := (List.getElem?_eq_some_iff.mp hk).1
  rw [show k = 0 by omega] at hk
  cases hk
  exact ⟨fun n z => ⟨fun k h => (by cases h), kA, h2, comp, h3⟩, h1⟩
end MK4
theorem mk_mx1 {w : Nat} (h : 1 ≤ w) (hw : w < 2 ^ 31) : (if (1 : Int32) < nI w then nI w else 1) = nI w := by
  by_cases q : 1 < w
  · exact if_pos (nI_lt q hw)
  · obtain rfl : w = 1 := by omega
    exact if_neg (by decide)
theorem mk_mx0 {w : Nat} (hw : w < 2 ^ 31) : (if (0 : Int32) < nI w then nI w else 0) = nI w := by
  by_cases q : 0 < w
  · exact if_pos (nI_lt q hw)
  · obtain rfl : w = 0 := by omega
    exact if_neg (by decide)
end
section
/-! sheets: lines of numbers in one array -/
def sh_ok (w : Nat) (f : Nat → Int32) (L : List (Nat → Int32)) : Prop := ∀ (i : Nat) (r : Nat → Int32), L[i]? = some r → ∀ j, j < w → f (i * w + j) = r j
theorem sh_nat {x : Int32} {n : Nat} (hn : n < 2 ^ 31) (h0 : ¬ x < 0) (h1 : ¬ nI n ≤ x) : ∃ j, j < n ∧ x = nI j := by
  rcases pk_ix x hn with h | h | h
  · exact absurd h h0
  · exact absurd h h1
  · exact h
theorem sh_nle {x y : Int32} (h : x < y) : ¬ y ≤ x := by
  rw [Int32.lt_iff_toInt_lt] at h
  rw [Int32.le_iff_toInt_le]
  omega
theorem sh_lt_of {x y : Int32} (h : ¬ y ≤ x) : x < y := by
  rw [Int32.le_iff_toInt_le] at h
  rw [Int32.lt_iff_toInt_lt]
  omega
theorem sh_le_of {x y : Int32} (h : ¬ y < x) : x ≤ y := by
  rw [Int32.lt_iff_toInt_lt] at h
  rw [Int32.le_iff_toInt_le]
  omega
theorem sh_nlt {x y : Int32} (h : x ≤ y) : ¬ y < x := by
  rw [Int32.le_iff_toInt_le] at h
  rw [Int32.lt_iff_toInt_lt]
  omega
theorem sh_nat_le {x : Int32} {n : Nat} (hn : n < 2 ^ 30) (h0 : ¬ x < 0) (h1 : ¬ nI n < x) : ∃ j, j ≤ n ∧ x = nI j := by
  obtain ⟨j, hj, e⟩ := nI_of h0
  refine ⟨j, ?_, e⟩
  rcases Nat.lt_or_ge n j with q | q
  · exact absurd (by rw [e]; exact nI_lt q hj) h1
  · exact q
theorem sh_ix {i j w lim len : Nat} (hi : i < len) (hl : len ≤ lim) (hj : j < w) : i * w + j < w * lim := by
  have h := Nat.mul_le_mul_right w (show i + 1 ≤ lim by omega)
  rw [Nat.add_mul, Nat.one_mul] at h
  rw [Nat.mul_comm w lim]
  omega
theorem sh_step {w a b : Nat} (h : a < b) : a * w + w ≤ b * w := by
  have h := Nat.mul_le_mul_right w (show a + 1 ≤ b from h)
  rwa [Nat.add_mul, Nat.one_mul] at h
theorem sh_inj {w i j i' j' : Nat} (hj : j < w) (hj' : j' < w) (h : i * w + j = i' * w + j') : i = i' ∧ j = j' := by
  rcases Nat.lt_trichotomy i i' with q | q | q
  · have := sh_step (w := w) q; omega
  · subst q; exact ⟨rfl, by omega⟩
  · have := sh_step (w := w) q; omega
theorem sh_ok_set {w i j : Nat} {f r : Nat → Int32} {L : List (Nat → Int32)} {v : Int32} (h : sh_ok w f L) (hr : L[i]? = some r) (hj : j < w) : sh_ok w (upd f (i * w + j) v) (L.set i (upd r j v)) := by
  intro i' r' hr' j' hj'
  rw [List.getElem?_set] at hr'
  by_cases e : i = i'
  · subst e
    have hlt : i < L.length := (List.getElem?_eq_some_iff.mp hr).1
    rw [if_pos rfl, if_pos hlt] at hr'
    obtain rfl := Option.some.inj hr'
    by_cases e2 : j' = j
    · subst e2; rw [pk_us, pk_us]
    · rw [pk_un (show i * w + j' ≠ i * w + j by omega), pk_un e2]; exact h i r hr j' hj'
  · rw [if_neg e] at hr'
    rw [pk_un (fun q => e (sh_inj hj' hj q).1.symm)]
    exact h i' r' hr' j' hj'
theorem ls_ins {α : Type} {L : List α} {i : Nat} {x : α} (hi : i ≤ L.length) (k : Nat) : (L.take i ++ x :: L.drop i)[k]? = if k < i then L[k]? else if k = i then some x else L[k - 1]? := by
  rw [List.getElem?_append, List.length_take, Nat.min_eq_left hi]
  by_cases h1 : k < i
  · rw [if_pos h1, if_pos h1, List.getElem?_take, if_pos h1]
  · rw [if_neg h1, if_neg h1]
    by_cases h2 : k = i
    · subst h2; rw [if_pos rfl, Nat.sub_self]; rfl
    · rw [if_neg h2, show k - i = (k - i - 1) + 1 by omega, List.getElem?_cons_succ, List.getElem?_drop, show i + (k - i - 1) = k - 1 by omega]
theorem sh_ok_open {w i : Nat} {f : Nat → Int32} {L : List (Nat → Int32)} (h : sh_ok w f L) (hi : i ≤ L.length) : sh_ok w (va_cpy f f (i * w) (i * w + w) ((L.length - i) * w)) (L.take i ++ (fun j => f (i * w + j)) :: L.drop i) := by
  intro i' r' hr' j' hj'
  rw [ls_ins hi] at hr'
  by_cases h1 : i' < i
  · rw [if_pos h1] at hr'
    have := sh_step (w := w) h1
    rw [pk_cpy_out (Or.inl (by omega))]
    exact h i' r' hr' j' hj'
  · rw [if_neg h1] at hr'
    by_cases h2 : i' = i
    · subst h2
      rw [if_pos rfl] at hr'
      obtain rfl := Option.some.inj hr'
      rw [pk_cpy_out (Or.inl (by omega))]
    · rw [if_neg h2] at hr'
      have hl : i' - 1 < L.length := (List.getElem?_eq_some_iff.mp hr').1
      have e1 : i' * w = (i' - 1) * w + w := by
        have : i' = (i' - 1) + 1 := by omega
        rw [show i' * w = ((i' - 1) + 1) * w by rw [← this], Nat.add_mul, Nat.one_mul]
      have e2 : (L.length - i) * w = L.length * w - i * w := Nat.sub_mul _ _ _
      have e3 : i * w ≤ (i' - 1) * w := Nat.mul_le_mul_right w (by omega)
      have e4 : (i' - 1) * w + w ≤ L.length * w := sh_step hl
      rw [pk_cpy_in (by omega) (by omega), show i * w + (i' * w + j' - (i * w + w)) = (i' - 1) * w + j' by omega]
      exact h (i' - 1) r' hr' j' hj'
theorem sh_ok_drop {w i : Nat} {f : Nat → Int32} {L : List (Nat → Int32)} (h : sh_ok w f L) (hi : i < L.length) : sh_ok w (va_cpy f f ((i + 1) * w) (i * w) (L.length * w - (i + 1) * w)) (L.eraseIdx i) := by
  intro i' r' hr' j' hj'
  rw [List.getElem?_eraseIdx] at hr'
  have e1 : (i + 1) * w = i * w + w := by rw [Nat.add_mul, Nat.one_mul]
  by_cases h1 : i' < i
  · rw [if_pos h1] at hr'
    have := sh_step (w := w) h1
    rw [pk_cpy_out (Or.inl (by omega))]
    exact h i' r' hr' j' hj'
  · rw [if_neg h1] at hr'
    have hl : i' + 1 < L.length := (List.getElem?_eq_some_iff.mp hr').1
    have e2 : (i' + 1) * w = i' * w + w := by rw [Nat.add_mul, Nat.one_mul]
    have e3 : i * w ≤ i' * w := Nat.mul_le_mul_right w (by omega)
    have e4 : (i' + 1) * w + w ≤ L.length * w := sh_step hl
    rw [pk_cpy_in (by omega) (by omega), show (i + 1) * w + (i' * w + j' - i * w) = (i' + 1) * w + j' by omega]
    exact h (i' + 1) r' hr' j' hj'
/-- what get answers -/
def sh_get (w : Nat) (L : List (Nat → Int32)) (i j : Int32) : Int32 := if i < 0 ∨ nI L.length ≤ i ∨ j < 0 ∨ nI w ≤ j then -2 else (L.getD i.toNatClampNeg (fun _ => 0)) j.toNatClampNeg
/-- what set leaves -/
def sh_set (w : Nat) (L : List (Nat → Int32)) (i j v : Int32) : List (Nat → Int32) := if i < 0 ∨ nI L.length ≤ i ∨ j < 0 ∨ nI w ≤ j then L else L.set i.toNatClampNeg (upd (L.getD i.toNatClampNeg (fun _ => 0)) j.toNatClampNeg v)
theorem sh_get_out {w : Nat} {L : List (Nat → Int32)} {i j : Int32} (h : i < 0 ∨ nI L.length ≤ i ∨ j < 0 ∨ nI w ≤ j) : sh_get w L i j = -2 := by
  unfold sh_get
  rw [if_pos h]
theorem sh_in {w k i j : Nat} (hk : k < 2 ^ 31) (hw : w < 2 ^ 31) (hi : i < k) (hj : j < w) : ¬ (nI i < 0 ∨ nI k ≤ nI i ∨ nI j < 0 ∨ nI w ≤ nI j) := by
  intro h
  rcases h with h | h | h | h
  · exact nI_pos (by omega) h
  · exact nI_ge hi hk h
  · exact nI_pos (by omega) h
  · exact nI_ge hj hw h
theorem sh_get_in {w i j : Nat} {L : List (Nat → Int32)} {r : Nat → Int32} (hk : L.length < 2 ^ 31) (hw : w < 2 ^ 31) (hr : L[i]? = some r) (hj : j < w) : sh_get w L (nI i) (nI j) = r j := by
  have hi : i < L.length := (List.getElem?_eq_some_iff.mp hr).1
  unfold sh_get
  rw [if_neg (sh_in hk hw hi hj), nI_clamp (by omega), nI_clamp (by omega), List.getD_eq_getElem?_getD, hr]
  rfl
theorem sh_get_ok {w i j : Nat} {f : Nat → Int32} {L : List (Nat → Int32)} (h : sh_ok w f L) (hk : L.length < 2 ^ 31) (hw : w < 2 ^ 31) (hi : i < L.length) (hj : j < w) : f (i * w + j) = sh_get w L (nI i) (nI j) := by
  have hr : L[i]? = some L[i] := List.getElem?_eq_getElem hi
  rw [sh_get_in hk hw hr hj, h i _ hr j hj]
theorem sh_set_out {w : Nat} {L : List (Nat → Int32)} {i j v : Int32} (h : i < 0 ∨ nI L.length ≤ i ∨ j < 0 ∨ nI w ≤ j) : sh_set w L i j v = L := by
  unfold sh_set
  rw [if_pos h]
theorem sh_set_in {w i j : Nat} {L : List (Nat → Int32)} {r : Nat → Int32} {v : Int32} (hk : L.length < 2 ^ 31) (hw : w < 2 ^ 31) (hr : L[i]? = some r) (hj : j < w) : sh_set w L (nI i) (nI j) v = L.set i (upd r j v) := by
  have hi : i < L.length := (List.getElem?_eq_some_iff.mp hr).1
  unfold sh_set
  rw [if_neg (sh_in hk hw hi hj), nI_clamp (by omega), nI_clamp (by omega), List.getD_eq_getElem?_getD, hr]
  rfl
theorem sh_set_ok {w i j : Nat} {f : Nat → Int32} {L : List (Nat → Int32)} {v : Int32} (h : sh_ok w f L) (hk : L.length < 2 ^ 31) (hw : w < 2 ^ 31) (hi : i < L.length) (hj : j < w) : sh_ok w (upd f (i * w + j) v) (sh_set w L (nI i) (nI j) v) := by
  have hr : L[i]? = some L[i] := List.getElem?_eq_getElem hi
  rw [sh_set_in hk hw hr hj]
  exact sh_ok_set h hr hj
theorem sh_set_length {w : Nat} {L : List (Nat → Int32)} {i j v : Int32} : (sh_set w L i j v).length = L.length := by
  unfold sh_set
  split
  · rfl
  · rw [List.length_set]
theorem ls_ins_len {α : Type} {L : List α} {i : Nat} {x : α} (hi : i ≤ L.length) : (L.take i ++ x :: L.drop i).length = L.length + 1 := by
  rw [List.length_append, List.length_cons, List.length_take, List.length_drop]
  omega
def sh_wf (w lim : Nat) (f : Nat → Int32) (L : List (Nat → Int32)) : Prop := sh_ok w f L ∧ L.length ≤ lim ∧ w * lim < 2 ^ 20 ∧ w < 2 ^ 20 ∧ lim < 2 ^ 20
end
section
/-! versions: lines in order of place (column 2), then from (column 0) -/
theorem ls_ins_at {α : Type} {L : List α} {i : Nat} {x : α} (hi : i ≤ L.length) : (L.take i ++ x :: L.drop i)[i]? = some x := by
  rw [ls_ins hi, if_neg (Nat.lt_irrefl i), if_pos rfl]
theorem ls_ins_set {α : Type} {L : List α} {i : Nat} {x y : α} (hi : i ≤ L.length) : (L.take i ++ x :: L.drop i).set i y = L.take i ++ y :: L.drop i := by
  apply List.ext_getElem?
  intro k
  rw [List.getElem?_set, ls_ins hi, ls_ins hi, ls_ins_len hi]
  by_cases h : i = k
  · subst h
    rw [if_pos rfl, if_pos (by omega), if_neg (Nat.lt_irrefl i), if_pos rfl]
  · rw [if_neg h]
    by_cases h2 : k < i
    · rw [if_pos h2, if_pos h2]
    · rw [if_neg h2, if_neg h2, if_neg (fun q => h q.symm), if_neg (fun q => h q.symm)]
/-- not behind (place, from) -/
def vs_nb (pl fr : Int32) (r : Nat → Int32) : Prop := r 2 < pl ∨ (r 2 = pl ∧ r 0 ≤ fr)
/-- k lines are not behind, and they are the first ones -/
def vs_cut (L : List (Nat → Int32)) (pl fr : Int32) (k : Nat) : Prop := k ≤ L.length ∧ ∀ (i : Nat) (r : Nat → Int32), L[i]? = some r → (i < k ↔ vs_nb pl fr r)
def vs_st : Nat → Nat
  | 0 => 0
  | e + 1 => 2 ^ e
theorem vs_half (n : Nat) (h : n ≤ 8) : nI (vs_st (n + 1)) / 2 = nI (vs_st n) := by
  have hp : 2 ^ n ≤ 2 ^ 8 := Nat.pow_le_pow_right (by decide) h
  show nI (2 ^ n) / nI 2 = _
  rw [pk_div (by omega) (by decide) (by decide)]
  congr 1
  cases n with
  | zero => rfl
  | succ n => show 2 ^ (n + 1) / 2 = 2 ^ n; rw [Nat.pow_succ]; omega
theorem vs_o {L : List (Nat → Int32)} {t j : Nat} {o : Int32} (hk : L.length < 2 ^ 30) (ho : o = sh_get 3 L (nI t) (nI j)) (hj : j < 3) {r0 : Nat → Int32} (h0 : L[t]? = some r0) : o = r0 j := ho.trans (sh_get_in (by omega) (by decide) h0 hj)
theorem vs_b1 {L : List (Nat → Int32)} {pl fr o : Int32} {t : Nat} (ho : o = sh_get 3 L (nI t) 2) (hk : L.length < 2 ^ 30) (h : pl < o) : ((1 : Int32) = 0 ∨ (1 : Int32) = 1) ∧ ∀ r0, L[t]? = some r0 → ((1 : Int32) = 0 ↔ vs_nb pl fr r0) := by
  refine ⟨Or.inr rfl, fun r0 h0 => ⟨fun q => absurd q (by decide), fun q => ?_⟩⟩
  have e := vs_o (j := 2) hk ho (by decide) h0
  rw [e, Int32.lt_iff_toInt_lt] at h
  rcases q with q | ⟨q, -⟩
  · rw [Int32.lt_iff_toInt_lt] at q; omega
  · rw [q] at h; omega
theorem vs_b2 {L : List (Nat → Int32)} {pl fr o : Int32} {t : Nat} (ho : o = sh_get 3 L (nI t) 2) (hk : L.length < 2 ^ 30) (h : ¬ pl < o) (h2 : ¬ o = pl) : ((0 : Int32) = 0 ∨ (0 : Int32) = 1) ∧ ∀ r0, L[t]? = some r0 → ((0 : Int32) = 0 ↔ vs_nb pl fr r0) := by
  refine ⟨Or.inl rfl, fun r0 h0 => ⟨fun _ => Or.inl ?_, fun _ => rfl⟩⟩
  have e := vs_o (j := 2) hk ho (by decide) h0
  rw [e] at h h2
  rw [Int32.lt_iff_toInt_lt] at h ⊢
  have h3 : ¬ (r0 2).toInt = pl.toInt := fun q => h2 (Int32.toInt_inj.mp q)
  omega
theorem vs_b3 {L : List (Nat → Int32)} {pl fr o o2 : Int32} {t : Nat} (ho : o = sh_get 3 L (nI t) 2) (ho2 : o2 = sh_get 3 L (nI t) 0) (hk : L.length < 2 ^ 30) (h : o = pl) (h2 : o2 ≤ fr) : ((0 : Int32) = 0 ∨ (0 : Int32) = 1) ∧ ∀ r0, L[t]? = some r0 → ((0 : Int32) = 0 ↔ vs_nb pl fr r0) := by
  refine ⟨Or.inl rfl, fun r0 h0 => ⟨fun _ => Or.inr ⟨?_, ?_⟩, fun _ => rfl⟩⟩
  · rw [← vs_o (j := 2) hk ho (by decide) h0, h]
  · rw [← vs_o (j := 0) hk ho2 (by decide) h0]; exact h2
theorem vs_b4 {L : List (Nat → Int32)} {pl fr o o2 : Int32} {t : Nat} (ho : o = sh_get 3 L (nI t) 2) (ho2 : o2 = sh_get 3 L (nI t) 0) (hk : L.length < 2 ^ 30) (h : o = pl) (h2 : ¬ o2 ≤ fr) : ((1 : Int32) = 0 ∨ (1 : Int32) = 1) ∧ ∀ r0, L[t]? = some r0 → ((1 : Int32) = 0 ↔ vs_nb pl fr r0) := by
  refine ⟨Or.inr rfl, fun r0 h0 => ⟨fun q => absurd q (by decide), fun q => ?_⟩⟩
  have e := vs_o (j := 2) hk ho (by decide) h0
  have e2 := vs_o (j := 0) hk ho2 (by decide) h0
  rcases q with q | ⟨-, q⟩
  · rw [← e, h, Int32.lt_iff_toInt_lt] at q; omega
  · rw [← e2] at q; exact absurd q h2
theorem vs_at {L : List (Nat → Int32)} {k j : Nat} {o : Int32} {r0 : Nat → Int32} (hk : L.length < 2 ^ 30) (h0 : 0 < k) (hr : L[k - 1]? = some r0) (hj : j < 3) (ho : o = sh_get 3 L (nI k - 1) (nI j)) : o = r0 j := by
  rw [ho, show nI k - 1 = nI (k - 1) from pk_sub (b := 1) h0]
  exact sh_get_in (by omega) (by decide) hr hj
theorem vs_zero {L : List (Nat → Int32)} {j : Int32} {o : Int32} (ho : o = sh_get 3 L (nI 0 - 1) j) : o = -2 := by
  rw [ho]
  exact sh_get_out (Or.inl (by decide))
/-- lineAsOf's answer -/
def vs_asof (L : List (Nat → Int32)) (pl : Int32) (k : Nat) (r : Int32) : Prop := (∃ r0, 0 < k ∧ L[k - 1]? = some r0 ∧ r0 2 = pl ∧ ¬ r0 1 = -1 ∧ r = nI (k - 1)) ∨ ((∀ r0, 0 < k → L[k - 1]? = some r0 → r0 2 = pl → r0 1 = -1) ∧ r = -1)
theorem vs_a1 {L : List (Nat → Int32)} {pl o : Int32} {k : Nat} (hk : L.length < 2 ^ 30) (ho : o = sh_get 3 L (nI k - 1) 2) (h : ¬ o = pl) : vs_asof L pl k (-1) :=
  Or.inr ⟨fun _ h0 hr e => absurd ((vs_at (j := 2) hk h0 hr (by decide) ho).trans e) h, rfl⟩
theorem vs_a2 {L : List (Nat → Int32)} {pl o2 : Int32} {k : Nat} (hk : L.length < 2 ^ 30) (ho2 : o2 = sh_get 3 L (nI k - 1) 1) (h2 : o2 = -1) : vs_asof L pl k (-1) :=
  Or.inr ⟨fun _ h0 hr _ => (vs_at (j := 1) hk h0 hr (by decide) ho2).symm.trans h2, rfl⟩
theorem vs_some {L : List (Nat → Int32)} {pl o : Int32} {k : Nat} (hk : L.length < 2 ^ 30) (hkl : k ≤ L.length) (hpl : ¬ pl = -2) (ho : o = sh_get 3 L (nI k - 1) 2) (h : o = pl) : ∃ r0, 0 < k ∧ L[k - 1]? = some r0 ∧ r0 2 = pl := by
  have h0 : 0 < k := by
    rcases Nat.eq_zero_or_pos k with q | q
    · subst q; exact absurd (h.symm.trans (vs_zero ho)) hpl
    · exact q
  have hr : L[k - 1]? = some (L[k - 1]'(by omega)) := List.getElem?_eq_getElem (by omega)
  exact ⟨_, h0, hr, (vs_at (j := 2) hk h0 hr (by decide) ho).symm.trans h⟩
theorem vs_a3 {L : List (Nat → Int32)} {pl o o2 : Int32} {k : Nat} (hk : L.length < 2 ^ 30) (hkl : k ≤ L.length) (hpl : ¬ pl = -2) (ho : o = sh_get 3 L (nI k - 1) 2) (ho2 : o2 = sh_get 3 L (nI k - 1) 1) (h : o = pl) (h2 : ¬ o2 = -1) : vs_asof L pl k (nI k - 1) := by
  obtain ⟨r0, h0, hr, e⟩ := vs_some hk hkl hpl ho h
  exact Or.inl ⟨r0, h0, hr, e, fun q => h2 ((vs_at (j := 1) hk h0 hr (by decide) ho2).trans q), pk_sub (b := 1) h0⟩
theorem vs_p1 {L : List (Nat → Int32)} {pl fr o o2 : Int32} {k : Nat} (hk : L.length < 2 ^ 30) (hkl : k ≤ L.length) (hpl : ¬ pl = -2) (ho : o = sh_get 3 L (nI k - 1) 2) (ho2 : o2 = sh_get 3 L (nI k - 1) 0) (h : o = pl) (h2 : o2 = fr) : ∃ r0, 0 < k ∧ L[k - 1]? = some r0 ∧ r0 2 = pl ∧ r0 0 = fr := by
  obtain ⟨r0, h0, hr, e⟩ := vs_some hk hkl hpl ho h
  exact ⟨r0, h0, hr, e, (vs_at (j := 0) hk h0 hr (by decide) ho2).symm.trans h2⟩
theorem vs_p2 {L : List (Nat → Int32)} {pl fr o : Int32} {k : Nat} (hk : L.length < 2 ^ 30) (ho : o = sh_get 3 L (nI k - 1) 2) (h : ¬ o = pl) : ∀ r0, 0 < k → L[k - 1]? = some r0 → ¬ (r0 2 = pl ∧ r0 0 = fr) :=
  fun _ h0 hr e => h ((vs_at (j := 2) hk h0 hr (by decide) ho).trans e.1)
theorem vs_p3 {L : List (Nat → Int32)} {pl fr o2 : Int32} {k : Nat} (hk : L.length < 2 ^ 30) (ho2 : o2 = sh_get 3 L (nI k - 1) 0) (h : ¬ o2 = fr) : ∀ r0, 0 < k → L[k - 1]? = some r0 → ¬ (r0 2 = pl ∧ r0 0 = fr) :=
  fun _ h0 hr e => h ((vs_at (j := 0) hk h0 hr (by decide) ho2).trans e.2)
/-- what put leaves -/
def vs_put (L : List (Nat → Int32)) (pl fr vl : Int32) (k : Nat) (L' : List (Nat → Int32)) : Prop :=
  (∃ r0, 0 < k ∧ L[k - 1]? = some r0 ∧ r0 2 = pl ∧ r0 0 = fr ∧ L' = L.set (k - 1) (upd r0 1 vl)) ∨
  ((∀ r0, 0 < k → L[k - 1]? = some r0 → ¬ (r0 2 = pl ∧ r0 0 = fr)) ∧ ∃ r1 : Nat → Int32, r1 0 = fr ∧ r1 1 = vl ∧ r1 2 = pl ∧ L' = L.take k ++ r1 :: L.drop k)
end
section
/-! rows and outs -/
/-- the place of a new row: behind all that are not later -/
def rs_pos (L : List (Nat → Int32)) (tm : Int32) (k : Nat) : Prop := k ≤ L.length ∧ (∀ i r, k ≤ i → L[i]? = some r → tm < r 2) ∧ (∀ r, 0 < k → L[k - 1]? = some r → ¬ tm < r 2)
def rs_add (L : List (Nat → Int32)) (nu ky tm vl : Int32) (L' : List (Nat → Int32)) : Prop :=
  ∃ (k : Nat) (r1 : Nat → Int32), rs_pos L tm k ∧ r1 0 = nu ∧ r1 1 = ky ∧ r1 2 = tm ∧ r1 3 = vl ∧ r1 4 = 1 ∧ r1 5 = 0 ∧ L' = L.take k ++ r1 :: L.drop k
theorem rs_s1 {L : List (Nat → Int32)} {tm r : Int32} {n : Nat} (hk : L.length < 2 ^ 30) (hr : r = sh_get 12 L (nI n) 2) (hq : tm < r) (hin : ∀ i r, n + 1 ≤ i → L[i]? = some r → tm < r 2) : ∀ i r, n ≤ i → L[i]? = some r → tm < r 2 := by
  intro i r' h1 h2
  rcases Nat.lt_or_ge n i with q | q
  · exact hin i r' q h2
  · obtain rfl : i = n := by omega
    rw [← show r = r' 2 from hr.trans (sh_get_in (j := 2) (by omega) (by decide) h2 (by decide))]
    exact hq
theorem rs_s2 {L : List (Nat → Int32)} {tm r : Int32} {n : Nat} (hk : L.length < 2 ^ 30) (hr : r = sh_get 12 L (nI n) 2) (hq : r ≤ tm) : ∀ r', 0 < n + 1 → L[n + 1 - 1]? = some r' → ¬ tm < r' 2 := by
  intro r' _ h2
  rw [← show r = r' 2 from hr.trans (sh_get_in (j := 2) (by omega) (by decide) h2 (by decide))]
  exact sh_nlt hq
/-- a row with its JOIN up to column c, WAITS 0, GIVEN g -/
def rs_jn (r0 : Nat → Int32) (g : Int32) (jo : Nat → Int32) (c : Nat) : Nat → Int32 := fun j => if j = 4 then 0 else if j = 5 then g else if 6 ≤ j ∧ j < 6 + c then jo (j - 6) else r0 j
theorem rs_j0 {r0 jo : Nat → Int32} {g : Int32} : upd (upd r0 4 0) 5 g = rs_jn r0 g jo 0 := by
  funext j
  unfold upd rs_jn
  by_cases h5 : j = 5
  · subst h5; rfl
  · by_cases h4 : j = 4
    · subst h4; rfl
    · rw [if_neg h5, if_neg h4, if_neg h4, if_neg h5, if_neg (by omega)]
theorem rs_js {r0 jo : Nat → Int32} {g : Int32} {a : Nat} : upd (rs_jn r0 g jo a) (6 + a) (jo a) = rs_jn r0 g jo (a + 1) := by
  funext j
  unfold upd rs_jn
  by_cases h : j = 6 + a
  · subst h
    rw [if_pos rfl, if_neg (by omega), if_neg (by omega), if_pos (by omega), show 6 + a - 6 = a by omega]
  · rw [if_neg h]
    by_cases h4 : j = 4
    · rw [if_pos h4, if_pos h4]
    · rw [if_neg h4, if_neg h4]
      by_cases h5 : j = 5
      · rw [if_pos h5, if_pos h5]
      · rw [if_neg h5, if_neg h5]
        by_cases h6 : 6 ≤ j ∧ j < 6 + a
        · rw [if_pos h6, if_pos (by omega)]
        · rw [if_neg h6, if_neg (by omega)]
theorem rs_set_at {α : Type} {L : List α} {i : Nat} {x y : α} (h : L[i]? = some x) : (L.set i y)[i]? = some y := by
  have hi : i < L.length := (List.getElem?_eq_some_iff.mp h).1
  rw [List.getElem?_set, if_pos rfl, if_pos hi]
def rs_wt (L : List (Nat → Int32)) : Int32 := L.foldl (fun s r => s + r 4) 0
theorem rs_wt_s {L : List (Nat → Int32)} {a : Nat} (h : a < L.length) : rs_wt (L.take a) + (L[a]'h) 4 = rs_wt (L.take (a + 1)) := by
  unfold rs_wt
  rw [List.take_succ_eq_append_getElem h, List.foldl_append]
  rfl
def rs_any (ky fi la : Int32) (r : Nat → Int32) : Prop := r 4 = 1 ∧ r 1 = ky ∧ fi ≤ r 2 ∧ r 2 ≤ la
theorem rs_n1 {P : Prop} [Decidable P] (h : (if P then (1 : Int32) else 0) = 0) : ¬ P := fun q => by rw [if_pos q] at h; exact absurd h (by decide)
theorem rs_n2 {P : Prop} [Decidable P] (h : ¬ (if P then (1 : Int32) else 0) = 0) : P := by
  by_cases q : P
  · exact q
  · exact absurd (if_neg q) h
/-- a row that stays behind horizon hz: one that waits, or that is later -/
def rs_keep (hz : Int32) (r : Nat → Int32) : Bool := decide (r 4 = 1) || decide (hz < r 2)
theorem rs_kf {hz : Int32} {r : Nat → Int32} (h1 : ¬ r 4 = 1) (h2 : r 2 ≤ hz) : rs_keep hz r = false := by
  unfold rs_keep
  rw [decide_eq_false h1, decide_eq_false (sh_nlt h2)]
  rfl
theorem rs_kt1 {hz : Int32} {r : Nat → Int32} (h1 : r 4 = 1) : rs_keep hz r = true := by
  unfold rs_keep
  rw [decide_eq_true h1]
  rfl
theorem rs_kt2 {hz : Int32} {r : Nat → Int32} (h1 : hz < r 2) : rs_keep hz r = true := by
  unfold rs_keep
  rw [decide_eq_true h1, Bool.or_true]
theorem rs_dj0 {L : List (Nat → Int32)} {p : (Nat → Int32) → Bool} : L.take L.length ++ (L.drop L.length).filter p = L := by
  rw [List.take_length, List.drop_length, List.filter_nil, List.append_nil]
theorem rs_dj9 {L : List (Nat → Int32)} {p : (Nat → Int32) → Bool} : L.take 0 ++ (L.drop 0).filter p = L.filter p := by
  rw [List.take_zero, List.drop_zero, List.nil_append]
theorem rs_dj2 {L : List (Nat → Int32)} {p : (Nat → Int32) → Bool} {n : Nat} (h : n < L.length) (hk : p (L[n]'h) = true) : L.take (n + 1) ++ (L.drop (n + 1)).filter p = L.take n ++ (L.drop n).filter p := by
  rw [List.take_succ_eq_append_getElem h, List.drop_eq_getElem_cons h, List.filter_cons, if_pos hk, List.append_assoc]
  rfl
theorem rs_dj1 {L : List (Nat → Int32)} {p : (Nat → Int32) → Bool} {n : Nat} (h : n < L.length) (hk : p (L[n]'h) = false) : (L.take (n + 1) ++ (L.drop (n + 1)).filter p).eraseIdx n = L.take n ++ (L.drop n).filter p := by
  rw [List.take_succ_eq_append_getElem h, List.append_assoc, List.eraseIdx_append_of_length_le (by rw [List.length_take]; omega), List.length_take, Nat.min_eq_left (Nat.le_of_lt h), Nat.sub_self]
  rw [show [L[n]'h] ++ List.filter p (List.drop (n + 1) L) = L[n]'h :: List.filter p (List.drop (n + 1) L) from rfl, List.eraseIdx_cons_zero]
  rw [List.drop_eq_getElem_cons h, List.filter_cons, if_neg (by rw [hk]; decide)]
theorem rs_dj3 {L : List (Nat → Int32)} {hz : Int32} {n : Nat} (h : n < L.length) : (L.take (n + 1) ++ (L.drop (n + 1)).filter (rs_keep hz))[n]? = some (L[n]'h) := by
  rw [List.getElem?_append_left (by rw [List.length_take]; omega), List.getElem?_take, if_pos (Nat.lt_succ_self n), List.getElem?_eq_getElem h]
theorem rs_djl (L : List (Nat → Int32)) (hz : Int32) (n : Nat) : (L.take n ++ (L.drop n).filter (rs_keep hz)).length ≤ L.length := by
  have h := List.length_filter_le (rs_keep hz) (L.drop n)
  rw [List.length_append, List.length_take]
  rw [List.length_drop] at h
  omega
/-- what goes out of a row: its kind, the row's first four numbers, its JOIN -/
def ot_rec (kd : Int32) (r0 : Nat → Int32) : Nat → Int32 := fun c => if c = 0 then kd else if c < 5 then r0 (c - 1) else r0 (c + 1)
theorem ot_s {kd : Int32} {r0 rr : Nat → Int32} {a : Nat} (h : ∀ c, c < 5 + a → rr c = ot_rec kd r0 c) : ∀ c, c < 5 + (a + 1) → upd rr (5 + a) (r0 (6 + a)) c = ot_rec kd r0 c := by
  intro c hc
  by_cases q : c = 5 + a
  · subst q
    rw [pk_us]
    unfold ot_rec
    rw [if_neg (by omega), if_neg (by omega), show 5 + a + 1 = 6 + a by omega]
  · rw [pk_un q]
    exact h c (by omega)
theorem ot_len {Lo : List (Nat → Int32)} {r x : Nat → Int32} : (Lo ++ [x]).length = (Lo.take Lo.length ++ r :: Lo.drop Lo.length).length := by
  rw [ls_ins_len (Nat.le_refl _), List.length_append]
  rfl
theorem ot_fin {f : Nat → Int32} {w : Nat} {Lo : List (Nat → Int32)} {r x : Nat → Int32} (h : sh_ok w f (Lo.take Lo.length ++ r :: Lo.drop Lo.length)) (hc : ∀ c, c < w → r c = x c) : sh_ok w f (Lo ++ [x]) := by
  intro i r' hr' j hj
  rw [List.getElem?_append] at hr'
  by_cases hi : i < Lo.length
  · rw [if_pos hi] at hr'
    exact h i r' (by rw [ls_ins (Nat.le_refl _), if_pos hi]; exact hr') j hj
  · rw [if_neg hi] at hr'
    have h1 : i - Lo.length < [x].length := (List.getElem?_eq_some_iff.mp hr').1
    have h2 : i = Lo.length := by
      have : [x].length = 1 := rfl
      omega
    subst h2
    rw [Nat.sub_self] at hr'
    obtain rfl : x = r' := Option.some.inj hr'
    rw [← hc j hj]
    exact h _ r (ls_ins_at (Nat.le_refl _)) j hj
end
section
/-! AsOfJoins: small answers -/
def xt_b (n t : Int32) : Int32 := if (¬ t < 0 ∧ ¬ n ≤ t ∧ ¬ 3 ≤ t) then 1 else 0
def xk_b (k : Int32) : Int32 := if (¬ k < 0 ∧ ¬ 16 ≤ k) then 1 else 0
def xm_b (k : Int32) : Int32 := if (¬ k < 1 ∧ ¬ 100000 < k) then 1 else 0
def xv_b (k : Int32) : Int32 := if (¬ k < 0 ∧ ¬ 1000 < k) then 1 else 0
def xmn (n : Int32) (ma : Nat → Int32) (t : Int32) : Int32 := if (¬ t < 0 ∧ ¬ n ≤ t ∧ ¬ 3 ≤ t) then ma t.toNatClampNeg else -2
def xl_b (ma ru : Nat → Int32) (x7 t fr : Int32) : Int32 := if (fr ≤ ma t.toNatClampNeg ∧ (ru 1 = 0 ∨ fr ≤ x7 - ru 3)) then 1 else 0
def xt_low (ma : Nat → Int32) : Nat → Int32
  | 0 => 100000
  | t + 1 => if ma t < xt_low ma t then ma t else xt_low ma t
def xg_b (inner : Int32) (n : Nat) (jo : Nat → Int32) : Int32 := if (inner = 0 ∨ ∀ c, c < n → ¬ jo (2 * c) = -2) then 1 else 0
theorem xt_nat {n t : Int32} (h : ¬ xt_b n t = 0) : ∃ j : Nat, j < 3 ∧ t = nI j ∧ ¬ n ≤ t := by
  have h2 := rs_n2 h
  obtain ⟨j, hj, e⟩ := sh_nat (n := 3) (by decide) h2.1 h2.2.2
  exact ⟨j, hj, e, h2.2.1⟩
theorem xt_in {n t : Int32} (h : ¬ xt_b n t = 0) : vp_in t 3 := by
  obtain ⟨j, hj, rfl, -⟩ := xt_nat h
  exact vp_in_nI hj (by decide)
/-! the VERSION AS OF -/
def vs_nbb (pl fr : Int32) (r : Nat → Int32) : Bool := decide (r 2 < pl ∨ (r 2 = pl ∧ r 0 ≤ fr))
def vs_k (V : List (Nat → Int32)) (pl fr : Int32) : Nat := V.countP (vs_nbb pl fr)
def vs_rec (V : List (Nat → Int32)) (pl fr : Int32) : Option (Nat → Int32) := match V[vs_k V pl fr - 1]? with
  | some r => if 0 < vs_k V pl fr ∧ r 2 = pl ∧ ¬ r 1 = -1 then some r else none
  | none => none
theorem vs_cut_k {V : List (Nat → Int32)} {pl fr : Int32} {k : Nat} (h : vs_cut V pl fr k) : vs_k V pl fr = k := by
  unfold vs_k
  have h1 : (V.take k).countP (vs_nbb pl fr) = (V.take k).length := by
    rw [List.countP_eq_length]
    intro r hr
    obtain ⟨i, e⟩ := List.mem_iff_getElem?.mp hr
    have hi : i < (V.take k).length := (List.getElem?_eq_some_iff.mp e).1
    rw [List.length_take] at hi
    rw [List.getElem?_take, if_pos (by omega)] at e
    exact decide_eq_true ((h.2 i r e).mp (by omega))
  have h2 : (V.drop k).countP (vs_nbb pl fr) = 0 := by
    rw [List.countP_eq_zero]
    intro r hr
    obtain ⟨i, e⟩ := List.mem_iff_getElem?.mp hr
    rw [List.getElem?_drop] at e
    intro q
    have := (h.2 (k + i) r e).mpr (of_decide_eq_true (p := r 2 < pl ∨ (r 2 = pl ∧ r 0 ≤ fr)) q)
    omega
  have h3 : V.countP (vs_nbb pl fr) = (V.take k ++ V.drop k).countP (vs_nbb pl fr) := by rw [List.take_append_drop]
  rw [h3, List.countP_append, h1, h2, List.length_take]
  have := h.1
  omega
theorem vs_asof_rec {V : List (Nat → Int32)} {pl fr r : Int32} {k : Nat} (h : vs_cut V pl fr k) (ha : vs_asof V pl k r) : (vs_rec V pl fr = none ∧ r = -1) ∨ ∃ r0, vs_rec V pl fr = some r0 ∧ V[k - 1]? = some r0 ∧ 0 < k ∧ r = nI (k - 1) := by
  have hk := vs_cut_k h
  unfold vs_rec
  rw [hk]
  rcases ha with ⟨r0, h0, hr, e1, e2, rfl⟩ | ⟨hn, rfl⟩
  · exact Or.inr ⟨r0, by rw [hr]; exact if_pos ⟨h0, e1, e2⟩, hr, h0, rfl⟩
  · refine Or.inl ⟨?_, rfl⟩
    cases hr : V[k - 1]? with
    | none => rfl
    | some r0 => exact if_neg (fun q => q.2.2 (hn r0 q.1 hr q.2.1))
/-- the JOIN of a row of KEY kn at TIME tm: FROM and VALUE of each table -/
def xj (V : List (Nat → Int32)) (si : Int32) (kn : Nat) (tm : Int32) : Nat → Int32 := fun c => match vs_rec V (nI (c / 2 * 16 + kn)) (tm - si) with
  | none => -2
  | some r => if c % 2 = 0 then r 0 else r 1
theorem xj_neg {V : List (Nat → Int32)} {si tm r : Int32} {kn k t c : Nat} (hc : c / 2 = t) (h : vs_cut V (nI (t * 16 + kn)) (tm - si) k) (ha : vs_asof V (nI (t * 16 + kn)) k r) (hk : V.length < 2 ^ 30) (hr : ¬ 0 ≤ r) : (-2 : Int32) = xj V si kn tm c := by
  unfold xj
  rw [hc]
  rcases vs_asof_rec h ha with ⟨e, -⟩ | ⟨r0, -, e2, -, e4⟩
  · rw [e]
  · have := (List.getElem?_eq_some_iff.mp e2).1
    exact absurd (by rw [e4]; exact nI_pos' (by omega)) hr
theorem xj_get {V : List (Nat → Int32)} {si tm r v : Int32} {kn k t c j : Nat} (hc : c / 2 = t) (hj : c % 2 = j) (h : vs_cut V (nI (t * 16 + kn)) (tm - si) k) (ha : vs_asof V (nI (t * 16 + kn)) k r) (hk : V.length < 2 ^ 30) (hr : 0 ≤ r) (hv : v = sh_get 3 V r (nI j)) : v = xj V si kn tm c := by
  unfold xj
  rw [hc]
  rcases vs_asof_rec h ha with ⟨-, e⟩ | ⟨r0, e, e2, -, e4⟩
  · rw [e] at hr; exact absurd hr (by decide)
  · rw [e]
    have h2 : j < 2 := by omega
    rw [hv, e4, sh_get_in (by omega) (by decide) e2 (by omega)]
    rcases (show j = 0 ∨ j = 1 by omega) with q | q
    · subst q; exact (if_pos hj).symm
    · subst q; exact (if_neg (by omega)).symm
def xjt (V : List (Nat → Int32)) (si : Int32) (kn : Nat) (tm : Int32) (jo : Nat → Int32) (t : Nat) : Nat → Int32 := fun j => if j < 2 * t then xj V si kn tm j else jo j
theorem xjt_0 {V : List (Nat → Int32)} {si tm : Int32} {kn : Nat} {jo : Nat → Int32} : xjt V si kn tm jo 0 = jo := by
  funext j
  unfold xjt
  rw [if_neg (by omega)]
theorem xjt_s {V : List (Nat → Int32)} {si tm : Int32} {kn t : Nat} {jo : Nat → Int32} : upd (upd (xjt V si kn tm jo t) (2 * t) (xj V si kn tm (2 * t))) (2 * t + 1) (xj V si kn tm (2 * t + 1)) = xjt V si kn tm jo (t + 1) := by
  funext j
  unfold upd xjt
  by_cases h1 : j = 2 * t + 1
  · subst h1; rw [if_pos rfl, if_pos (by omega)]
  · rw [if_neg h1]
    by_cases h2 : j = 2 * t
    · subst h2; rw [if_pos rfl, if_pos (by omega)]
    · rw [if_neg h2]
      by_cases h3 : j < 2 * t
      · rw [if_pos h3, if_pos (by omega)]
      · rw [if_neg h3, if_neg (by omega)]
theorem nI_nm2 {n : Nat} (h : n < 2 ^ 31) : ¬ nI n = -2 := by
  intro q
  have h2 := nI_pos h
  rw [q] at h2
  exact h2 (by decide)
/-! rows that are joined, rows that are corrected -/
theorem rs_jn_c {r0 jo jo' : Nat → Int32} {g : Int32} (h : ∀ j, j < 6 → jo j = jo' j) : rs_jn r0 g jo 6 = rs_jn r0 g jo' 6 := by
  funext j
  unfold rs_jn
  by_cases h4 : j = 4
  · rw [if_pos h4, if_pos h4]
  · rw [if_neg h4, if_neg h4]
    by_cases h5 : j = 5
    · rw [if_pos h5, if_pos h5]
    · rw [if_neg h5, if_neg h5]
      by_cases h6 : 6 ≤ j ∧ j < 6 + 6
      · rw [if_pos h6, if_pos h6]; exact h _ (by omega)
      · rw [if_neg h6, if_neg h6]
theorem xg_c {inner : Int32} {n : Nat} {jo jo' : Nat → Int32} (hn : n ≤ 3) (h : ∀ j, j < 6 → jo j = jo' j) : xg_b inner n jo = xg_b inner n jo' := by
  have e : (inner = 0 ∨ ∀ c, c < n → ¬ jo (2 * c) = -2) ↔ (inner = 0 ∨ ∀ c, c < n → ¬ jo' (2 * c) = -2) := by
    constructor
    · intro q
      rcases q with q | q
      · exact Or.inl q
      · exact Or.inr (fun c hc => by rw [← h (2 * c) (by omega)]; exact q c hc)
    · intro q
      rcases q with q | q
      · exact Or.inl q
      · exact Or.inr (fun c hc => by rw [h (2 * c) (by omega)]; exact q c hc)
  unfold xg_b
  by_cases q : (inner = 0 ∨ ∀ c, c < n → ¬ jo (2 * c) = -2)
  · rw [if_pos q, if_pos (e.mp q)]
  · rw [if_neg q, if_neg (fun z => q (e.mpr z))]
theorem xg_01 (inner : Int32) (n : Nat) (jo : Nat → Int32) : xg_b inner n jo = 0 ∨ xg_b inner n jo = 1 := by
  unfold xg_b
  split
  · exact Or.inr rfl
  · exact Or.inl rfl
/-- the JOIN of a row as V has it now -/
abbrev jr_j (V : List (Nat → Int32)) (si : Int32) (r : Nat → Int32) : Nat → Int32 := xj V si (r 1).toNatClampNeg (r 2)
def jr_g (V : List (Nat → Int32)) (ru : Nat → Int32) (n : Nat) (r : Nat → Int32) : Int32 := xg_b (ru 2) n (jr_j V (ru 0) r)
/-- a row that takes its JOIN -/
def jr_t (V : List (Nat → Int32)) (ru : Nat → Int32) (n : Nat) (r : Nat → Int32) : Nat → Int32 := rs_jn r (jr_g V ru n r) (jr_j V (ru 0) r) 6
def jr_row (V : List (Nat → Int32)) (ru : Nat → Int32) (n : Nat) (low : Int32) (r : Nat → Int32) : Nat → Int32 := if r 4 = 1 ∧ r 2 ≤ low then jr_t V ru n r else r
def jr_give (V : List (Nat → Int32)) (ru : Nat → Int32) (n : Nat) (r : Nat → Int32) : List (Nat → Int32) := if jr_g V ru n r = 1 then [ot_rec 1 (jr_t V ru n r)] else []
def jr_out (V : List (Nat → Int32)) (ru : Nat → Int32) (n : Nat) (low : Int32) (r : Nat → Int32) : List (Nat → Int32) := if r 4 = 1 ∧ r 2 ≤ low then jr_give V ru n r else []
def cr_same (V : List (Nat → Int32)) (si : Int32) (r : Nat → Int32) : Prop := ∀ c, c < 6 → r (6 + c) = jr_j V si r c
/-! a sweep over the rows: the first a are done -/
def sw_r (F : (Nat → Int32) → (Nat → Int32)) (R : List (Nat → Int32)) (a : Nat) : List (Nat → Int32) := (R.take a).map F ++ R.drop a
def sw_o (Gx : (Nat → Int32) → List (Nat → Int32)) (Lo R : List (Nat → Int32)) (a : Nat) : List (Nat → Int32) := Lo ++ (R.take a).flatMap Gx
def sw_n (d : (Nat → Int32) → Nat) (R : List (Nat → Int32)) (a : Nat) : Nat := ((R.take a).map d).sum
theorem sw_r_len {F : (Nat → Int32) → (Nat → Int32)} {R : List (Nat → Int32)} {a : Nat} (h : a ≤ R.length) : (sw_r F R a).length = R.length := by
  unfold sw_r
  rw [List.length_append, List.length_map, List.length_take, List.length_drop]
  omega
theorem sw_r_at {F : (Nat → Int32) → (Nat → Int32)} {R : List (Nat → Int32)} {a : Nat} (h : a < R.length) : (sw_r F R a)[a]? = some (R[a]'h) := by
  unfold sw_r
  rw [List.getElem?_append, List.length_map, List.length_take, Nat.min_eq_left (Nat.le_of_lt h), if_neg (Nat.lt_irrefl a), Nat.sub_self, List.getElem?_drop, Nat.add_zero, List.getElem?_eq_getElem h]
theorem sw_r_set {F : (Nat → Int32) → (Nat → Int32)} {R : List (Nat → Int32)} {a : Nat} (h : a < R.length) : (sw_r F R a).set a (F (R[a]'h)) = sw_r F R (a + 1) := by
  unfold sw_r
  have e1 : R.drop a = R[a]'h :: R.drop (a + 1) := List.drop_eq_getElem_cons h
  rw [e1, List.take_succ_eq_append_getElem h, List.map_append, List.append_assoc]
  rw [List.set_append, List.length_map, List.length_take, Nat.min_eq_left (Nat.le_of_lt h), if_neg (Nat.lt_irrefl a), Nat.sub_self]
  rfl
theorem sw_r_skip {F : (Nat → Int32) → (Nat → Int32)} {R : List (Nat → Int32)} {a : Nat} (h : a < R.length) (e : F (R[a]'h) = R[a]'h) : sw_r F R (a + 1) = sw_r F R a := by
  rw [← sw_r_set h, e]
  apply List.ext_getElem?
  intro i
  rw [List.getElem?_set, sw_r_len (Nat.le_of_lt h)]
  by_cases q : a = i
  · subst q; rw [if_pos rfl, if_pos h, sw_r_at h]
  · rw [if_neg q]
theorem sw_r_all {F : (Nat → Int32) → (Nat → Int32)} {R : List (Nat → Int32)} : sw_r F R R.length = R.map F := by
  unfold sw_r
  rw [List.take_length, List.drop_length, List.append_nil]
theorem sw_r_0 {F : (Nat → Int32) → (Nat → Int32)} {R : List (Nat → Int32)} : sw_r F R 0 = R := by
  unfold sw_r
  rw [List.take_zero, List.drop_zero, List.map_nil, List.nil_append]
theorem sw_o_s {Gx : (Nat → Int32) → List (Nat → Int32)} {Lo R : List (Nat → Int32)} {a : Nat} (h : a < R.length) : sw_o Gx Lo R (a + 1) = sw_o Gx Lo R a ++ Gx (R[a]'h) := by
  unfold sw_o
  rw [List.take_succ_eq_append_getElem h, List.flatMap_append, List.append_assoc]
  congr 2
  rw [List.flatMap_cons, List.flatMap_nil, List.append_nil]
theorem sw_o_0 {Gx : (Nat → Int32) → List (Nat → Int32)} {Lo R : List (Nat → Int32)} : sw_o Gx Lo R 0 = Lo := by
  unfold sw_o
  rw [List.take_zero, List.flatMap_nil, List.append_nil]
theorem sw_o_all {Gx : (Nat → Int32) → List (Nat → Int32)} {Lo R : List (Nat → Int32)} : sw_o Gx Lo R R.length = Lo ++ R.flatMap Gx := by
  unfold sw_o
  rw [List.take_length]
theorem sw_n_s {d : (Nat → Int32) → Nat} {R : List (Nat → Int32)} {a : Nat} (h : a < R.length) : sw_n d R (a + 1) = sw_n d R a + d (R[a]'h) := by
  unfold sw_n
  rw [List.take_succ_eq_append_getElem h, List.map_append, List.sum_append]
  simp
theorem sw_n_0 {d : (Nat → Int32) → Nat} {R : List (Nat → Int32)} : sw_n d R 0 = 0 := by
  unfold sw_n
  rw [List.take_zero]
  rfl
theorem sw_o_len {Gx : (Nat → Int32) → List (Nat → Int32)} {Lo R : List (Nat → Int32)} {k : Nat} (hG : ∀ r, (Gx r).length ≤ k) : ∀ a, a ≤ R.length → (sw_o Gx Lo R a).length ≤ Lo.length + k * a := by
  intro a
  induction a with
  | zero => intro _; rw [sw_o_0]; omega
  | succ a ih =>
    intro h
    rw [sw_o_s (show a < R.length by omega), List.length_append]
    have h1 := ih (by omega)
    have h2 := hG (R[a]'(by omega))
    rw [Nat.mul_add]
    omega
def jr_d (V : List (Nat → Int32)) (ru : Nat → Int32) (n : Nat) (low : Int32) (r : Nat → Int32) : Nat := if r 4 = 1 ∧ r 2 ≤ low then (if jr_g V ru n r = 1 then 1 else 0) else 0
theorem jr_out_len (V : List (Nat → Int32)) (ru : Nat → Int32) (n : Nat) (low : Int32) (r : Nat → Int32) : (jr_out V ru n low r).length ≤ 1 := by
  unfold jr_out jr_give
  split
  · split <;> simp
  · simp
theorem jr_take {V : List (Nat → Int32)} {ru j0 r : Nat → Int32} {n kn : Nat} (hn : n ≤ 3) (hkn : kn < 16) (ek : r 1 = nI kn) : xg_b (ru 2) n (xjt V (ru 0) kn (r 2) j0 3) = jr_g V ru n r ∧ rs_jn r (xg_b (ru 2) n (xjt V (ru 0) kn (r 2) j0 3)) (xjt V (ru 0) kn (r 2) j0 3) 6 = jr_t V ru n r := by
  have e : ∀ j, j < 6 → xjt V (ru 0) kn (r 2) j0 3 j = jr_j V (ru 0) r j := by
    intro j hj
    unfold xjt jr_j
    rw [if_pos (by omega), ek, nI_clamp (by omega)]
  have e1 : xg_b (ru 2) n (xjt V (ru 0) kn (r 2) j0 3) = jr_g V ru n r := xg_c hn e
  exact ⟨e1, by rw [e1]; exact rs_jn_c e⟩
theorem nI_ite_add {c : Prop} {d : Decidable c} {gv : Int32} {k : Nat} : (@ite Int32 c d (gv + nI k + 1) (gv + nI k)) = gv + nI (k + (@ite Nat c d 1 0)) := by
  by_cases h : c
  · rw [if_pos h, if_pos h, ← nI_1, Int32.add_assoc]
  · rw [if_neg h, if_neg h, Nat.add_zero]
/-! a CORRECTION -/
def cr_s (V : List (Nat → Int32)) (si : Int32) (r : Nat → Int32) : Bool := (List.range 6).all (fun c => decide (r (6 + c) = jr_j V si r c))
def cr_new (V : List (Nat → Int32)) (ru : Nat → Int32) (n : Nat) (r : Nat → Int32) : Nat → Int32 := if cr_s V (ru 0) r = true then r else jr_t V ru n r
def cr_o (V : List (Nat → Int32)) (ru : Nat → Int32) (n : Nat) (r : Nat → Int32) : List (Nat → Int32) := if cr_s V (ru 0) r = true then [] else (if r 5 = 1 then [ot_rec 0 r] else []) ++ (if jr_g V ru n r = 1 then [ot_rec 1 (jr_t V ru n r)] else [])
def cr_dg (V : List (Nat → Int32)) (ru : Nat → Int32) (n : Nat) (r : Nat → Int32) : Nat := if cr_s V (ru 0) r = true then 0 else (if jr_g V ru n r = 1 then 1 else 0)
def cr_dt (V : List (Nat → Int32)) (ru : Nat → Int32) (r : Nat → Int32) : Nat := if cr_s V (ru 0) r = true then 0 else (if r 5 = 1 then 1 else 0)
theorem cr_eq {V : List (Nat → Int32)} {ru j0 r : Nat → Int32} {kn : Nat} (hkn : kn < 16) (ek : r 1 = nI kn) : (∀ c, c < 6 → r (6 + c) = xjt V (ru 0) kn (r 2) j0 3 c) ↔ cr_s V (ru 0) r = true := by
  have e : ∀ j, j < 6 → xjt V (ru 0) kn (r 2) j0 3 j = jr_j V (ru 0) r j := by
    intro j hj
    unfold xjt jr_j
    rw [if_pos (by omega), ek, nI_clamp (by omega)]
  unfold cr_s
  rw [List.all_eq_true]
  exact ⟨fun h c hc => decide_eq_true ((h c (List.mem_range.mp hc)).trans (e c (List.mem_range.mp hc))), fun h c hc => (of_decide_eq_true (h c (List.mem_range.mpr hc))).trans (e c hc).symm⟩
theorem cr_set {L : List (Nat → Int32)} {i : Nat} {r : Nat → Int32} (h : L[i]? = some r) : L.set i r = L := by
  apply List.ext_getElem?
  intro k
  rw [List.getElem?_set]
  by_cases q : i = k
  · subst q
    rw [if_pos rfl, if_pos (List.getElem?_eq_some_iff.mp h).1, h]
  · rw [if_neg q]
theorem cr_l1 (r : Nat → Int32) : (if r 5 = 1 then [ot_rec 0 r] else []).length ≤ 1 := by
  split <;> simp
theorem nI_ite_0 {c : Prop} {d : Decidable c} {gv : Int32} : (@ite Int32 c d (gv + 1) gv) = gv + nI (@ite Nat c d 1 0) := by
  by_cases h : c
  · rw [if_pos h, if_pos h]; rfl
  · rw [if_neg h, if_neg h]; exact (Int32.add_zero gv).symm
/-! corrections over all rows of a key -/
def cw_c (ky : Int32) (r : Nat → Int32) : Bool := decide (r 1 = ky ∧ ¬ r 4 = 1)
def cw_row (V : List (Nat → Int32)) (ru : Nat → Int32) (n : Nat) (ky : Int32) (r : Nat → Int32) : Nat → Int32 := if cw_c ky r = true then cr_new V ru n r else r
def cw_o (V : List (Nat → Int32)) (ru : Nat → Int32) (n : Nat) (ky : Int32) (r : Nat → Int32) : List (Nat → Int32) := if cw_c ky r = true then cr_o V ru n r else []
def cw_dg (V : List (Nat → Int32)) (ru : Nat → Int32) (n : Nat) (ky : Int32) (r : Nat → Int32) : Nat := if cw_c ky r = true then cr_dg V ru n r else 0
def cw_dt (V : List (Nat → Int32)) (ru : Nat → Int32) (ky : Int32) (r : Nat → Int32) : Nat := if cw_c ky r = true then cr_dt V ru r else 0
theorem cw_o_len (V : List (Nat → Int32)) (ru : Nat → Int32) (n : Nat) (ky : Int32) (r : Nat → Int32) : (cw_o V ru n ky r).length ≤ 2 := by
  unfold cw_o cr_o
  split
  · split
    · simp
    · rw [List.length_append]
      split <;> split <;> simp
  · simp
/-! VERSIONS that go -/
def nd_a (ky fi la : Int32) (r : Nat → Int32) : Bool := decide (r 4 = 1 ∧ r 1 = ky ∧ fi ≤ r 2 ∧ r 2 ≤ la)
def nd_b (si hz : Int32) (R : List (Nat → Int32)) (r0 : Nat → Int32) (nx : Option (Nat → Int32)) : Bool := match nx with
  | none => false
  | some r1 => decide (r1 2 = r0 2) && decide (r1 0 - 1 + si ≤ hz) && !(R.any (nd_a (nI ((r0 2).toNatClampNeg % 16)) (r0 0 + si) (r1 0 - 1 + si)))
def dv (nd : (Nat → Int32) → Option (Nat → Int32) → Bool) : List (Nat → Int32) → List (Nat → Int32)
  | [] => []
  | r :: t => if nd r t.head? = true then dv nd t else r :: dv nd t
theorem nd_b_s {si hz : Int32} {R : List (Nat → Int32)} {r0 r1 : Nat → Int32} : nd_b si hz R r0 (some r1) = (decide (r1 2 = r0 2) && decide (r1 0 - 1 + si ≤ hz) && !(R.any (nd_a (nI ((r0 2).toNatClampNeg % 16)) (r0 0 + si) (r1 0 - 1 + si)))) := rfl
theorem nd_any {R : List (Nat → Int32)} {ky fi la : Int32} (h : ∃ (i : Nat) (r0 : Nat → Int32), R[i]? = some r0 ∧ rs_any ky fi la r0) : R.any (nd_a ky fi la) = true := by
  obtain ⟨i, r0, h1, h2⟩ := h
  exact List.any_eq_true.mpr ⟨r0, List.mem_of_getElem? h1, decide_eq_true h2⟩
theorem nd_none {R : List (Nat → Int32)} {ky fi la : Int32} (h : ∀ (i : Nat) (r0 : Nat → Int32), R[i]? = some r0 → ¬ rs_any ky fi la r0) : R.any (nd_a ky fi la) = false := by
  rw [Bool.eq_false_iff]
  intro q
  obtain ⟨r0, h1, h2⟩ := List.any_eq_true.mp q
  obtain ⟨i, hi⟩ := List.getElem?_of_mem h1
  exact h i r0 hi (of_decide_eq_true (p := r0 4 = 1 ∧ r0 1 = ky ∧ fi ≤ r0 2 ∧ r0 2 ≤ la) h2)
theorem dv_len (nd : (Nat → Int32) → Option (Nat → Int32) → Bool) : ∀ L, (dv nd L).length ≤ L.length := by
  intro L
  induction L with
  | nil => exact Nat.le_refl _
  | cons r t ih =>
    unfold dv
    split
    · rw [List.length_cons]; omega
    · rw [List.length_cons, List.length_cons]; omega
theorem cw_n1 {ky : Int32} {r : Nat → Int32} (h : ¬ r 1 = ky) : ¬ cw_c ky r = true := fun q => h (of_decide_eq_true q).1
theorem cw_n2 {ky : Int32} {r : Nat → Int32} (h : r 4 = 1) : ¬ cw_c ky r = true := fun q => (of_decide_eq_true q).2 h
theorem nd_s {V : List (Nat → Int32)} {g : Int32} {i p : Nat} (hk : V.length < 2 ^ 30) (hi : i < V.length) (hp : p < 2 ^ 31) (hg : g = sh_get 3 V (nI (i + 1)) 2) (h : g = nI p) : ∃ r1, V[i + 1]? = some r1 ∧ r1 2 = nI p := by
  cases hx : V[i + 1]? with
  | none =>
    have hl : V.length ≤ i + 1 := List.getElem?_eq_none_iff.mp hx
    rw [hg, sh_get_out (Or.inr (Or.inl (nI_le hl (by omega))))] at h
    exact absurd h.symm (nI_nm2 hp)
  | some r1 => exact ⟨r1, rfl, by rw [← h, hg]; exact (sh_get_in (j := 2) (by omega) (by decide) hx (by decide)).symm⟩
theorem nd_f1 {V R : List (Nat → Int32)} {g si hz : Int32} {i p : Nat} {r0 : Nat → Int32} (hk : V.length < 2 ^ 30) (ep : r0 2 = nI p) (hg : g = sh_get 3 V (nI (i + 1)) 2) (h : ¬ g = nI p) : ¬ nd_b si hz R r0 V[i + 1]? = true := by
  cases hx : V[i + 1]? with
  | none => intro q; unfold nd_b at q; simp at q
  | some r1 =>
    intro q
    unfold nd_b at q
    simp only [Bool.and_eq_true, decide_eq_true_eq] at q
    exact h (by rw [hg, ← ep, ← q.1.1]; exact sh_get_in (j := 2) (by omega) (by decide) hx (by decide))
theorem nd_f2 {R : List (Nat → Int32)} {si hz : Int32} {r0 r1 : Nat → Int32} {nx : Option (Nat → Int32)} (hx : nx = some r1) (h : hz < r1 0 - 1 + si) : ¬ nd_b si hz R r0 nx = true := by
  intro q
  rw [hx] at q
  unfold nd_b at q
  simp only [Bool.and_eq_true, decide_eq_true_eq] at q
  exact sh_nle h q.1.2
theorem nd_f3 {R : List (Nat → Int32)} {si hz : Int32} {r0 r1 : Nat → Int32} {nx : Option (Nat → Int32)} {p : Nat} (hp : p < 2 ^ 31) (ep : r0 2 = nI p) (hx : nx = some r1) (h : ∃ (i : Nat) (r : Nat → Int32), R[i]? = some r ∧ rs_any (nI (p % 16)) (r0 0 + si) (r1 0 - 1 + si) r) : ¬ nd_b si hz R r0 nx = true := by
  intro q
  rw [hx, nd_b_s, ep, nI_clamp hp, nd_any h] at q
  simp at q
theorem nd_t {R : List (Nat → Int32)} {si hz : Int32} {r0 r1 : Nat → Int32} {nx : Option (Nat → Int32)} {p : Nat} (hp : p < 2 ^ 31) (ep : r0 2 = nI p) (hx : nx = some r1) (e1 : r1 2 = nI p) (h : r1 0 - 1 + si ≤ hz) (hn : ∀ (i : Nat) (r : Nat → Int32), R[i]? = some r → ¬ rs_any (nI (p % 16)) (r0 0 + si) (r1 0 - 1 + si) r) : nd_b si hz R r0 nx = true := by
  rw [hx, nd_b_s, ep, nI_clamp hp, nd_none hn, e1]
  simp [h]
/-! the sweep over the VERSIONS: K is kept, n are left -/
theorem dv_at {K V : List (Nat → Int32)} {n : Nat} (h : n < V.length) : (K ++ V.drop n)[K.length]? = some (V[n]'h) := by
  rw [List.getElem?_append_right (Nat.le_refl _), Nat.sub_self, List.getElem?_drop, Nat.add_zero, List.getElem?_eq_getElem h]
theorem dv_nx {K V : List (Nat → Int32)} {n : Nat} : (K ++ V.drop n)[K.length + 1]? = (V.drop (n + 1)).head? := by
  rw [List.getElem?_append_right (by omega), List.getElem?_drop, List.head?_drop, show n + (K.length + 1 - K.length) = n + 1 by omega]
theorem dv_go {K V : List (Nat → Int32)} {n : Nat} (h : n < V.length) : (K ++ V.drop n).eraseIdx K.length = K ++ V.drop (n + 1) := by
  rw [List.eraseIdx_append_of_length_le (Nat.le_refl _), Nat.sub_self, List.drop_eq_getElem_cons h, List.eraseIdx_cons_zero]
theorem dv_keep {K V : List (Nat → Int32)} {n : Nat} (h : n < V.length) : K ++ V.drop n = (K ++ [V[n]'h]) ++ V.drop (n + 1) := by
  rw [List.append_assoc, List.drop_eq_getElem_cons h]
  rfl
theorem dv_s1 {nd : (Nat → Int32) → Option (Nat → Int32) → Bool} {V : List (Nat → Int32)} {n : Nat} (h : n < V.length) (hd : nd (V[n]'h) (V.drop (n + 1)).head? = true) : dv nd (V.drop n) = dv nd (V.drop (n + 1)) := by
  rw [List.drop_eq_getElem_cons h]
  exact if_pos hd
theorem dv_s2 {nd : (Nat → Int32) → Option (Nat → Int32) → Bool} {V : List (Nat → Int32)} {n : Nat} (h : n < V.length) (hd : ¬ nd (V[n]'h) (V.drop (n + 1)).head? = true) : dv nd (V.drop n) = V[n]'h :: dv nd (V.drop (n + 1)) := by
  rw [List.drop_eq_getElem_cons h]
  exact if_neg hd
theorem dv_xx {x : Nat → Int32} {k : Nat} {v w : Int32} : upd (upd x k v) k w = upd x k w := by
  funext j
  unfold upd
  by_cases h : j = k
  · rw [if_pos h, if_pos h]
  · rw [if_neg h, if_neg h, if_neg h]
theorem dv_x0 {x : Nat → Int32} {k : Nat} : upd x k (x k + nI (0 - ([] : List (Nat → Int32)).length)) = x := by
  funext j
  unfold upd
  by_cases h : j = k
  · subst h; rw [if_pos rfl]; exact Int32.add_zero _
  · rw [if_neg h]
end
section
/-! the worlds: which cells a method sees (numbers of classes: 0 AsOfJoins .. as vwCl has them) -/
abbrev wN : va_W := []
abbrev wS (h b : Nat) (cA : ClassId) (w lim k : Nat) (f : Nat → Int32) : va_W := [(h, .inr (4, [.int (nI w), .int (nI lim), .ref b, .int (nI k)])), (b, .inl (cA, w * lim, .inl f))]
abbrev wV (vo h b : Nat) (cA : ClassId) (k : Nat) (f : Nat → Int32) : va_W := [(vo, .inr (5, [.ref h])), (h, .inr (4, [.int (nI 3), .int (nI 160), .ref b, .int (nI k)])), (b, .inl (cA, 3 * 160, .inl f))]
abbrev wR (ro h b : Nat) (cA : ClassId) (k : Nat) (f : Nat → Int32) : va_W := [(ro, .inr (3, [.ref h])), (h, .inr (4, [.int (nI 12), .int (nI 96), .ref b, .int (nI k)])), (b, .inl (cA, 12 * 96, .inl f))]
abbrev wO (oo h b : Nat) (cA : ClassId) (gv tk : Int32) (k : Nat) (f : Nat → Int32) : va_W := [(oo, .inr (2, [.ref h, .int gv, .int tk])), (h, .inr (4, [.int (nI 11), .int (nI 192), .ref b, .int (nI k)])), (b, .inl (cA, 11 * 192, .inl f))]
abbrev wRJ (ro h b : Nat) (cA : ClassId) (k : Nat) (f : Nat → Int32) (ja : Nat) (jo : Nat → Int32) : va_W := [(ro, .inr (3, [.ref h])), (h, .inr (4, [.int (nI 12), .int (nI 96), .ref b, .int (nI k)])), (b, .inl (cA, 12 * 96, .inl f)), (ja, .inl (cA, 6, .inl jo))]
abbrev wOR (oo h b : Nat) (cA : ClassId) (gv tk : Int32) (k : Nat) (f : Nat → Int32) (ro h2 b2 k2 : Nat) (f2 : Nat → Int32) : va_W := [(oo, .inr (2, [.ref h, .int gv, .int tk])), (h, .inr (4, [.int (nI 11), .int (nI 192), .ref b, .int (nI k)])), (b, .inl (cA, 11 * 192, .inl f)), (ro, .inr (3, [.ref h2])), (h2, .inr (4, [.int (nI 12), .int (nI 96), .ref b2, .int (nI k2)])), (b2, .inl (cA, 12 * 96, .inl f2))]
abbrev wX (a : Nat → Nat) (cA : ClassId) (x ru ma jo : Nat → Int32) (gv tk : Int32) (kV : Nat) (fV : Nat → Int32) (kR : Nat) (fR : Nat → Int32) (kO : Nat) (fO : Nat → Int32) : va_W :=
  [(a 0, .inr (0, [.ref (a 1), .ref (a 2), .ref (a 4), .ref (a 7), .ref (a 10), .ref (a 3), .int (x 6), .int (x 7), .int (x 8), .int (x 9), .int (x 10), .int (x 11), .int (x 12)])), (a 1, .inl (cA, 4, .inl ru)), (a 2, .inl (cA, 3, .inl ma)), (a 3, .inl (cA, 6, .inl jo)),
   (a 4, .inr (5, [.ref (a 5)])), (a 5, .inr (4, [.int (nI 3), .int (nI 160), .ref (a 6), .int (nI kV)])), (a 6, .inl (cA, 3 * 160, .inl fV)),
   (a 7, .inr (3, [.ref (a 8)])), (a 8, .inr (4, [.int (nI 12), .int (nI 96), .ref (a 9), .int (nI kR)])), (a 9, .inl (cA, 12 * 96, .inl fR)),
   (a 10, .inr (2, [.ref (a 11), .int gv, .int tk])), (a 11, .inr (4, [.int (nI 11), .int (nI 192), .ref (a 12), .int (nI kO)])), (a 12, .inl (cA, 11 * 192, .inl fO))]
def ad13 (a0 a1 a2 a3 a4 a5 a6 a7 a8 a9 a10 a11 a12 : Nat) : Nat → Nat := fun k => match k with
  | 0 => a0
  | 1 => a1
  | 2 => a2
  | 3 => a3
  | 4 => a4
  | 5 => a5
  | 6 => a6
  | 7 => a7
  | 8 => a8
  | 9 => a9
  | 10 => a10
  | 11 => a11
  | _ => a12
end
section
set_option maxHeartbeats 4000000 in
set_option maxRecDepth 100000 in
/-- size() -/
theorem c_Sh_size (l : Launch) (dC : Nat → ClassId) (dI : Nat → Nat → Nat) (cA : ClassId) (sz : Nat) (h b w lim : Nat) (f : Nat → Int32) (L : List (Nat → Int32)) (hwf : sh_wf w lim f L) : Met l qy_S_size qw_S_size ({ frames := 0, cells := 0, slots := 0, locals := 0 }) (mk_ro [.ref h] sz (dC, dI) vwCl [(cA, .int)] (wS h b cA w lim L.length f)) (mk_roQ (fun r => r = nI L.length) sz) 0 0 (mk_new sz) := by
  refine Met.ofW (cc := qb_S_size) (maxL := 1) (ret := (some .int)) (by decide) rfl ?_
  intro p e s m args below meth c s₁ B hml hpre
  obtain ⟨rfl, hsz, hP, hK⟩ := hpre
  have hx := B.exec
  have hb := B.bytes
  have hr := B.returns
  have hts0 := atoms_spec (ws := qw_S_size) B.pre
  have hts := fun w (h : w ∈ lw_gd) => hts0 w (List.mem_cons_of_mem _ h)
  have hown : s.vm.findClass qR_S = some m.cls := findClass_of_methodNamed B.named
  have hlocks := B.notSynchronized
  subst hsz
  have hA : ∀ q : Nat, s.heap.size ≤ q → mk_new s.heap.size q := fun _ h => h
  have hS : va_S (mk_new s.heap.size) s.heap s.heap [] := va_S.rf
  have hl := lv_entry ([.ref h]) (n := 1) (Nat.le_of_ble_eq_true rfl)
  rw [lg_entry_eq]
  generalize (lg_sl ([.ref h]) ++ List.replicate (1 - (lg_sl ([.ref h])).length) Slot.unset).toArray = ls at hl ⊢
  have hl : lv_has ls 1 [(0, .ref h)] := hl
  have hP : va_P (dC, dI) vwCl (wS h b cA w lim L.length f) s.heap := hP
  refine mk_start (A := (mk_new s.heap.size)) hP (fun H locs hP hS => ?_)
  refine lv_aload_n hx hb qd_S_size_0 rfl (lv_at hl 0 rfl) ?_
  refine va_get (D := (dC, dI)) (ci := 4) (v := .int (nI L.length)) (C := qR_S) (T := qT_S) (N := 4) hx hb hts qin_S hown hK hP 0 rfl rfl 3 (by decide) (hts _ mw_69) (fun _ h9 => h9) rfl qd_S_size_1 ?_
  exact mk_iret hx hb hr hlocks hS qd_S_size_4 (rfl)
set_option maxHeartbeats 4000000 in
set_option maxRecDepth 100000 in
/-- get(line, column) -/
theorem c_Sh_get (l : Launch) (dC : Nat → ClassId) (dI : Nat → Nat → Nat) (cA : ClassId) (sz : Nat) (h b w lim : Nat) (f : Nat → Int32) (L : List (Nat → Int32)) (hwf : sh_wf w lim f L) (i j : Int32) : Met l qy_S_get qw_S_get ({ frames := 0, cells := 0, slots := 0, locals := 0 }) (mk_ro [.ref h, .int i, .int j] sz (dC, dI) vwCl [(cA, .int)] (wS h b cA w lim L.length f)) (mk_roQ (fun r => r = sh_get w L i j) sz) 0 0 (mk_new sz) := by
  refine Met.ofW (cc := qb_S_get) (maxL := 3) (ret := (some .int)) (by decide) rfl ?_
  intro p e s m args below meth c s₁ B hml hpre
  obtain ⟨rfl, hsz, hP, hK⟩ := hpre
  have hx := B.exec
  have hb := B.bytes
  have hr := B.returns
  have hts0 := atoms_spec (ws := qw_S_get) B.pre
  have hts := fun w (h : w ∈ lw_gd) => hts0 w (List.mem_cons_of_mem _ h)
  have hown : s.vm.findClass qR_S = some m.cls := findClass_of_methodNamed B.named
  have hlocks := B.notSynchronized
  subst hsz
  have hA : ∀ q : Nat, s.heap.size ≤ q → mk_new s.heap.size q := fun _ h => h
  have hS : va_S (mk_new s.heap.size) s.heap s.heap [] := va_S.rf
  have hl := lv_entry ([.ref h, .int i, .int j]) (n := 3) (Nat.le_of_ble_eq_true rfl)
  rw [lg_entry_eq]
  generalize (lg_sl ([.ref h, .int i, .int j]) ++ List.replicate (3 - (lg_sl ([.ref h, .int i, .int j])).length) Slot.unset).toArray = ls at hl ⊢
  have hl : lv_has ls 3 [(0, .ref h), (1, .int i), (2, .int j)] := hl
  have hP : va_P (dC, dI) vwCl (wS h b cA w lim L.length f) s.heap := hP
  refine mk_start (A := (mk_new s.heap.size)) hP (fun H locs hP hS => ?_)
  obtain ⟨hok, hlen, hwl, hw1, hl1⟩ := hwf
  refine lv_iload_n hx hb qd_S_get_0 rfl (lv_at hl 1 rfl) ?_
  refine lv_if_lt (tgt := 24) hx hb qd_S_get_1 (by decide) (fun c_1 => ?_) (fun c_1 => ?_)
  · refine lv_bipush (v := (-2)) hx hb qd_S_get_24 (by decide) ?_
    exact mk_iret hx hb hr hlocks hS qd_S_get_26 ((sh_get_out (by first | exact Or.inl c_1 | exact Or.inr (Or.inl c_1) | exact Or.inr (Or.inr (Or.inl c_1)) | exact Or.inr (Or.inr (Or.inr (sh_le_of c_1))))).symm)
  · refine lv_iload_n hx hb qd_S_get_4 rfl (lv_at hl 1 rfl) ?_
    refine lv_aload_n hx hb qd_S_get_5 rfl (lv_at hl 0 rfl) ?_
    refine va_get (D := (dC, dI)) (ci := 4) (v := .int (nI L.length)) (C := qR_S) (T := qT_S) (N := 4) hx hb hts qin_S hown hK hP 0 rfl rfl 3 (by decide) (hts _ mw_69) (fun _ h9 => h9) rfl qd_S_get_6 ?_
    refine lv_icmp_ge (tgt := 24) hx hb qd_S_get_9 (by decide) (fun c_2 => ?_) (fun c_2 => ?_)
    · refine lv_bipush (v := (-2)) hx hb qd_S_get_24 (by decide) ?_
      exact mk_iret hx hb hr hlocks hS qd_S_get_26 ((sh_get_out (by first | exact Or.inl c_2 | exact Or.inr (Or.inl c_2) | exact Or.inr (Or.inr (Or.inl c_2)) | exact Or.inr (Or.inr (Or.inr (sh_le_of c_2))))).symm)
    · refine lv_iload_n hx hb qd_S_get_12 rfl (lv_at hl 2 rfl) ?_
      refine lv_if_lt (tgt := 24) hx hb qd_S_get_13 (by decide) (fun c_3 => ?_) (fun c_3 => ?_)
      · refine lv_bipush (v := (-2)) hx hb qd_S_get_24 (by decide) ?_
        exact mk_iret hx hb hr hlocks hS qd_S_get_26 ((sh_get_out (by first | exact Or.inl c_3 | exact Or.inr (Or.inl c_3) | exact Or.inr (Or.inr (Or.inl c_3)) | exact Or.inr (Or.inr (Or.inr (sh_le_of c_3))))).symm)
      · refine lv_iload_n hx hb qd_S_get_16 rfl (lv_at hl 2 rfl) ?_
        refine lv_aload_n hx hb qd_S_get_17 rfl (lv_at hl 0 rfl) ?_
        refine va_get (D := (dC, dI)) (ci := 4) (v := .int (nI w)) (C := qR_S) (T := qT_S) (N := 4) hx hb hts qin_S hown hK hP 0 rfl rfl 0 (by decide) (hts _ mw_66) (fun _ h9 => h9) rfl qd_S_get_18 ?_
        refine lv_icmp_lt (tgt := 27) hx hb qd_S_get_21 (by decide) (fun c_4 => ?_) (fun c_4 => ?_)
        · refine lv_aload_n hx hb qd_S_get_27 rfl (lv_at hl 0 rfl) ?_
          refine va_get (D := (dC, dI)) (ci := 4) (v := .ref b) (C := qR_S) (T := qT_S) (N := 4) hx hb hts qin_S hown hK hP 0 rfl rfl 2 (by decide) (hts _ mw_68) (fun _ h9 => h9) rfl qd_S_get_28 ?_
          refine lv_iload_n hx hb qd_S_get_31 rfl (lv_at hl 1 rfl) ?_
          refine lv_aload_n hx hb qd_S_get_32 rfl (lv_at hl 0 rfl) ?_
          refine va_get (D := (dC, dI)) (ci := 4) (v := .int (nI w)) (C := qR_S) (T := qT_S) (N := 4) hx hb hts qin_S hown hK hP 0 rfl rfl 0 (by decide) (hts _ mw_66) (fun _ h9 => h9) rfl qd_S_get_33 ?_
          refine lv_imul hx hb qd_S_get_36 ?_
          refine lv_iload_n hx hb qd_S_get_37 rfl (lv_at hl 2 rfl) ?_
          refine lv_iadd hx hb qd_S_get_38 ?_
          obtain ⟨i', hi', ei⟩ := sh_nat (n := L.length) (by omega) c_1 c_2
          obtain ⟨j', hj', ej⟩ := sh_nat (n := w) (by omega) c_3 (sh_nle c_4)
          have hix := sh_ix hi' hlen hj'
          refine mk_rw (y := nI (i' * w + j')) (by rw [ei, ej, pk_mul, nI_add]) ?_
          refine va_iald (i := (nI (i' * w + j'))) hx hb hK hP 1 0 rfl rfl (vp_in_nI (by omega) (by omega)) qd_S_get_39 ?_
          refine mk_rw (y := f (i' * w + j')) (congrArg _ (nI_clamp (by omega))) ?_
          exact mk_iret hx hb hr hlocks hS qd_S_get_40 (by rw [ei, ej]; exact sh_get_ok hok (by omega) (by omega) hi' hj')
        · refine lv_bipush (v := (-2)) hx hb qd_S_get_24 (by decide) ?_
          exact mk_iret hx hb hr hlocks hS qd_S_get_26 ((sh_get_out (by first | exact Or.inl c_4 | exact Or.inr (Or.inl c_4) | exact Or.inr (Or.inr (Or.inl c_4)) | exact Or.inr (Or.inr (Or.inr (sh_le_of c_4))))).symm)
set_option maxHeartbeats 4000000 in
set_option maxRecDepth 100000 in
/-- set(line, column, v), the line and the column there -/
theorem c_Sh_set (l : Launch) (dC : Nat → ClassId) (dI : Nat → Nat → Nat) (cA : ClassId) (sz : Nat) (h b w lim : Nat) (f : Nat → Int32) (L : List (Nat → Int32)) (hwf : sh_wf w lim f L) (i' j' : Nat) (v : Int32) (r0 : Nat → Int32) (hr0 : L[i']? = some r0) (hj : j' < w) : Met l qy_S_set qw_S_set ({ frames := 0, cells := 0, slots := 0, locals := 0 }) (mk_mu [.ref h, .int (nI i'), .int (nI j'), .int v] sz (dC, dI) vwCl [(cA, .int)] (wS h b cA w lim L.length f)) (mk_muV (S := List (Nat → Int32) × (Nat → Int32)) (fun u => u.1 = L.set i' (upd r0 j' v) ∧ sh_ok w u.2 u.1) (fun u => wS h b cA w lim u.1.length u.2) (dC, dI) vwCl [(cA, .int)] (va_A (wS h b cA w lim L.length f) sz)) 0 0 (va_A (wS h b cA w lim L.length f) sz) := by
  refine Met.ofW (cc := qb_S_set) (maxL := 4) (ret := none) (by decide) rfl ?_
  intro p e s m args below meth c s₁ B hml hpre
  obtain ⟨rfl, hsz, hP, hK, hD0⟩ := hpre
  have hx := B.exec
  have hb := B.bytes
  have hr := B.returns
  have hts0 := atoms_spec (ws := qw_S_set) B.pre
  have hts := fun w (h : w ∈ lw_gd) => hts0 w (List.mem_cons_of_mem _ h)
  have hown : s.vm.findClass qR_S = some m.cls := findClass_of_methodNamed B.named
  have hlocks := B.notSynchronized
  subst hsz
  have hD := hD0.self (sz := s.heap.size)
  generalize hAe : va_A (wS h b cA w lim L.length f) s.heap.size = A at hD ⊢
  have hA : ∀ q : Nat, s.heap.size ≤ q → A q := fun q h => by rw [← hAe]; exact Or.inr h
  have hS : va_S A s.heap s.heap [] := va_S.rf
  have hl := lv_entry ([.ref h, .int (nI i'), .int (nI j'), .int v]) (n := 4) (Nat.le_of_ble_eq_true rfl)
  rw [lg_entry_eq]
  generalize (lg_sl ([.ref h, .int (nI i'), .int (nI j'), .int v]) ++ List.replicate (4 - (lg_sl ([.ref h, .int (nI i'), .int (nI j'), .int v])).length) Slot.unset).toArray = ls at hl ⊢
  have hl : lv_has ls 4 [(0, .ref h), (1, .int (nI i')), (2, .int (nI j')), (3, .int v)] := hl
  have hP : va_P (dC, dI) vwCl (wS h b cA w lim L.length f) s.heap := hP
  refine mk_start (A := A) hP (fun H locs hP hS => ?_)
  obtain ⟨hok, hlen, hwl, hw1, hl1⟩ := hwf
  have hi' : i' < L.length := (List.getElem?_eq_some_iff.mp hr0).1
  have hix := sh_ix hi' hlen hj
  refine lv_iload_n hx hb qd_S_set_0 rfl (lv_at hl 1 rfl) ?_
  refine lv_if_lt (tgt := 24) hx hb qd_S_set_1 (by decide) (fun c_1 => ?_) (fun c_1 => ?_)
  · exact absurd c_1 (nI_pos (by omega))
  · refine lv_iload_n hx hb qd_S_set_4 rfl (lv_at hl 1 rfl) ?_
    refine lv_aload_n hx hb qd_S_set_5 rfl (lv_at hl 0 rfl) ?_
    refine va_get (D := (dC, dI)) (ci := 4) (v := .int (nI L.length)) (C := qR_S) (T := qT_S) (N := 4) hx hb hts qin_S hown hK hP 0 rfl rfl 3 (by decide) (hts _ mw_69) (fun _ h9 => h9) rfl qd_S_set_6 ?_
    refine lv_icmp_ge (tgt := 24) hx hb qd_S_set_9 (by decide) (fun c_2 => ?_) (fun c_2 => ?_)
    · exact absurd c_2 (nI_ge hi' (by omega))
    · refine lv_iload_n hx hb qd_S_set_12 rfl (lv_at hl 2 rfl) ?_
      refine lv_if_lt (tgt := 24) hx hb qd_S_set_13 (by decide) (fun c_3 => ?_) (fun c_3 => ?_)
      · exact absurd c_3 (nI_pos (by omega))
      · refine lv_iload_n hx hb qd_S_set_16 rfl (lv_at hl 2 rfl) ?_
        refine lv_aload_n hx hb qd_S_set_17 rfl (lv_at hl 0 rfl) ?_
        refine va_get (D := (dC, dI)) (ci := 4) (v := .int (nI w)) (C := qR_S) (T := qT_S) (N := 4) hx hb hts qin_S hown hK hP 0 rfl rfl 0 (by decide) (hts _ mw_66) (fun _ h9 => h9) rfl qd_S_set_18 ?_
        refine lv_icmp_lt (tgt := 25) hx hb qd_S_set_21 (by decide) (fun c_4 => ?_) (fun c_4 => ?_)
        · refine lv_aload_n hx hb qd_S_set_25 rfl (lv_at hl 0 rfl) ?_
          refine va_get (D := (dC, dI)) (ci := 4) (v := .ref b) (C := qR_S) (T := qT_S) (N := 4) hx hb hts qin_S hown hK hP 0 rfl rfl 2 (by decide) (hts _ mw_68) (fun _ h9 => h9) rfl qd_S_set_26 ?_
          refine lv_iload_n hx hb qd_S_set_29 rfl (lv_at hl 1 rfl) ?_
          refine lv_aload_n hx hb qd_S_set_30 rfl (lv_at hl 0 rfl) ?_
          refine va_get (D := (dC, dI)) (ci := 4) (v := .int (nI w)) (C := qR_S) (T := qT_S) (N := 4) hx hb hts qin_S hown hK hP 0 rfl rfl 0 (by decide) (hts _ mw_66) (fun _ h9 => h9) rfl qd_S_set_31 ?_
          refine lv_imul hx hb qd_S_set_34 ?_
          refine lv_iload_n hx hb qd_S_set_35 rfl (lv_at hl 2 rfl) ?_
          refine lv_iadd hx hb qd_S_set_36 ?_
          refine mk_rw (y := nI (i' * w + j')) (by rw [pk_mul, nI_add]) ?_
          refine lv_iload_n hx hb qd_S_set_37 rfl (lv_at hl 3 rfl) ?_
          refine va_iast (i := (nI (i' * w + j'))) (x := v) hx hb hK hP hD hS 1 0 rfl rfl (vp_in_nI (by omega) (by omega)) qd_S_set_38 (fun H locs hP hD hS => ?_)
          rw [show Int32.toNatClampNeg (nI (i' * w + j')) = (i' * w + j') from (nI_clamp (by omega))] at hP hD
          have hP : va_P (dC, dI) vwCl (wS h b cA w lim L.length (upd f (i' * w + j') v)) H := hP
          have hD : va_D A (wS h b cA w lim L.length (upd f (i' * w + j') v)) := hD
          have hP : va_P (dC, dI) vwCl (wS h b cA w lim (L.set i' (upd r0 j' v)).length (upd f (i' * w + j') v)) H := by rw [List.length_set]; exact hP
          have hD : va_D A (wS h b cA w lim (L.set i' (upd r0 j' v)).length (upd f (i' * w + j') v)) := by rw [List.length_set]; exact hD
          exact mk_mvret (L.set i' (upd r0 j' v), upd f (i' * w + j') v) hx hb hr hlocks hP hK hD hS qd_S_set_39 (⟨rfl, sh_ok_set hok hr0 hj⟩)
        · exact absurd (nI_lt hj (by omega)) c_4
set_option maxHeartbeats 4000000 in
set_option maxRecDepth 100000 in
/-- open(line), where there is room -/
theorem c_Sh_open (l : Launch) (dC : Nat → ClassId) (dI : Nat → Nat → Nat) (cA : ClassId) (sz : Nat) (h b w lim : Nat) (f : Nat → Int32) (L : List (Nat → Int32)) (hwf : sh_wf w lim f L) (i' : Nat) (hi : i' ≤ L.length) (hlt : L.length < lim) : Met l qy_S_open qw_S_open ({ frames := 1, cells := 0, slots := 0, locals := 60 }) (mk_mu [.ref h, .int (nI i')] sz (dC, dI) vwCl [(cA, .int)] (wS h b cA w lim L.length f)) (mk_muQ (S := List (Nat → Int32) × (Nat → Int32)) (fun r u => r = 1 ∧ u.1 = L.take i' ++ (fun j => f (i' * w + j)) :: L.drop i' ∧ sh_ok w u.2 u.1) (fun u => wS h b cA w lim u.1.length u.2) (dC, dI) vwCl [(cA, .int)] (va_A (wS h b cA w lim L.length f) sz)) 0 0 (va_A (wS h b cA w lim L.length f) sz) := by
  refine Met.ofW (cc := qb_S_open) (maxL := 3) (ret := (some .boolean)) (by decide) rfl ?_
  intro p e s m args below meth c s₁ B hml hpre
  obtain ⟨rfl, hsz, hP, hK, hD0⟩ := hpre
  have hx := B.exec
  have hb := B.bytes
  have hr := B.returns
  have hts0 := atoms_spec (ws := qw_S_open) B.pre
  have hts := fun w (h : w ∈ lw_gd) => hts0 w (List.mem_cons_of_mem _ h)
  have hown : s.vm.findClass qR_S = some m.cls := findClass_of_methodNamed B.named
  have hlocks := B.notSynchronized
  subst hsz
  have hD := hD0.self (sz := s.heap.size)
  generalize hAe : va_A (wS h b cA w lim L.length f) s.heap.size = A at hD ⊢
  have hA : ∀ q : Nat, s.heap.size ≤ q → A q := fun q h => by rw [← hAe]; exact Or.inr h
  have hS : va_S A s.heap s.heap [] := va_S.rf
  have hl := lv_entry ([.ref h, .int (nI i')]) (n := 3) (Nat.le_of_ble_eq_true rfl)
  rw [lg_entry_eq]
  generalize (lg_sl ([.ref h, .int (nI i')]) ++ List.replicate (3 - (lg_sl ([.ref h, .int (nI i')])).length) Slot.unset).toArray = ls at hl ⊢
  have hl : lv_has ls 3 [(0, .ref h), (1, .int (nI i'))] := hl
  have hP : va_P (dC, dI) vwCl (wS h b cA w lim L.length f) s.heap := hP
  refine mk_start (A := A) hP (fun H locs hP hS => ?_)
  obtain ⟨hok, hlen, hwl, hw1, hl1⟩ := hwf
  have e1 : i' * w ≤ L.length * w := Nat.mul_le_mul_right w hi
  have e2 : L.length * w + w ≤ lim * w := sh_step hlt
  have e3 : (L.length - i') * w = L.length * w - i' * w := Nat.sub_mul _ _ _
  have e4 : w * lim = lim * w := Nat.mul_comm _ _
  refine lv_iload_n hx hb qd_S_open_0 rfl (lv_at hl 1 rfl) ?_
  refine lv_if_lt (tgt := 23) hx hb qd_S_open_1 (by decide) (fun c_1 => ?_) (fun c_1 => ?_)
  · exact absurd c_1 (nI_pos (by omega))
  · refine lv_iload_n hx hb qd_S_open_4 rfl (lv_at hl 1 rfl) ?_
    refine lv_aload_n hx hb qd_S_open_5 rfl (lv_at hl 0 rfl) ?_
    refine va_get (D := (dC, dI)) (ci := 4) (v := .int (nI L.length)) (C := qR_S) (T := qT_S) (N := 4) hx hb hts qin_S hown hK hP 0 rfl rfl 3 (by decide) (hts _ mw_69) (fun _ h9 => h9) rfl qd_S_open_6 ?_
    refine lv_icmp_gt (tgt := 23) hx hb qd_S_open_9 (by decide) (fun c_2 => ?_) (fun c_2 => ?_)
    · exact absurd c_2 (nI_nlt hi (by omega))
    · refine lv_aload_n hx hb qd_S_open_12 rfl (lv_at hl 0 rfl) ?_
      refine va_get (D := (dC, dI)) (ci := 4) (v := .int (nI L.length)) (C := qR_S) (T := qT_S) (N := 4) hx hb hts qin_S hown hK hP 0 rfl rfl 3 (by decide) (hts _ mw_69) (fun _ h9 => h9) rfl qd_S_open_13 ?_
      refine lv_aload_n hx hb qd_S_open_16 rfl (lv_at hl 0 rfl) ?_
      refine va_get (D := (dC, dI)) (ci := 4) (v := .int (nI lim)) (C := qR_S) (T := qT_S) (N := 4) hx hb hts qin_S hown hK hP 0 rfl rfl 1 (by decide) (hts _ mw_67) (fun _ h9 => h9) rfl qd_S_open_17 ?_
      refine lv_icmp_lt (tgt := 25) hx hb qd_S_open_20 (by decide) (fun c_3 => ?_) (fun c_3 => ?_)
      · refine lv_iload_n hx hb qd_S_open_25 rfl (lv_at hl 1 rfl) ?_
        refine lv_aload_n hx hb qd_S_open_26 rfl (lv_at hl 0 rfl) ?_
        refine va_get (D := (dC, dI)) (ci := 4) (v := .int (nI w)) (C := qR_S) (T := qT_S) (N := 4) hx hb hts qin_S hown hK hP 0 rfl rfl 0 (by decide) (hts _ mw_66) (fun _ h9 => h9) rfl qd_S_open_27 ?_
        refine lv_imul hx hb qd_S_open_30 ?_
        refine mk_rw (y := nI (i' * w)) (pk_mul _ _) ?_
        refine lv_istore_n (lv' := [(2, .int (nI (i' * w))), (0, .ref h), (1, .int (nI i'))]) hx hb qd_S_open_31 rfl hl (by decide) rfl (fun ls hl => ?_)
        refine lv_aload_n hx hb qd_S_open_32 rfl (lv_at hl 1 rfl) ?_
        refine va_get (D := (dC, dI)) (ci := 4) (v := .ref b) (C := qR_S) (T := qT_S) (N := 4) hx hb hts qin_S hown hK hP 0 rfl rfl 2 (by decide) (hts _ mw_68) (fun _ h9 => h9) rfl qd_S_open_33 ?_
        refine lv_iload_n hx hb qd_S_open_36 rfl (lv_at hl 0 rfl) ?_
        refine lv_aload_n hx hb qd_S_open_37 rfl (lv_at hl 1 rfl) ?_
        refine va_get (D := (dC, dI)) (ci := 4) (v := .ref b) (C := qR_S) (T := qT_S) (N := 4) hx hb hts qin_S hown hK hP 0 rfl rfl 2 (by decide) (hts _ mw_68) (fun _ h9 => h9) rfl qd_S_open_38 ?_
        refine lv_iload_n hx hb qd_S_open_41 rfl (lv_at hl 0 rfl) ?_
        refine lv_aload_n hx hb qd_S_open_42 rfl (lv_at hl 1 rfl) ?_
        refine va_get (D := (dC, dI)) (ci := 4) (v := .int (nI w)) (C := qR_S) (T := qT_S) (N := 4) hx hb hts qin_S hown hK hP 0 rfl rfl 0 (by decide) (hts _ mw_66) (fun _ h9 => h9) rfl qd_S_open_43 ?_
        refine lv_iadd hx hb qd_S_open_46 ?_
        refine mk_rw (y := nI (i' * w + w)) (nI_add _ _) ?_
        refine lv_aload_n hx hb qd_S_open_47 rfl (lv_at hl 1 rfl) ?_
        refine va_get (D := (dC, dI)) (ci := 4) (v := .int (nI L.length)) (C := qR_S) (T := qT_S) (N := 4) hx hb hts qin_S hown hK hP 0 rfl rfl 3 (by decide) (hts _ mw_69) (fun _ h9 => h9) rfl qd_S_open_48 ?_
        refine lv_iload_n hx hb qd_S_open_51 rfl (lv_at hl 2 rfl) ?_
        refine lv_isub hx hb qd_S_open_52 ?_
        refine lv_aload_n hx hb qd_S_open_53 rfl (lv_at hl 1 rfl) ?_
        refine va_get (D := (dC, dI)) (ci := 4) (v := .int (nI w)) (C := qR_S) (T := qT_S) (N := 4) hx hb hts qin_S hown hK hP 0 rfl rfl 0 (by decide) (hts _ mw_66) (fun _ h9 => h9) rfl qd_S_open_54 ?_
        refine lv_imul hx hb qd_S_open_57 ?_
        refine mk_rw (y := nI ((L.length - i') * w)) (by rw [pk_sub hi, pk_mul]) ?_
        refine va_copyi (sp := nI (i' * w)) (dp := nI (i' * w + w)) (n := nI ((L.length - i') * w)) (ty := .int) hx hb (hml.trans hl.1.symm) hown (hts _ mw_233) (hts _ mw_235) (hts _ mw_234) (hts _ mw_42) hK hP hD hS 1 1 0 0 rfl rfl rfl rfl rfl (nI_pos (by omega)) (nI_pos (by omega)) (nI_pos (by omega)) (by rw [nI_clamp (by omega), nI_clamp (by omega)]; omega) (by rw [nI_clamp (by omega), nI_clamp (by omega)]; omega) (fun _ _ => rfl) (Nat.le_of_ble_eq_true rfl) (Nat.le_of_ble_eq_true rfl) qd_S_open_58 (fun H locs hP hD hS => ?_)
        rw [show (nI (i' * w)).toNatClampNeg = i' * w from nI_clamp (by omega), show (nI (i' * w + w)).toNatClampNeg = i' * w + w from nI_clamp (by omega), show (nI ((L.length - i') * w)).toNatClampNeg = (L.length - i') * w from nI_clamp (by omega)] at hP hD
        have hP : va_P (dC, dI) vwCl (wS h b cA w lim L.length (va_cpy f f (i' * w) (i' * w + w) ((L.length - i') * w))) H := hP
        have hD : va_D A (wS h b cA w lim L.length (va_cpy f f (i' * w) (i' * w + w) ((L.length - i') * w))) := hD
        refine lv_aload_n hx hb qd_S_open_61 rfl (lv_at hl 1 rfl) ?_
        refine lv_dup hx hb qd_S_open_62 rfl ?_
        refine va_get (D := (dC, dI)) (ci := 4) (v := .int (nI L.length)) (C := qR_S) (T := qT_S) (N := 4) hx hb hts qin_S hown hK hP 0 rfl rfl 3 (by decide) (hts _ mw_69) (fun _ h9 => h9) rfl qd_S_open_63 ?_
        refine lv_iconst (v := 1) hx hb qd_S_open_66 (by decide) ?_
        refine lv_iadd hx hb qd_S_open_67 ?_
        refine mk_rw (y := nI (L.length + 1)) (nI_1 _) ?_
        refine va_put (D := (dC, dI)) (ci := 4) (v := .int (nI (L.length + 1))) (ty := .int) (C := qR_S) (T := qT_S) (N := 4) hx hb hts qin_S qty_S qtyok_S qnm_S hown hK hP hD hS 0 rfl rfl 3 (by decide) (hts _ mw_69) (fun _ h9 => h9) rfl (by decide +kernel) rfl rfl (Nat.le_of_ble_eq_true rfl) qd_S_open_68 (fun H locs hP hD hS => ?_)
        have hP : va_P (dC, dI) vwCl (wS h b cA w lim (L.length + 1) (va_cpy f f (i' * w) (i' * w + w) ((L.length - i') * w))) H := hP
        have hD : va_D A (wS h b cA w lim (L.length + 1) (va_cpy f f (i' * w) (i' * w + w) ((L.length - i') * w))) := hD
        refine lv_iconst (v := 1) hx hb qd_S_open_71 (by decide) ?_
        have hP : va_P (dC, dI) vwCl (wS h b cA w lim (L.take i' ++ (fun j => f (i' * w + j)) :: L.drop i').length (va_cpy f f (i' * w) (i' * w + w) ((L.length - i') * w))) H := by rw [ls_ins_len hi]; exact hP
        have hD : va_D A (wS h b cA w lim (L.take i' ++ (fun j => f (i' * w + j)) :: L.drop i').length (va_cpy f f (i' * w) (i' * w + w) ((L.length - i') * w))) := by rw [ls_ins_len hi]; exact hD
        exact mk_mzret ((L.take i' ++ (fun j => f (i' * w + j)) :: L.drop i'), (va_cpy f f (i' * w) (i' * w + w) ((L.length - i') * w))) hx hb hr hlocks hP hK hD hS qd_S_open_72 (by decide) (⟨rfl, rfl, sh_ok_open hok hi⟩)
      · exact absurd (nI_lt hlt (by omega)) c_3
set_option maxHeartbeats 4000000 in
set_option maxRecDepth 100000 in
/-- drop(line), the line there -/
theorem c_Sh_drop (l : Launch) (dC : Nat → ClassId) (dI : Nat → Nat → Nat) (cA : ClassId) (sz : Nat) (h b w lim : Nat) (f : Nat → Int32) (L : List (Nat → Int32)) (hwf : sh_wf w lim f L) (i' : Nat) (hi : i' < L.length) : Met l qy_S_drop qw_S_drop ({ frames := 1, cells := 0, slots := 0, locals := 60 }) (mk_mu [.ref h, .int (nI i')] sz (dC, dI) vwCl [(cA, .int)] (wS h b cA w lim L.length f)) (mk_muV (S := List (Nat → Int32) × (Nat → Int32)) (fun u => u.1 = L.eraseIdx i' ∧ sh_ok w u.2 u.1) (fun u => wS h b cA w lim u.1.length u.2) (dC, dI) vwCl [(cA, .int)] (va_A (wS h b cA w lim L.length f) sz)) 0 0 (va_A (wS h b cA w lim L.length f) sz) := by
  refine Met.ofW (cc := qb_S_drop) (maxL := 3) (ret := none) (by decide) rfl ?_
  intro p e s m args below meth c s₁ B hml hpre
  obtain ⟨rfl, hsz, hP, hK, hD0⟩ := hpre
  have hx := B.exec
  have hb := B.bytes
  have hr := B.returns
  have hts0 := atoms_spec (ws := qw_S_drop) B.pre
  have hts := fun w (h : w ∈ lw_gd) => hts0 w (List.mem_cons_of_mem _ h)
  have hown : s.vm.findClass qR_S = some m.cls := findClass_of_methodNamed B.named
  have hlocks := B.notSynchronized
  subst hsz
  have hD := hD0.self (sz := s.heap.size)
  generalize hAe : va_A (wS h b cA w lim L.length f) s.heap.size = A at hD ⊢
  have hA : ∀ q : Nat, s.heap.size ≤ q → A q := fun q h => by rw [← hAe]; exact Or.inr h
  have hS : va_S A s.heap s.heap [] := va_S.rf
  have hl := lv_entry ([.ref h, .int (nI i')]) (n := 3) (Nat.le_of_ble_eq_true rfl)
  rw [lg_entry_eq]
  generalize (lg_sl ([.ref h, .int (nI i')]) ++ List.replicate (3 - (lg_sl ([.ref h, .int (nI i')])).length) Slot.unset).toArray = ls at hl ⊢
  have hl : lv_has ls 3 [(0, .ref h), (1, .int (nI i'))] := hl
  have hP : va_P (dC, dI) vwCl (wS h b cA w lim L.length f) s.heap := hP
  refine mk_start (A := A) hP (fun H locs hP hS => ?_)
  obtain ⟨hok, hlen, hwl, hw1, hl1⟩ := hwf
  have e1 : (i' + 1) * w = i' * w + w := by rw [Nat.add_mul, Nat.one_mul]
  have e2 : (i' + 1) * w ≤ L.length * w := Nat.mul_le_mul_right w hi
  have e3 : L.length * w ≤ lim * w := Nat.mul_le_mul_right w hlen
  have e4 : w * lim = lim * w := Nat.mul_comm _ _
  refine lv_iload_n hx hb qd_S_drop_0 rfl (lv_at hl 1 rfl) ?_
  refine lv_if_lt (tgt := 12) hx hb qd_S_drop_1 (by decide) (fun c_1 => ?_) (fun c_1 => ?_)
  · exact absurd c_1 (nI_pos (by omega))
  · refine lv_iload_n hx hb qd_S_drop_4 rfl (lv_at hl 1 rfl) ?_
    refine lv_aload_n hx hb qd_S_drop_5 rfl (lv_at hl 0 rfl) ?_
    refine va_get (D := (dC, dI)) (ci := 4) (v := .int (nI L.length)) (C := qR_S) (T := qT_S) (N := 4) hx hb hts qin_S hown hK hP 0 rfl rfl 3 (by decide) (hts _ mw_69) (fun _ h9 => h9) rfl qd_S_drop_6 ?_
    refine lv_icmp_lt (tgt := 13) hx hb qd_S_drop_9 (by decide) (fun c_2 => ?_) (fun c_2 => ?_)
    · refine lv_iload_n hx hb qd_S_drop_13 rfl (lv_at hl 1 rfl) ?_
      refine lv_iconst (v := 1) hx hb qd_S_drop_14 (by decide) ?_
      refine lv_iadd hx hb qd_S_drop_15 ?_
      refine lv_aload_n hx hb qd_S_drop_16 rfl (lv_at hl 0 rfl) ?_
      refine va_get (D := (dC, dI)) (ci := 4) (v := .int (nI w)) (C := qR_S) (T := qT_S) (N := 4) hx hb hts qin_S hown hK hP 0 rfl rfl 0 (by decide) (hts _ mw_66) (fun _ h9 => h9) rfl qd_S_drop_17 ?_
      refine lv_imul hx hb qd_S_drop_20 ?_
      refine mk_rw (y := nI ((i' + 1) * w)) (by rw [nI_1, pk_mul]) ?_
      refine lv_istore_n (lv' := [(2, .int (nI ((i' + 1) * w))), (0, .ref h), (1, .int (nI i'))]) hx hb qd_S_drop_21 rfl hl (by decide) rfl (fun ls hl => ?_)
      refine lv_aload_n hx hb qd_S_drop_22 rfl (lv_at hl 1 rfl) ?_
      refine va_get (D := (dC, dI)) (ci := 4) (v := .ref b) (C := qR_S) (T := qT_S) (N := 4) hx hb hts qin_S hown hK hP 0 rfl rfl 2 (by decide) (hts _ mw_68) (fun _ h9 => h9) rfl qd_S_drop_23 ?_
      refine lv_iload_n hx hb qd_S_drop_26 rfl (lv_at hl 0 rfl) ?_
      refine lv_aload_n hx hb qd_S_drop_27 rfl (lv_at hl 1 rfl) ?_
      refine va_get (D := (dC, dI)) (ci := 4) (v := .ref b) (C := qR_S) (T := qT_S) (N := 4) hx hb hts qin_S hown hK hP 0 rfl rfl 2 (by decide) (hts _ mw_68) (fun _ h9 => h9) rfl qd_S_drop_28 ?_
      refine lv_iload_n hx hb qd_S_drop_31 rfl (lv_at hl 0 rfl) ?_
      refine lv_aload_n hx hb qd_S_drop_32 rfl (lv_at hl 1 rfl) ?_
      refine va_get (D := (dC, dI)) (ci := 4) (v := .int (nI w)) (C := qR_S) (T := qT_S) (N := 4) hx hb hts qin_S hown hK hP 0 rfl rfl 0 (by decide) (hts _ mw_66) (fun _ h9 => h9) rfl qd_S_drop_33 ?_
      refine lv_isub hx hb qd_S_drop_36 ?_
      refine mk_rw (y := nI (i' * w)) (by rw [pk_sub (by omega)]; congr 1; omega) ?_
      refine lv_aload_n hx hb qd_S_drop_37 rfl (lv_at hl 1 rfl) ?_
      refine va_get (D := (dC, dI)) (ci := 4) (v := .int (nI L.length)) (C := qR_S) (T := qT_S) (N := 4) hx hb hts qin_S hown hK hP 0 rfl rfl 3 (by decide) (hts _ mw_69) (fun _ h9 => h9) rfl qd_S_drop_38 ?_
      refine lv_aload_n hx hb qd_S_drop_41 rfl (lv_at hl 1 rfl) ?_
      refine va_get (D := (dC, dI)) (ci := 4) (v := .int (nI w)) (C := qR_S) (T := qT_S) (N := 4) hx hb hts qin_S hown hK hP 0 rfl rfl 0 (by decide) (hts _ mw_66) (fun _ h9 => h9) rfl qd_S_drop_42 ?_
      refine lv_imul hx hb qd_S_drop_45 ?_
      refine lv_iload_n hx hb qd_S_drop_46 rfl (lv_at hl 0 rfl) ?_
      refine lv_isub hx hb qd_S_drop_47 ?_
      refine mk_rw (y := nI (L.length * w - (i' + 1) * w)) (by rw [pk_mul, pk_sub (by omega)]) ?_
      refine va_copyi (sp := nI ((i' + 1) * w)) (dp := nI (i' * w)) (n := nI (L.length * w - (i' + 1) * w)) (ty := .int) hx hb (hml.trans hl.1.symm) hown (hts _ mw_233) (hts _ mw_235) (hts _ mw_234) (hts _ mw_42) hK hP hD hS 1 1 0 0 rfl rfl rfl rfl rfl (nI_pos (by omega)) (nI_pos (by omega)) (nI_pos (by omega)) (by rw [nI_clamp (by omega), nI_clamp (by omega)]; omega) (by rw [nI_clamp (by omega), nI_clamp (by omega)]; omega) (fun _ _ => rfl) (Nat.le_of_ble_eq_true rfl) (Nat.le_of_ble_eq_true rfl) qd_S_drop_48 (fun H locs hP hD hS => ?_)
      rw [show (nI ((i' + 1) * w)).toNatClampNeg = (i' + 1) * w from nI_clamp (by omega), show (nI (i' * w)).toNatClampNeg = i' * w from nI_clamp (by omega), show (nI (L.length * w - (i' + 1) * w)).toNatClampNeg = L.length * w - (i' + 1) * w from nI_clamp (by omega)] at hP hD
      have hP : va_P (dC, dI) vwCl (wS h b cA w lim L.length (va_cpy f f ((i' + 1) * w) (i' * w) (L.length * w - (i' + 1) * w))) H := hP
      have hD : va_D A (wS h b cA w lim L.length (va_cpy f f ((i' + 1) * w) (i' * w) (L.length * w - (i' + 1) * w))) := hD
      refine lv_aload_n hx hb qd_S_drop_51 rfl (lv_at hl 1 rfl) ?_
      refine lv_dup hx hb qd_S_drop_52 rfl ?_
      refine va_get (D := (dC, dI)) (ci := 4) (v := .int (nI L.length)) (C := qR_S) (T := qT_S) (N := 4) hx hb hts qin_S hown hK hP 0 rfl rfl 3 (by decide) (hts _ mw_69) (fun _ h9 => h9) rfl qd_S_drop_53 ?_
      refine lv_iconst (v := 1) hx hb qd_S_drop_56 (by decide) ?_
      refine lv_isub hx hb qd_S_drop_57 ?_
      refine mk_rw (y := nI (L.length - 1)) (pk_sub (b := 1) (by omega)) ?_
      refine va_put (D := (dC, dI)) (ci := 4) (v := .int (nI (L.length - 1))) (ty := .int) (C := qR_S) (T := qT_S) (N := 4) hx hb hts qin_S qty_S qtyok_S qnm_S hown hK hP hD hS 0 rfl rfl 3 (by decide) (hts _ mw_69) (fun _ h9 => h9) rfl (by decide +kernel) rfl rfl (Nat.le_of_ble_eq_true rfl) qd_S_drop_58 (fun H locs hP hD hS => ?_)
      have hP : va_P (dC, dI) vwCl (wS h b cA w lim (L.length - 1) (va_cpy f f ((i' + 1) * w) (i' * w) (L.length * w - (i' + 1) * w))) H := hP
      have hD : va_D A (wS h b cA w lim (L.length - 1) (va_cpy f f ((i' + 1) * w) (i' * w) (L.length * w - (i' + 1) * w))) := hD
      have hP : va_P (dC, dI) vwCl (wS h b cA w lim (L.eraseIdx i').length (va_cpy f f ((i' + 1) * w) (i' * w) (L.length * w - (i' + 1) * w))) H := by rw [List.length_eraseIdx_of_lt hi]; exact hP
      have hD : va_D A (wS h b cA w lim (L.eraseIdx i').length (va_cpy f f ((i' + 1) * w) (i' * w) (L.length * w - (i' + 1) * w))) := by rw [List.length_eraseIdx_of_lt hi]; exact hD
      exact mk_mvret (L.eraseIdx i', (va_cpy f f ((i' + 1) * w) (i' * w) (L.length * w - (i' + 1) * w))) hx hb hr hlocks hP hK hD hS qd_S_drop_61 (⟨rfl, sh_ok_drop hok hi⟩)
    · exact absurd (nI_lt hi (by omega)) c_2
set_option maxHeartbeats 4000000 in
set_option maxRecDepth 100000 in
/-- clear() -/
theorem c_Sh_clear (l : Launch) (dC : Nat → ClassId) (dI : Nat → Nat → Nat) (cA : ClassId) (sz : Nat) (h b w lim : Nat) (f : Nat → Int32) (L : List (Nat → Int32)) (hwf : sh_wf w lim f L) : Met l qy_S_clear qw_S_clear ({ frames := 0, cells := 0, slots := 0, locals := 0 }) (mk_mu [.ref h] sz (dC, dI) vwCl [(cA, .int)] (wS h b cA w lim L.length f)) (mk_muV (S := List (Nat → Int32) × (Nat → Int32)) (fun u => u.1 = [] ∧ sh_ok w u.2 u.1) (fun u => wS h b cA w lim u.1.length u.2) (dC, dI) vwCl [(cA, .int)] (va_A (wS h b cA w lim L.length f) sz)) 0 0 (va_A (wS h b cA w lim L.length f) sz) := by
  refine Met.ofW (cc := qb_S_clear) (maxL := 1) (ret := none) (by decide) rfl ?_
  intro p e s m args below meth c s₁ B hml hpre
  obtain ⟨rfl, hsz, hP, hK, hD0⟩ := hpre
  have hx := B.exec
  have hb := B.bytes
  have hr := B.returns
  have hts0 := atoms_spec (ws := qw_S_clear) B.pre
  have hts := fun w (h : w ∈ lw_gd) => hts0 w (List.mem_cons_of_mem _ h)
  have hown : s.vm.findClass qR_S = some m.cls := findClass_of_methodNamed B.named
  have hlocks := B.notSynchronized
  subst hsz
  have hD := hD0.self (sz := s.heap.size)
  generalize hAe : va_A (wS h b cA w lim L.length f) s.heap.size = A at hD ⊢
  have hA : ∀ q : Nat, s.heap.size ≤ q → A q := fun q h => by rw [← hAe]; exact Or.inr h
  have hS : va_S A s.heap s.heap [] := va_S.rf
  have hl := lv_entry ([.ref h]) (n := 1) (Nat.le_of_ble_eq_true rfl)
  rw [lg_entry_eq]
  generalize (lg_sl ([.ref h]) ++ List.replicate (1 - (lg_sl ([.ref h])).length) Slot.unset).toArray = ls at hl ⊢
  have hl : lv_has ls 1 [(0, .ref h)] := hl
  have hP : va_P (dC, dI) vwCl (wS h b cA w lim L.length f) s.heap := hP
  refine mk_start (A := A) hP (fun H locs hP hS => ?_)
  refine lv_aload_n hx hb qd_S_clear_0 rfl (lv_at hl 0 rfl) ?_
  refine lv_iconst (v := 0) hx hb qd_S_clear_1 (by decide) ?_
  refine mk_rw (y := nI 0) rfl ?_
  refine va_put (D := (dC, dI)) (ci := 4) (v := .int (nI 0)) (ty := .int) (C := qR_S) (T := qT_S) (N := 4) hx hb hts qin_S qty_S qtyok_S qnm_S hown hK hP hD hS 0 rfl rfl 3 (by decide) (hts _ mw_69) (fun _ h9 => h9) rfl (by decide +kernel) rfl rfl (Nat.le_of_ble_eq_true rfl) qd_S_clear_2 (fun H locs hP hD hS => ?_)
  have hP : va_P (dC, dI) vwCl (wS h b cA w lim 0 f) H := hP
  have hD : va_D A (wS h b cA w lim 0 f) := hD
  exact mk_mvret ([], f) hx hb hr hlocks hP hK hD hS qd_S_clear_5 (⟨rfl, fun i r h => by simp at h⟩)
end
section
set_option maxHeartbeats 4000000 in
set_option maxRecDepth 100000 in
/-- size() -/
theorem c_V_size (l : Launch) (dC : Nat → ClassId) (dI : Nat → Nat → Nat) (cA : ClassId) (sz : Nat) (vo h b : Nat) (f : Nat → Int32) (L : List (Nat → Int32)) (hwf : sh_wf 3 160 f L) : Met l qy_V_size qw_V_size ({ frames := 1, cells := 0, slots := 0, locals := 20 }) (mk_ro [.ref vo] sz (dC, dI) vwCl [(cA, .int)] (wV vo h b cA L.length f)) (mk_roQ (fun r => r = nI L.length) sz) 0 0 (mk_new sz) := by
  refine Met.ofW (cc := qb_V_size) (maxL := 1) (ret := (some .int)) (by decide) rfl ?_
  intro p e s m args below meth c s₁ B hml hpre
  obtain ⟨rfl, hsz, hP, hK⟩ := hpre
  have hx := B.exec
  have hb := B.bytes
  have hr := B.returns
  have hts0 := atoms_spec (ws := qw_V_size) B.pre
  have hts := fun w (h : w ∈ lw_gd) => hts0 w (List.mem_cons_of_mem _ h)
  have hown : s.vm.findClass qR_V = some m.cls := findClass_of_methodNamed B.named
  have hlocks := B.notSynchronized
  subst hsz
  have hA : ∀ q : Nat, s.heap.size ≤ q → mk_new s.heap.size q := fun _ h => h
  have hS : va_S (mk_new s.heap.size) s.heap s.heap [] := va_S.rf
  have hl := lv_entry ([.ref vo]) (n := 1) (Nat.le_of_ble_eq_true rfl)
  rw [lg_entry_eq]
  generalize (lg_sl ([.ref vo]) ++ List.replicate (1 - (lg_sl ([.ref vo])).length) Slot.unset).toArray = ls at hl ⊢
  have hl : lv_has ls 1 [(0, .ref vo)] := hl
  have hP : va_P (dC, dI) vwCl (wV vo h b cA L.length f) s.heap := hP
  refine mk_start (A := (mk_new s.heap.size)) hP (fun H locs hP hS => ?_)
  refine lv_aload_n hx hb qd_V_size_0 rfl (lv_at hl 0 rfl) ?_
  refine va_get (D := (dC, dI)) (ci := 5) (v := .ref h) (C := qR_V) (T := qT_V) (N := 1) hx hb hts qin_V hown hK hP 0 rfl rfl 0 (by decide) (hts _ mw_80) (fun _ h9 => h9) rfl qd_V_size_1 ?_
  refine mk_calli (va_runV (As := []) (rest := []) ⟨hx, hb, hml, hown, hts⟩ (c_Sh_size l dC dI cA H.size h b 3 160 f L hwf) (cwV 0 hts gc_V_20 rfl rfl rfl (by decide +kernel) ⟨Nat.le_of_ble_eq_true rfl, Nat.le_of_ble_eq_true rfl⟩) (mk_roV hP [1, 2] rfl hK (va_recv hK hP (ci := 4) (q0 := 1) rfl rfl)) rfl rfl hl.1 rfl (lv_room (Nat.le_of_ble_eq_true rfl)) qd_V_size_4 ⟨(Nat.zero_le _), (Nat.zero_le _)⟩) hS hA hP (fun r_1 H locs hr_1 hP hS => ?_)
  obtain rfl : r_1 = nI L.length := hr_1
  exact mk_iret hx hb hr hlocks hS qd_V_size_7 (rfl)
set_option maxHeartbeats 4000000 in
set_option maxRecDepth 100000 in
/-- get(line, column) -/
theorem c_V_get (l : Launch) (dC : Nat → ClassId) (dI : Nat → Nat → Nat) (cA : ClassId) (sz : Nat) (vo h b : Nat) (f : Nat → Int32) (L : List (Nat → Int32)) (hwf : sh_wf 3 160 f L) (i j : Int32) : Met l qy_V_get qw_V_get ({ frames := 1, cells := 0, slots := 0, locals := 22 }) (mk_ro [.ref vo, .int i, .int j] sz (dC, dI) vwCl [(cA, .int)] (wV vo h b cA L.length f)) (mk_roQ (fun r => r = sh_get 3 L i j) sz) 0 0 (mk_new sz) := by
  refine Met.ofW (cc := qb_V_get) (maxL := 3) (ret := (some .int)) (by decide) rfl ?_
  intro p e s m args below meth c s₁ B hml hpre
  obtain ⟨rfl, hsz, hP, hK⟩ := hpre
  have hx := B.exec
  have hb := B.bytes
  have hr := B.returns
  have hts0 := atoms_spec (ws := qw_V_get) B.pre
  have hts := fun w (h : w ∈ lw_gd) => hts0 w (List.mem_cons_of_mem _ h)
  have hown : s.vm.findClass qR_V = some m.cls := findClass_of_methodNamed B.named
  have hlocks := B.notSynchronized
  subst hsz
  have hA : ∀ q : Nat, s.heap.size ≤ q → mk_new s.heap.size q := fun _ h => h
  have hS : va_S (mk_new s.heap.size) s.heap s.heap [] := va_S.rf
  have hl := lv_entry ([.ref vo, .int i, .int j]) (n := 3) (Nat.le_of_ble_eq_true rfl)
  rw [lg_entry_eq]
  generalize (lg_sl ([.ref vo, .int i, .int j]) ++ List.replicate (3 - (lg_sl ([.ref vo, .int i, .int j])).length) Slot.unset).toArray = ls at hl ⊢
  have hl : lv_has ls 3 [(0, .ref vo), (1, .int i), (2, .int j)] := hl
  have hP : va_P (dC, dI) vwCl (wV vo h b cA L.length f) s.heap := hP
  refine mk_start (A := (mk_new s.heap.size)) hP (fun H locs hP hS => ?_)
  refine lv_aload_n hx hb qd_V_get_0 rfl (lv_at hl 0 rfl) ?_
  refine va_get (D := (dC, dI)) (ci := 5) (v := .ref h) (C := qR_V) (T := qT_V) (N := 1) hx hb hts qin_V hown hK hP 0 rfl rfl 0 (by decide) (hts _ mw_80) (fun _ h9 => h9) rfl qd_V_get_1 ?_
  refine lv_iload_n hx hb qd_V_get_4 rfl (lv_at hl 1 rfl) ?_
  refine lv_iload_n hx hb qd_V_get_5 rfl (lv_at hl 2 rfl) ?_
  refine mk_calli (va_runV (As := [.int i, .int j]) (rest := []) ⟨hx, hb, hml, hown, hts⟩ (c_Sh_get l dC dI cA H.size h b 3 160 f L hwf i j) (cwV 2 hts gc_V_24 rfl rfl rfl (by decide +kernel) ⟨Nat.le_of_ble_eq_true rfl, Nat.le_of_ble_eq_true rfl⟩) (mk_roV hP [1, 2] rfl hK (va_recv hK hP (ci := 4) (q0 := 1) rfl rfl)) rfl rfl hl.1 rfl (lv_room (Nat.le_of_ble_eq_true rfl)) qd_V_get_6 ⟨(Nat.zero_le _), (Nat.zero_le _)⟩) hS hA hP (fun r_1 H locs hr_1 hP hS => ?_)
  obtain rfl : r_1 = sh_get 3 L i j := hr_1
  exact mk_iret hx hb hr hlocks hS qd_V_get_9 (rfl)
set_option maxHeartbeats 4000000 in
set_option maxRecDepth 100000 in
/-- drop(line) -/
theorem c_V_drop (l : Launch) (dC : Nat → ClassId) (dI : Nat → Nat → Nat) (cA : ClassId) (sz : Nat) (vo h b : Nat) (f : Nat → Int32) (L : List (Nat → Int32)) (hwf : sh_wf 3 160 f L) (i' : Nat) (hi : i' < L.length) : Met l qy_V_drop qw_V_drop ({ frames := 2, cells := 0, slots := 0, locals := 82 }) (mk_mu [.ref vo, .int (nI i')] sz (dC, dI) vwCl [(cA, .int)] (wV vo h b cA L.length f)) (mk_muV (S := List (Nat → Int32) × (Nat → Int32)) (fun u => u.1 = L.eraseIdx i' ∧ sh_ok 3 u.2 u.1) (fun u => wV vo h b cA u.1.length u.2) (dC, dI) vwCl [(cA, .int)] (va_A (wV vo h b cA L.length f) sz)) 0 0 (va_A (wV vo h b cA L.length f) sz) := by
  refine Met.ofW (cc := qb_V_drop) (maxL := 2) (ret := none) (by decide) rfl ?_
  intro p e s m args below meth c s₁ B hml hpre
  obtain ⟨rfl, hsz, hP, hK, hD0⟩ := hpre
  have hx := B.exec
  have hb := B.bytes
  have hr := B.returns
  have hts0 := atoms_spec (ws := qw_V_drop) B.pre
  have hts := fun w (h : w ∈ lw_gd) => hts0 w (List.mem_cons_of_mem _ h)
  have hown : s.vm.findClass qR_V = some m.cls := findClass_of_methodNamed B.named
  have hlocks := B.notSynchronized
  subst hsz
  have hD := hD0.self (sz := s.heap.size)
  generalize hAe : va_A (wV vo h b cA L.length f) s.heap.size = A at hD ⊢
  have hA : ∀ q : Nat, s.heap.size ≤ q → A q := fun q h => by rw [← hAe]; exact Or.inr h
  have hS : va_S A s.heap s.heap [] := va_S.rf
  have hl := lv_entry ([.ref vo, .int (nI i')]) (n := 2) (Nat.le_of_ble_eq_true rfl)
  rw [lg_entry_eq]
  generalize (lg_sl ([.ref vo, .int (nI i')]) ++ List.replicate (2 - (lg_sl ([.ref vo, .int (nI i')])).length) Slot.unset).toArray = ls at hl ⊢
  have hl : lv_has ls 2 [(0, .ref vo), (1, .int (nI i'))] := hl
  have hP : va_P (dC, dI) vwCl (wV vo h b cA L.length f) s.heap := hP
  refine mk_start (A := A) hP (fun H locs hP hS => ?_)
  refine lv_aload_n hx hb qd_V_drop_0 rfl (lv_at hl 0 rfl) ?_
  refine va_get (D := (dC, dI)) (ci := 5) (v := .ref h) (C := qR_V) (T := qT_V) (N := 1) hx hb hts qin_V hown hK hP 0 rfl rfl 0 (by decide) (hts _ mw_80) (fun _ h9 => h9) rfl qd_V_drop_1 ?_
  refine lv_iload_n hx hb qd_V_drop_4 rfl (lv_at hl 1 rfl) ?_
  refine mk_mcallv (wr := [(vo, .inr (5, [.ref h]))]) (wf := (fun u => wV vo h b cA u.1.length u.2)) (va_runV (As := [.int (nI i')]) (rest := []) ⟨hx, hb, hml, hown, hts⟩ (c_Sh_drop l dC dI cA H.size h b 3 160 f L hwf i' hi) (cwV 1 hts gc_V_28 rfl rfl rfl (by decide +kernel) ⟨Nat.le_of_ble_eq_true rfl, Nat.le_of_ble_eq_true rfl⟩) (mk_muP hP hD [1, 2] (by decide) rfl hK (va_recv hK hP (ci := 4) (q0 := 1) rfl rfl)) rfl rfl hl.1 rfl (lv_room (Nat.le_of_ble_eq_true rfl)) qd_V_drop_5 ⟨(Nat.zero_le _), (Nat.zero_le _)⟩) hS hA hP hD [1, 2] [0] [0, 1, 2] rfl rfl (by decide) (by decide) (by decide) (fun _ => rfl) (fun u_2 H locs hu_2 hP hD hS => ?_)
  obtain ⟨L1, f1⟩ := u_2
  obtain ⟨rfl, hok1⟩ : L1 = L.eraseIdx i' ∧ sh_ok 3 f1 L1 := hu_2
  have hP : va_P (dC, dI) vwCl (wV vo h b cA ((L.eraseIdx i').length) f1) H := hP
  have hD : va_D A (wV vo h b cA ((L.eraseIdx i').length) f1) := hD
  exact mk_mvret (L.eraseIdx i', f1) hx hb hr hlocks hP hK hD hS qd_V_drop_8 (⟨rfl, hok1⟩)
set_option maxHeartbeats 4000000 in
set_option maxRecDepth 100000 in
/-- linesUpTo(place, from), where the lines are in order -/
theorem c_V_linesUpTo (l : Launch) (dC : Nat → ClassId) (dI : Nat → Nat → Nat) (cA : ClassId) (sz : Nat) (vo h b : Nat) (f : Nat → Int32) (L : List (Nat → Int32)) (hwf : sh_wf 3 160 f L) (pl fr : Int32) (k : Nat) (hcut : vs_cut L pl fr k) : Met l qy_V_linesUpTo qw_V_linesUpTo ({ frames := 1, cells := 0, slots := 0, locals := 22 }) (mk_ro [.ref vo, .int pl, .int fr] sz (dC, dI) vwCl [(cA, .int)] (wV vo h b cA L.length f)) (mk_roQ (fun r => r = nI k) sz) 0 0 (mk_new sz) := by
  refine Met.ofW (cc := qb_V_linesUpTo) (maxL := 8) (ret := (some .int)) (by decide) rfl ?_
  intro p e s m args below meth c s₁ B hml hpre
  obtain ⟨rfl, hsz, hP, hK⟩ := hpre
  have hx := B.exec
  have hb := B.bytes
  have hr := B.returns
  have hts0 := atoms_spec (ws := qw_V_linesUpTo) B.pre
  have hts := fun w (h : w ∈ lw_gd) => hts0 w (List.mem_cons_of_mem _ h)
  have hown : s.vm.findClass qR_V = some m.cls := findClass_of_methodNamed B.named
  have hlocks := B.notSynchronized
  subst hsz
  have hA : ∀ q : Nat, s.heap.size ≤ q → mk_new s.heap.size q := fun _ h => h
  have hS : va_S (mk_new s.heap.size) s.heap s.heap [] := va_S.rf
  have hl := lv_entry ([.ref vo, .int pl, .int fr]) (n := 8) (Nat.le_of_ble_eq_true rfl)
  rw [lg_entry_eq]
  generalize (lg_sl ([.ref vo, .int pl, .int fr]) ++ List.replicate (8 - (lg_sl ([.ref vo, .int pl, .int fr])).length) Slot.unset).toArray = ls at hl ⊢
  have hl : lv_has ls 8 [(0, .ref vo), (1, .int pl), (2, .int fr)] := hl
  have hP : va_P (dC, dI) vwCl (wV vo h b cA L.length f) s.heap := hP
  refine mk_start (A := (mk_new s.heap.size)) hP (fun H locs hP hS => ?_)
  obtain ⟨hok, hlen, -, -, -⟩ := id hwf
  have hkl := hcut.1
  refine lv_iconst (v := 0) hx hb qd_V_linesUpTo_0 (by decide) ?_
  refine mk_rw (y := nI 0) (rfl) ?_
  refine lv_istore_n (lv' := [(3, .int (nI 0)), (0, .ref vo), (1, .int pl), (2, .int fr)]) hx hb qd_V_linesUpTo_1 rfl hl (by decide) rfl (fun ls hl => ?_)
  refine lv_sipush (v := 128) hx hb qd_V_linesUpTo_2 (by decide) ?_
  refine mk_rw (y := nI (vs_st 8)) (rfl) ?_
  refine lv_istore (lv' := [(4, .int (nI (vs_st 8))), (3, .int (nI 0)), (0, .ref vo), (1, .int pl), (2, .int fr)]) hx hb qd_V_linesUpTo_5 hl (by decide) rfl (fun ls hl => ?_)
  refine mk_loop (σ := Nat) (fun n y9 H locs ls => (y9 ≤ k ∧ k < y9 + 2 ^ n ∧ n ≤ 8) ∧ va_P (dC, dI) vwCl (wV vo h b cA L.length f) H ∧ va_S (mk_new s.heap.size) s.heap H locs ∧ lv_has ls 8 [(0, .ref vo), (1, .int pl), (2, .int fr), (3, .int (nI y9)), (4, .int (nI (vs_st n)))]) (fun ls => F0 m 7 ls []) (fun n y9 H locs ls hI ih_1 => ?_) (fun y9 H locs ls hI => ?_) 8 0 H locs ls ⟨⟨Nat.zero_le _, by omega, Nat.le_refl _⟩, hP, hS, lv_sub hl [2, 3, 4, 1, 0] rfl⟩
  · obtain ⟨a, rfl⟩ : ∃ z, z = y9 := ⟨_, rfl⟩
    obtain ⟨hinv, hP, hS, hl⟩ := hI
    have hinv : a ≤ k ∧ k < a + 2 ^ (n + 1) ∧ (n + 1) ≤ 8 := hinv
    have hP : va_P (dC, dI) vwCl (wV vo h b cA L.length f) H := hP
    have hl : lv_has ls 8 [(0, .ref vo), (1, .int pl), (2, .int fr), (3, .int (nI a)), (4, .int (nI (vs_st (n + 1))))] := hl
    obtain ⟨h1, h2, h3⟩ := hinv
    have hpw : 2 ^ n ≤ 2 ^ 7 := Nat.pow_le_pow_right (by decide) (by omega)
    have hpp : 0 < 2 ^ n := Nat.two_pow_pos n
    have e2 : 2 ^ (n + 1) = 2 ^ n + 2 ^ n := by rw [Nat.pow_succ]; omega
    refine lv_iload hx hb qd_V_linesUpTo_7 (lv_at hl 4 rfl) ?_
    refine lv_if_le (tgt := 96) hx hb qd_V_linesUpTo_9 (by decide) (fun c_2 => ?_) (fun c_2 => ?_)
    · exact absurd c_2 (nI_nle (Nat.two_pow_pos n) (show 2 ^ n < 2 ^ 31 by omega))
    · refine lv_iload_n hx hb qd_V_linesUpTo_12 rfl (lv_at hl 3 rfl) ?_
      refine lv_iload hx hb qd_V_linesUpTo_13 (lv_at hl 4 rfl) ?_
      refine lv_iadd hx hb qd_V_linesUpTo_15 ?_
      refine lv_iconst (v := 1) hx hb qd_V_linesUpTo_16 (by decide) ?_
      refine lv_isub hx hb qd_V_linesUpTo_17 ?_
      refine mk_rw (y := nI (a + 2 ^ n - 1)) (by show nI a + nI (2 ^ n) - nI 1 = _; rw [nI_add, pk_sub (by omega)]) ?_
      refine lv_istore (lv' := [(5, .int (nI (a + 2 ^ n - 1))), (0, .ref vo), (1, .int pl), (2, .int fr), (3, .int (nI a)), (4, .int (nI (vs_st (n + 1))))]) hx hb qd_V_linesUpTo_18 hl (by decide) rfl (fun ls hl => ?_)
      refine lv_aload_n hx hb qd_V_linesUpTo_20 rfl (lv_at hl 1 rfl) ?_
      refine va_get (D := (dC, dI)) (ci := 5) (v := .ref h) (C := qR_V) (T := qT_V) (N := 1) hx hb hts qin_V hown hK hP 0 rfl rfl 0 (by decide) (hts _ mw_80) (fun _ h9 => h9) rfl qd_V_linesUpTo_21 ?_
      refine lv_iload hx hb qd_V_linesUpTo_24 (lv_at hl 0 rfl) ?_
      refine lv_iconst (v := 2) hx hb qd_V_linesUpTo_26 (by decide) ?_
      refine mk_calli (va_runV (As := [.int (nI (a + 2 ^ n - 1)), .int 2]) (rest := []) ⟨hx, hb, hml, hown, hts⟩ (c_Sh_get l dC dI cA H.size h b 3 160 f L hwf (nI (a + 2 ^ n - 1)) 2) (cwV 2 hts gc_V_24 rfl rfl rfl (by decide +kernel) ⟨Nat.le_of_ble_eq_true rfl, Nat.le_of_ble_eq_true rfl⟩) (mk_roV hP [1, 2] rfl hK (va_recv hK hP (ci := 4) (q0 := 1) rfl rfl)) rfl rfl hl.1 rfl (lv_room (Nat.le_of_ble_eq_true rfl)) qd_V_linesUpTo_27 ⟨(Nat.zero_le _), (Nat.zero_le _)⟩) hS hA hP (fun r_3 H locs hr_3 hP hS => ?_)
      have hr_3 : r_3 = sh_get 3 L (nI (a + 2 ^ n - 1)) 2 := hr_3
      refine lv_istore (lv' := [(6, .int r_3), (5, .int (nI (a + 2 ^ n - 1))), (0, .ref vo), (1, .int pl), (2, .int fr), (3, .int (nI a)), (4, .int (nI (vs_st (n + 1))))]) hx hb qd_V_linesUpTo_30 hl (by decide) rfl (fun ls hl => ?_)
      refine mk_meetH (D := (dC, dI)) (cl := vwCl) (ws := (wV vo h b cA L.length f)) (A0 := (mk_new s.heap.size)) (H0 := s.heap) (fun v => (v = 0 ∨ v = 1) ∧ ∀ r0, L[a + 2 ^ n - 1]? = some r0 → (v = 0 ↔ vs_nb pl fr r0)) (fun v => F0 m 63 ls (.int v :: [])) (fun v_5 H locs hv_5 hP hS => ?_) (fun J_4 => ?_)
      · have hv_5 : (v_5 = 0 ∨ v_5 = 1) ∧ ∀ r0, L[a + 2 ^ n - 1]? = some r0 → (v_5 = 0 ↔ vs_nb pl fr r0) := hv_5
        refine lv_istore (lv' := [(7, .int v_5), (6, .int r_3), (5, .int (nI (a + 2 ^ n - 1))), (0, .ref vo), (1, .int pl), (2, .int fr), (3, .int (nI a)), (4, .int (nI (vs_st (n + 1))))]) hx hb qd_V_linesUpTo_63 hl (by decide) rfl (fun ls hl => ?_)
        refine lv_iload hx hb qd_V_linesUpTo_65 (lv_at hl 2 rfl) ?_
        refine lv_aload_n hx hb qd_V_linesUpTo_67 rfl (lv_at hl 3 rfl) ?_
        refine va_get (D := (dC, dI)) (ci := 5) (v := .ref h) (C := qR_V) (T := qT_V) (N := 1) hx hb hts qin_V hown hK hP 0 rfl rfl 0 (by decide) (hts _ mw_80) (fun _ h9 => h9) rfl qd_V_linesUpTo_68 ?_
        refine mk_calli (va_runV (As := []) (rest := [.int (nI (a + 2 ^ n - 1))]) ⟨hx, hb, hml, hown, hts⟩ (c_Sh_size l dC dI cA H.size h b 3 160 f L hwf) (cwV 0 hts gc_V_20 rfl rfl rfl (by decide +kernel) ⟨Nat.le_of_ble_eq_true rfl, Nat.le_of_ble_eq_true rfl⟩) (mk_roV hP [1, 2] rfl hK (va_recv hK hP (ci := 4) (q0 := 1) rfl rfl)) rfl rfl hl.1 rfl (lv_room (Nat.le_of_ble_eq_true rfl)) qd_V_linesUpTo_71 ⟨(Nat.zero_le _), (Nat.zero_le _)⟩) hS hA hP (fun r_6 H locs hr_6 hP hS => ?_)
        obtain rfl : r_6 = nI L.length := hr_6
        refine lv_icmp_ge (tgt := 87) hx hb qd_V_linesUpTo_74 (by decide) (fun c_7 => ?_) (fun c_7 => ?_)
        · refine lv_iload hx hb qd_V_linesUpTo_87 (lv_at hl 7 rfl) ?_
          refine lv_iconst (v := 2) hx hb qd_V_linesUpTo_89 (by decide) ?_
          refine lv_idiv hx hb qd_V_linesUpTo_90 (by decide) ?_
          refine mk_rw (y := nI (vs_st n)) (vs_half n (by omega)) ?_
          refine lv_istore (lv' := [(4, .int (nI (vs_st n))), (7, .int v_5), (6, .int r_3), (5, .int (nI (a + 2 ^ n - 1))), (0, .ref vo), (1, .int pl), (2, .int fr), (3, .int (nI a))]) hx hb qd_V_linesUpTo_91 hl (by decide) rfl (fun ls hl => ?_)
          refine lv_goto (tgt := 7) hx hb qd_V_linesUpTo_93 (by decide) ?_
          have hq := (nI_leI (by omega) (by omega)).mp c_7
          exact ih_1 a H locs ls ⟨⟨by omega, by omega, by omega⟩, hP, hS, lv_sub hl [4, 5, 6, 7, 0] rfl⟩
        · refine lv_iload hx hb qd_V_linesUpTo_77 (lv_at hl 0 rfl) ?_
          refine lv_if_ne (tgt := 87) hx hb qd_V_linesUpTo_79 (by decide) (fun c_8 => ?_) (fun c_8 => ?_)
          · refine lv_iload hx hb qd_V_linesUpTo_87 (lv_at hl 7 rfl) ?_
            refine lv_iconst (v := 2) hx hb qd_V_linesUpTo_89 (by decide) ?_
            refine lv_idiv hx hb qd_V_linesUpTo_90 (by decide) ?_
            refine mk_rw (y := nI (vs_st n)) (vs_half n (by omega)) ?_
            refine lv_istore (lv' := [(4, .int (nI (vs_st n))), (7, .int v_5), (6, .int r_3), (5, .int (nI (a + 2 ^ n - 1))), (0, .ref vo), (1, .int pl), (2, .int fr), (3, .int (nI a))]) hx hb qd_V_linesUpTo_91 hl (by decide) rfl (fun ls hl => ?_)
            refine lv_goto (tgt := 7) hx hb qd_V_linesUpTo_93 (by decide) ?_
            have hlt : a + 2 ^ n - 1 < L.length := by rcases Nat.lt_or_ge (a + 2 ^ n - 1) L.length with q | q; exact q; exact absurd (nI_le q (by omega)) c_7
            have hq1 := hv_5.2 _ (List.getElem?_eq_getElem hlt)
            have hq2 := hcut.2 _ _ (List.getElem?_eq_getElem hlt)
            have hq : ¬ a + 2 ^ n - 1 < k := fun q => c_8 (hq1.mpr (hq2.mp q))
            exact ih_1 a H locs ls ⟨⟨by omega, by omega, by omega⟩, hP, hS, lv_sub hl [4, 5, 6, 7, 0] rfl⟩
          · refine lv_iload_n hx hb qd_V_linesUpTo_82 rfl (lv_at hl 6 rfl) ?_
            refine lv_iload hx hb qd_V_linesUpTo_83 (lv_at hl 7 rfl) ?_
            refine lv_iadd hx hb qd_V_linesUpTo_85 ?_
            refine mk_rw (y := nI (a + 2 ^ n)) (by show nI a + nI (2 ^ n) = _; rw [nI_add]) ?_
            refine lv_istore_n (lv' := [(3, .int (nI (a + 2 ^ n))), (7, .int v_5), (6, .int r_3), (5, .int (nI (a + 2 ^ n - 1))), (0, .ref vo), (1, .int pl), (2, .int fr), (4, .int (nI (vs_st (n + 1))))]) hx hb qd_V_linesUpTo_86 rfl hl (by decide) rfl (fun ls hl => ?_)
            refine lv_iload hx hb qd_V_linesUpTo_87 (lv_at hl 7 rfl) ?_
            refine lv_iconst (v := 2) hx hb qd_V_linesUpTo_89 (by decide) ?_
            refine lv_idiv hx hb qd_V_linesUpTo_90 (by decide) ?_
            refine mk_rw (y := nI (vs_st n)) (vs_half n (by omega)) ?_
            refine lv_istore (lv' := [(4, .int (nI (vs_st n))), (3, .int (nI (a + 2 ^ n))), (7, .int v_5), (6, .int r_3), (5, .int (nI (a + 2 ^ n - 1))), (0, .ref vo), (1, .int pl), (2, .int fr)]) hx hb qd_V_linesUpTo_91 hl (by decide) rfl (fun ls hl => ?_)
            refine lv_goto (tgt := 7) hx hb qd_V_linesUpTo_93 (by decide) ?_
            have hlt : a + 2 ^ n - 1 < L.length := by rcases Nat.lt_or_ge (a + 2 ^ n - 1) L.length with q | q; exact q; exact absurd (nI_le q (by omega)) c_7
            have hq1 := hv_5.2 _ (List.getElem?_eq_getElem hlt)
            have hq2 := hcut.2 _ _ (List.getElem?_eq_getElem hlt)
            have hq : a + 2 ^ n - 1 < k := hq2.mpr (hq1.mp c_8)
            exact ih_1 (a + 2 ^ n) H locs ls ⟨⟨by omega, by omega, by omega⟩, hP, hS, lv_sub hl [5, 6, 7, 1, 0] rfl⟩
      · refine lv_iload hx hb qd_V_linesUpTo_32 (lv_at hl 0 rfl) ?_
        refine lv_iload_n hx hb qd_V_linesUpTo_34 rfl (lv_at hl 3 rfl) ?_
        refine lv_icmp_gt (tgt := 58) hx hb qd_V_linesUpTo_35 (by decide) (fun c_9 => ?_) (fun c_9 => ?_)
        · refine lv_iconst (v := 1) hx hb qd_V_linesUpTo_58 (by decide) ?_
          refine lv_goto (tgt := 63) hx hb qd_V_linesUpTo_59 (by decide) ?_
          exact J_4 _ H locs (vs_b1 hr_3 (by omega) c_9) hP hS
        · refine lv_iload hx hb qd_V_linesUpTo_38 (lv_at hl 0 rfl) ?_
          refine lv_iload_n hx hb qd_V_linesUpTo_40 rfl (lv_at hl 3 rfl) ?_
          refine lv_icmp_ne (tgt := 62) hx hb qd_V_linesUpTo_41 (by decide) (fun c_10 => ?_) (fun c_10 => ?_)
          · refine lv_iconst (v := 0) hx hb qd_V_linesUpTo_62 (by decide) ?_
            exact J_4 _ H locs (vs_b2 hr_3 (by omega) c_9 c_10) hP hS
          · refine lv_aload_n hx hb qd_V_linesUpTo_44 rfl (lv_at hl 2 rfl) ?_
            refine va_get (D := (dC, dI)) (ci := 5) (v := .ref h) (C := qR_V) (T := qT_V) (N := 1) hx hb hts qin_V hown hK hP 0 rfl rfl 0 (by decide) (hts _ mw_80) (fun _ h9 => h9) rfl qd_V_linesUpTo_45 ?_
            refine lv_iload hx hb qd_V_linesUpTo_48 (lv_at hl 1 rfl) ?_
            refine lv_iconst (v := 0) hx hb qd_V_linesUpTo_50 (by decide) ?_
            refine mk_calli (va_runV (As := [.int (nI (a + 2 ^ n - 1)), .int 0]) (rest := []) ⟨hx, hb, hml, hown, hts⟩ (c_Sh_get l dC dI cA H.size h b 3 160 f L hwf (nI (a + 2 ^ n - 1)) 0) (cwV 2 hts gc_V_24 rfl rfl rfl (by decide +kernel) ⟨Nat.le_of_ble_eq_true rfl, Nat.le_of_ble_eq_true rfl⟩) (mk_roV hP [1, 2] rfl hK (va_recv hK hP (ci := 4) (q0 := 1) rfl rfl)) rfl rfl hl.1 rfl (lv_room (Nat.le_of_ble_eq_true rfl)) qd_V_linesUpTo_51 ⟨(Nat.zero_le _), (Nat.zero_le _)⟩) hS hA hP (fun r_11 H locs hr_11 hP hS => ?_)
            have hr_11 : r_11 = sh_get 3 L (nI (a + 2 ^ n - 1)) 0 := hr_11
            refine lv_iload_n hx hb qd_V_linesUpTo_54 rfl (lv_at hl 4 rfl) ?_
            refine lv_icmp_le (tgt := 62) hx hb qd_V_linesUpTo_55 (by decide) (fun c_12 => ?_) (fun c_12 => ?_)
            · refine lv_iconst (v := 0) hx hb qd_V_linesUpTo_62 (by decide) ?_
              exact J_4 _ H locs (vs_b3 hr_3 hr_11 (by omega) c_10 c_12) hP hS
            · refine lv_iconst (v := 1) hx hb qd_V_linesUpTo_58 (by decide) ?_
              refine lv_goto (tgt := 63) hx hb qd_V_linesUpTo_59 (by decide) ?_
              exact J_4 _ H locs (vs_b4 hr_3 hr_11 (by omega) c_10 c_12) hP hS
  · obtain ⟨a, rfl⟩ : ∃ z, z = y9 := ⟨_, rfl⟩
    obtain ⟨hinv, hP, hS, hl⟩ := hI
    have hinv : a ≤ k ∧ k < a + 2 ^ 0 ∧ 0 ≤ 8 := hinv
    have hP : va_P (dC, dI) vwCl (wV vo h b cA L.length f) H := hP
    have hl : lv_has ls 8 [(0, .ref vo), (1, .int pl), (2, .int fr), (3, .int (nI a)), (4, .int (nI (vs_st 0)))] := hl
    obtain ⟨h1, h2, h3⟩ := hinv
    refine lv_iload hx hb qd_V_linesUpTo_7 (lv_at hl 4 rfl) ?_
    refine lv_if_le (tgt := 96) hx hb qd_V_linesUpTo_9 (by decide) (fun c_13 => ?_) (fun c_13 => ?_)
    · refine lv_iload_n hx hb qd_V_linesUpTo_96 rfl (lv_at hl 3 rfl) ?_
      exact mk_iret hx hb hr hlocks hS qd_V_linesUpTo_97 (by rw [show a = k by omega])
    · exact absurd (show nI (vs_st 0) ≤ 0 from by decide) c_13
set_option maxHeartbeats 4000000 in
set_option maxRecDepth 100000 in
/-- startOf(place) -/
theorem c_V_startOf (l : Launch) (dC : Nat → ClassId) (dI : Nat → Nat → Nat) (cA : ClassId) (sz : Nat) (vo h b : Nat) (f : Nat → Int32) (L : List (Nat → Int32)) (hwf : sh_wf 3 160 f L) (pl : Int32) (k : Nat) (hcut : vs_cut L pl 0 k) : Met l qy_V_startOf qw_V_startOf ({ frames := 2, cells := 0, slots := 0, locals := 49 }) (mk_ro [.ref vo, .int pl] sz (dC, dI) vwCl [(cA, .int)] (wV vo h b cA L.length f)) (mk_roQ (fun r => r = nI k) sz) 0 0 (mk_new sz) := by
  refine Met.ofW (cc := qb_V_startOf) (maxL := 2) (ret := (some .int)) (by decide) rfl ?_
  intro p e s m args below meth c s₁ B hml hpre
  obtain ⟨rfl, hsz, hP, hK⟩ := hpre
  have hx := B.exec
  have hb := B.bytes
  have hr := B.returns
  have hts0 := atoms_spec (ws := qw_V_startOf) B.pre
  have hts := fun w (h : w ∈ lw_gd) => hts0 w (List.mem_cons_of_mem _ h)
  have hown : s.vm.findClass qR_V = some m.cls := findClass_of_methodNamed B.named
  have hlocks := B.notSynchronized
  subst hsz
  have hA : ∀ q : Nat, s.heap.size ≤ q → mk_new s.heap.size q := fun _ h => h
  have hS : va_S (mk_new s.heap.size) s.heap s.heap [] := va_S.rf
  have hl := lv_entry ([.ref vo, .int pl]) (n := 2) (Nat.le_of_ble_eq_true rfl)
  rw [lg_entry_eq]
  generalize (lg_sl ([.ref vo, .int pl]) ++ List.replicate (2 - (lg_sl ([.ref vo, .int pl])).length) Slot.unset).toArray = ls at hl ⊢
  have hl : lv_has ls 2 [(0, .ref vo), (1, .int pl)] := hl
  have hP : va_P (dC, dI) vwCl (wV vo h b cA L.length f) s.heap := hP
  refine mk_start (A := (mk_new s.heap.size)) hP (fun H locs hP hS => ?_)
  refine lv_aload_n hx hb qd_V_startOf_0 rfl (lv_at hl 0 rfl) ?_
  refine lv_iload_n hx hb qd_V_startOf_1 rfl (lv_at hl 1 rfl) ?_
  refine lv_iconst (v := 0) hx hb qd_V_startOf_2 (by decide) ?_
  refine mk_calli (va_runV (As := [.int pl, .int 0]) (rest := []) ⟨hx, hb, hml, hown, hts⟩ (c_V_linesUpTo l dC dI cA H.size vo h b f L hwf pl 0 k hcut) (cwV 2 hts gc_V_32 rfl rfl rfl (by decide +kernel) ⟨Nat.le_of_ble_eq_true rfl, Nat.le_of_ble_eq_true rfl⟩) (mk_roV hP [0, 1, 2] rfl hK (va_recv hK hP (ci := 5) (q0 := 0) rfl rfl)) rfl rfl hl.1 rfl (lv_room (Nat.le_of_ble_eq_true rfl)) qd_V_startOf_3 ⟨(Nat.zero_le _), (Nat.zero_le _)⟩) hS hA hP (fun r_1 H locs hr_1 hP hS => ?_)
  obtain rfl : r_1 = nI k := hr_1
  exact mk_iret hx hb hr hlocks hS qd_V_startOf_6 (rfl)
set_option maxHeartbeats 4000000 in
set_option maxRecDepth 100000 in
/-- sizeAt(place) -/
theorem c_V_sizeAt (l : Launch) (dC : Nat → ClassId) (dI : Nat → Nat → Nat) (cA : ClassId) (sz : Nat) (vo h b : Nat) (f : Nat → Int32) (L : List (Nat → Int32)) (hwf : sh_wf 3 160 f L) (pl : Int32) (k k2 : Nat) (hcut : vs_cut L pl 0 k) (hcut2 : vs_cut L pl 100000 k2) (hkk : k ≤ k2) : Met l qy_V_sizeAt qw_V_sizeAt ({ frames := 3, cells := 0, slots := 0, locals := 70 }) (mk_ro [.ref vo, .int pl] sz (dC, dI) vwCl [(cA, .int)] (wV vo h b cA L.length f)) (mk_roQ (fun r => r = nI (k2 - k)) sz) 0 0 (mk_new sz) := by
  refine Met.ofW (cc := qb_V_sizeAt) (maxL := 2) (ret := (some .int)) (by decide) rfl ?_
  intro p e s m args below meth c s₁ B hml hpre
  obtain ⟨rfl, hsz, hP, hK⟩ := hpre
  have hx := B.exec
  have hb := B.bytes
  have hr := B.returns
  have hts0 := atoms_spec (ws := qw_V_sizeAt) B.pre
  have hts := fun w (h : w ∈ lw_gd) => hts0 w (List.mem_cons_of_mem _ h)
  have hown : s.vm.findClass qR_V = some m.cls := findClass_of_methodNamed B.named
  have hlocks := B.notSynchronized
  subst hsz
  have hA : ∀ q : Nat, s.heap.size ≤ q → mk_new s.heap.size q := fun _ h => h
  have hS : va_S (mk_new s.heap.size) s.heap s.heap [] := va_S.rf
  have hl := lv_entry ([.ref vo, .int pl]) (n := 2) (Nat.le_of_ble_eq_true rfl)
  rw [lg_entry_eq]
  generalize (lg_sl ([.ref vo, .int pl]) ++ List.replicate (2 - (lg_sl ([.ref vo, .int pl])).length) Slot.unset).toArray = ls at hl ⊢
  have hl : lv_has ls 2 [(0, .ref vo), (1, .int pl)] := hl
  have hP : va_P (dC, dI) vwCl (wV vo h b cA L.length f) s.heap := hP
  refine mk_start (A := (mk_new s.heap.size)) hP (fun H locs hP hS => ?_)
  refine lv_aload_n hx hb qd_V_sizeAt_0 rfl (lv_at hl 0 rfl) ?_
  refine lv_iload_n hx hb qd_V_sizeAt_1 rfl (lv_at hl 1 rfl) ?_
  refine lv_ldc (v := 100000) hx hb hown (hts _ mw_303) qd_V_sizeAt_2 ?_
  refine mk_calli (va_runV (As := [.int pl, .int 100000]) (rest := []) ⟨hx, hb, hml, hown, hts⟩ (c_V_linesUpTo l dC dI cA H.size vo h b f L hwf pl 100000 k2 hcut2) (cwV 2 hts gc_V_32 rfl rfl rfl (by decide +kernel) ⟨Nat.le_of_ble_eq_true rfl, Nat.le_of_ble_eq_true rfl⟩) (mk_roV hP [0, 1, 2] rfl hK (va_recv hK hP (ci := 5) (q0 := 0) rfl rfl)) rfl rfl hl.1 rfl (lv_room (Nat.le_of_ble_eq_true rfl)) qd_V_sizeAt_4 ⟨(Nat.zero_le _), (Nat.zero_le _)⟩) hS hA hP (fun r_1 H locs hr_1 hP hS => ?_)
  obtain rfl : r_1 = nI k2 := hr_1
  refine lv_aload_n hx hb qd_V_sizeAt_7 rfl (lv_at hl 0 rfl) ?_
  refine lv_iload_n hx hb qd_V_sizeAt_8 rfl (lv_at hl 1 rfl) ?_
  refine mk_calli (va_runV (As := [.int pl]) (rest := [.int (nI k2)]) ⟨hx, hb, hml, hown, hts⟩ (c_V_startOf l dC dI cA H.size vo h b f L hwf pl k hcut) (cwV 1 hts gc_V_36 rfl rfl rfl (by decide +kernel) ⟨Nat.le_of_ble_eq_true rfl, Nat.le_of_ble_eq_true rfl⟩) (mk_roV hP [0, 1, 2] rfl hK (va_recv hK hP (ci := 5) (q0 := 0) rfl rfl)) rfl rfl hl.1 rfl (lv_room (Nat.le_of_ble_eq_true rfl)) qd_V_sizeAt_9 ⟨(Nat.zero_le _), (Nat.zero_le _)⟩) hS hA hP (fun r_2 H locs hr_2 hP hS => ?_)
  obtain rfl : r_2 = nI k := hr_2
  refine lv_isub hx hb qd_V_sizeAt_12 ?_
  exact mk_iret hx hb hr hlocks hS qd_V_sizeAt_13 (pk_sub hkk)
set_option maxHeartbeats 4000000 in
set_option maxRecDepth 100000 in
/-- lineAsOf(place, from) -/
theorem c_V_lineAsOf (l : Launch) (dC : Nat → ClassId) (dI : Nat → Nat → Nat) (cA : ClassId) (sz : Nat) (vo h b : Nat) (f : Nat → Int32) (L : List (Nat → Int32)) (hwf : sh_wf 3 160 f L) (pl fr : Int32) (k : Nat) (hcut : vs_cut L pl fr k) (hpl : ¬ pl = -2) : Met l qy_V_lineAsOf qw_V_lineAsOf ({ frames := 2, cells := 0, slots := 0, locals := 49 }) (mk_ro [.ref vo, .int pl, .int fr] sz (dC, dI) vwCl [(cA, .int)] (wV vo h b cA L.length f)) (mk_roQ (fun r => vs_asof L pl k r) sz) 0 0 (mk_new sz) := by
  refine Met.ofW (cc := qb_V_lineAsOf) (maxL := 4) (ret := (some .int)) (by decide) rfl ?_
  intro p e s m args below meth c s₁ B hml hpre
  obtain ⟨rfl, hsz, hP, hK⟩ := hpre
  have hx := B.exec
  have hb := B.bytes
  have hr := B.returns
  have hts0 := atoms_spec (ws := qw_V_lineAsOf) B.pre
  have hts := fun w (h : w ∈ lw_gd) => hts0 w (List.mem_cons_of_mem _ h)
  have hown : s.vm.findClass qR_V = some m.cls := findClass_of_methodNamed B.named
  have hlocks := B.notSynchronized
  subst hsz
  have hA : ∀ q : Nat, s.heap.size ≤ q → mk_new s.heap.size q := fun _ h => h
  have hS : va_S (mk_new s.heap.size) s.heap s.heap [] := va_S.rf
  have hl := lv_entry ([.ref vo, .int pl, .int fr]) (n := 4) (Nat.le_of_ble_eq_true rfl)
  rw [lg_entry_eq]
  generalize (lg_sl ([.ref vo, .int pl, .int fr]) ++ List.replicate (4 - (lg_sl ([.ref vo, .int pl, .int fr])).length) Slot.unset).toArray = ls at hl ⊢
  have hl : lv_has ls 4 [(0, .ref vo), (1, .int pl), (2, .int fr)] := hl
  have hP : va_P (dC, dI) vwCl (wV vo h b cA L.length f) s.heap := hP
  refine mk_start (A := (mk_new s.heap.size)) hP (fun H locs hP hS => ?_)
  obtain ⟨hok, hlen, -, -, -⟩ := id hwf
  have hkl := hcut.1
  refine lv_aload_n hx hb qd_V_lineAsOf_0 rfl (lv_at hl 0 rfl) ?_
  refine lv_iload_n hx hb qd_V_lineAsOf_1 rfl (lv_at hl 1 rfl) ?_
  refine lv_iload_n hx hb qd_V_lineAsOf_2 rfl (lv_at hl 2 rfl) ?_
  refine mk_calli (va_runV (As := [.int pl, .int fr]) (rest := []) ⟨hx, hb, hml, hown, hts⟩ (c_V_linesUpTo l dC dI cA H.size vo h b f L hwf pl fr k hcut) (cwV 2 hts gc_V_32 rfl rfl rfl (by decide +kernel) ⟨Nat.le_of_ble_eq_true rfl, Nat.le_of_ble_eq_true rfl⟩) (mk_roV hP [0, 1, 2] rfl hK (va_recv hK hP (ci := 5) (q0 := 0) rfl rfl)) rfl rfl hl.1 rfl (lv_room (Nat.le_of_ble_eq_true rfl)) qd_V_lineAsOf_3 ⟨(Nat.zero_le _), (Nat.zero_le _)⟩) hS hA hP (fun r_1 H locs hr_1 hP hS => ?_)
  obtain rfl : r_1 = nI k := hr_1
  refine lv_iconst (v := 1) hx hb qd_V_lineAsOf_6 (by decide) ?_
  refine lv_isub hx hb qd_V_lineAsOf_7 ?_
  refine lv_istore_n (lv' := [(3, .int ((nI k) - 1)), (0, .ref vo), (1, .int pl), (2, .int fr)]) hx hb qd_V_lineAsOf_8 rfl hl (by decide) rfl (fun ls hl => ?_)
  refine lv_aload_n hx hb qd_V_lineAsOf_9 rfl (lv_at hl 1 rfl) ?_
  refine va_get (D := (dC, dI)) (ci := 5) (v := .ref h) (C := qR_V) (T := qT_V) (N := 1) hx hb hts qin_V hown hK hP 0 rfl rfl 0 (by decide) (hts _ mw_80) (fun _ h9 => h9) rfl qd_V_lineAsOf_10 ?_
  refine lv_iload_n hx hb qd_V_lineAsOf_13 rfl (lv_at hl 0 rfl) ?_
  refine lv_iconst (v := 2) hx hb qd_V_lineAsOf_14 (by decide) ?_
  refine mk_calli (va_runV (As := [.int ((nI k) - 1), .int 2]) (rest := []) ⟨hx, hb, hml, hown, hts⟩ (c_Sh_get l dC dI cA H.size h b 3 160 f L hwf ((nI k) - 1) 2) (cwV 2 hts gc_V_24 rfl rfl rfl (by decide +kernel) ⟨Nat.le_of_ble_eq_true rfl, Nat.le_of_ble_eq_true rfl⟩) (mk_roV hP [1, 2] rfl hK (va_recv hK hP (ci := 4) (q0 := 1) rfl rfl)) rfl rfl hl.1 rfl (lv_room (Nat.le_of_ble_eq_true rfl)) qd_V_lineAsOf_15 ⟨(Nat.zero_le _), (Nat.zero_le _)⟩) hS hA hP (fun r_2 H locs hr_2 hP hS => ?_)
  have hr_2 : r_2 = sh_get 3 L ((nI k) - 1) 2 := hr_2
  refine lv_iload_n hx hb qd_V_lineAsOf_18 rfl (lv_at hl 2 rfl) ?_
  refine lv_icmp_ne (tgt := 39) hx hb qd_V_lineAsOf_19 (by decide) (fun c_3 => ?_) (fun c_3 => ?_)
  · refine lv_iconst (v := (-1)) hx hb qd_V_lineAsOf_39 (by decide) ?_
    exact mk_iret hx hb hr hlocks hS qd_V_lineAsOf_40 (vs_a1 (by omega) hr_2 c_3)
  · refine lv_aload_n hx hb qd_V_lineAsOf_22 rfl (lv_at hl 1 rfl) ?_
    refine va_get (D := (dC, dI)) (ci := 5) (v := .ref h) (C := qR_V) (T := qT_V) (N := 1) hx hb hts qin_V hown hK hP 0 rfl rfl 0 (by decide) (hts _ mw_80) (fun _ h9 => h9) rfl qd_V_lineAsOf_23 ?_
    refine lv_iload_n hx hb qd_V_lineAsOf_26 rfl (lv_at hl 0 rfl) ?_
    refine lv_iconst (v := 1) hx hb qd_V_lineAsOf_27 (by decide) ?_
    refine mk_calli (va_runV (As := [.int ((nI k) - 1), .int 1]) (rest := []) ⟨hx, hb, hml, hown, hts⟩ (c_Sh_get l dC dI cA H.size h b 3 160 f L hwf ((nI k) - 1) 1) (cwV 2 hts gc_V_24 rfl rfl rfl (by decide +kernel) ⟨Nat.le_of_ble_eq_true rfl, Nat.le_of_ble_eq_true rfl⟩) (mk_roV hP [1, 2] rfl hK (va_recv hK hP (ci := 4) (q0 := 1) rfl rfl)) rfl rfl hl.1 rfl (lv_room (Nat.le_of_ble_eq_true rfl)) qd_V_lineAsOf_28 ⟨(Nat.zero_le _), (Nat.zero_le _)⟩) hS hA hP (fun r_4 H locs hr_4 hP hS => ?_)
    have hr_4 : r_4 = sh_get 3 L ((nI k) - 1) 1 := hr_4
    refine lv_iconst (v := (-1)) hx hb qd_V_lineAsOf_31 (by decide) ?_
    refine lv_icmp_eq (tgt := 39) hx hb qd_V_lineAsOf_32 (by decide) (fun c_5 => ?_) (fun c_5 => ?_)
    · refine lv_iconst (v := (-1)) hx hb qd_V_lineAsOf_39 (by decide) ?_
      exact mk_iret hx hb hr hlocks hS qd_V_lineAsOf_40 (vs_a2 (by omega) hr_4 c_5)
    · refine lv_iload_n hx hb qd_V_lineAsOf_35 rfl (lv_at hl 0 rfl) ?_
      refine lv_goto (tgt := 40) hx hb qd_V_lineAsOf_36 (by decide) ?_
      exact mk_iret hx hb hr hlocks hS qd_V_lineAsOf_40 (vs_a3 (by omega) hkl hpl hr_2 hr_4 c_3 c_5)
set_option maxHeartbeats 4000000 in
set_option maxRecDepth 100000 in
/-- put(place, from, value) -/
theorem c_V_put (l : Launch) (dC : Nat → ClassId) (dI : Nat → Nat → Nat) (cA : ClassId) (sz : Nat) (vo h b : Nat) (f : Nat → Int32) (L : List (Nat → Int32)) (hwf : sh_wf 3 160 f L) (pl fr vl : Int32) (k : Nat) (hcut : vs_cut L pl fr k) (hpl : ¬ pl = -2) (hroom : L.length < 160) : Met l qy_V_put qw_V_put ({ frames := 2, cells := 0, slots := 0, locals := 82 }) (mk_mu [.ref vo, .int pl, .int fr, .int vl] sz (dC, dI) vwCl [(cA, .int)] (wV vo h b cA L.length f)) (mk_muV (S := List (Nat → Int32) × (Nat → Int32)) (fun u => vs_put L pl fr vl k u.1 ∧ sh_ok 3 u.2 u.1) (fun u => wV vo h b cA u.1.length u.2) (dC, dI) vwCl [(cA, .int)] (va_A (wV vo h b cA L.length f) sz)) 0 0 (va_A (wV vo h b cA L.length f) sz) := by
  refine Met.ofW (cc := qb_V_put) (maxL := 5) (ret := none) (by decide) rfl ?_
  intro p e s m args below meth c s₁ B hml hpre
  obtain ⟨rfl, hsz, hP, hK, hD0⟩ := hpre
  have hx := B.exec
  have hb := B.bytes
  have hr := B.returns
  have hts0 := atoms_spec (ws := qw_V_put) B.pre
  have hts := fun w (h : w ∈ lw_gd) => hts0 w (List.mem_cons_of_mem _ h)
  have hown : s.vm.findClass qR_V = some m.cls := findClass_of_methodNamed B.named
  have hlocks := B.notSynchronized
  subst hsz
  have hD := hD0.self (sz := s.heap.size)
  generalize hAe : va_A (wV vo h b cA L.length f) s.heap.size = A at hD ⊢
  have hA : ∀ q : Nat, s.heap.size ≤ q → A q := fun q h => by rw [← hAe]; exact Or.inr h
  have hS : va_S A s.heap s.heap [] := va_S.rf
  have hl := lv_entry ([.ref vo, .int pl, .int fr, .int vl]) (n := 5) (Nat.le_of_ble_eq_true rfl)
  rw [lg_entry_eq]
  generalize (lg_sl ([.ref vo, .int pl, .int fr, .int vl]) ++ List.replicate (5 - (lg_sl ([.ref vo, .int pl, .int fr, .int vl])).length) Slot.unset).toArray = ls at hl ⊢
  have hl : lv_has ls 5 [(0, .ref vo), (1, .int pl), (2, .int fr), (3, .int vl)] := hl
  have hP : va_P (dC, dI) vwCl (wV vo h b cA L.length f) s.heap := hP
  refine mk_start (A := A) hP (fun H locs hP hS => ?_)
  obtain ⟨hok, hlen, -, -, -⟩ := id hwf
  have hkl := hcut.1
  refine lv_aload_n hx hb qd_V_put_0 rfl (lv_at hl 0 rfl) ?_
  refine lv_iload_n hx hb qd_V_put_1 rfl (lv_at hl 1 rfl) ?_
  refine lv_iload_n hx hb qd_V_put_2 rfl (lv_at hl 2 rfl) ?_
  refine mk_calli (va_runV (As := [.int pl, .int fr]) (rest := []) ⟨hx, hb, hml, hown, hts⟩ (c_V_linesUpTo l dC dI cA H.size vo h b f L hwf pl fr k hcut) (cwV 2 hts gc_V_32 rfl rfl rfl (by decide +kernel) ⟨Nat.le_of_ble_eq_true rfl, Nat.le_of_ble_eq_true rfl⟩) (mk_roV hP [0, 1, 2] rfl hK (va_recv hK hP (ci := 5) (q0 := 0) rfl rfl)) rfl rfl hl.1 rfl (lv_room (Nat.le_of_ble_eq_true rfl)) qd_V_put_3 ⟨(Nat.zero_le _), (Nat.zero_le _)⟩) hS hA hP (fun r_1 H locs hr_1 hP hS => ?_)
  obtain rfl : r_1 = nI k := hr_1
  refine lv_istore (lv' := [(4, .int (nI k)), (0, .ref vo), (1, .int pl), (2, .int fr), (3, .int vl)]) hx hb qd_V_put_6 hl (by decide) rfl (fun ls hl => ?_)
  refine lv_aload_n hx hb qd_V_put_8 rfl (lv_at hl 1 rfl) ?_
  refine va_get (D := (dC, dI)) (ci := 5) (v := .ref h) (C := qR_V) (T := qT_V) (N := 1) hx hb hts qin_V hown hK hP 0 rfl rfl 0 (by decide) (hts _ mw_80) (fun _ h9 => h9) rfl qd_V_put_9 ?_
  refine lv_iload hx hb qd_V_put_12 (lv_at hl 0 rfl) ?_
  refine lv_iconst (v := 1) hx hb qd_V_put_14 (by decide) ?_
  refine lv_isub hx hb qd_V_put_15 ?_
  refine lv_iconst (v := 2) hx hb qd_V_put_16 (by decide) ?_
  refine mk_calli (va_runV (As := [.int ((nI k) - 1), .int 2]) (rest := []) ⟨hx, hb, hml, hown, hts⟩ (c_Sh_get l dC dI cA H.size h b 3 160 f L hwf ((nI k) - 1) 2) (cwV 2 hts gc_V_24 rfl rfl rfl (by decide +kernel) ⟨Nat.le_of_ble_eq_true rfl, Nat.le_of_ble_eq_true rfl⟩) (mk_roV hP [1, 2] rfl hK (va_recv hK hP (ci := 4) (q0 := 1) rfl rfl)) rfl rfl hl.1 rfl (lv_room (Nat.le_of_ble_eq_true rfl)) qd_V_put_17 ⟨(Nat.zero_le _), (Nat.zero_le _)⟩) hS hA hP (fun r_2 H locs hr_2 hP hS => ?_)
  have hr_2 : r_2 = sh_get 3 L ((nI k) - 1) 2 := hr_2
  refine lv_iload_n hx hb qd_V_put_20 rfl (lv_at hl 2 rfl) ?_
  refine lv_icmp_ne (tgt := 56) hx hb qd_V_put_21 (by decide) (fun c_3 => ?_) (fun c_3 => ?_)
  · have hmiss := vs_p2 (fr := fr) (by omega) hr_2 c_3
    refine lv_aload_n hx hb qd_V_put_56 rfl (lv_at hl 1 rfl) ?_
    refine va_get (D := (dC, dI)) (ci := 5) (v := .ref h) (C := qR_V) (T := qT_V) (N := 1) hx hb hts qin_V hown hK hP 0 rfl rfl 0 (by decide) (hts _ mw_80) (fun _ h9 => h9) rfl qd_V_put_57 ?_
    refine lv_iload hx hb qd_V_put_60 (lv_at hl 0 rfl) ?_
    refine mk_mcalli (wr := [(vo, .inr (5, [.ref h]))]) (wf := (fun u => wV vo h b cA u.1.length u.2)) (va_runV (As := [.int (nI k)]) (rest := []) ⟨hx, hb, hml, hown, hts⟩ (c_Sh_open l dC dI cA H.size h b 3 160 f L hwf k hkl hroom) (cwV 1 hts gc_V_44 rfl rfl rfl (by decide +kernel) ⟨Nat.le_of_ble_eq_true rfl, Nat.le_of_ble_eq_true rfl⟩) (mk_muP hP hD [1, 2] (by decide) rfl hK (va_recv hK hP (ci := 4) (q0 := 1) rfl rfl)) rfl rfl hl.1 rfl (lv_room (Nat.le_of_ble_eq_true rfl)) qd_V_put_62 ⟨(Nat.zero_le _), (Nat.zero_le _)⟩) hS hA hP hD [1, 2] [0] [0, 1, 2] rfl rfl (by decide) (by decide) (by decide) (fun _ => rfl) (fun r_4 u_5 H locs hr_4 hP hD hS => ?_)
    obtain ⟨L1, f1⟩ := u_5
    obtain ⟨rfl, rfl, hok1⟩ : r_4 = 1 ∧ L1 = L.take k ++ (fun j => f (k * 3 + j)) :: L.drop k ∧ sh_ok 3 f1 L1 := hr_4
    have hP : va_P (dC, dI) vwCl (wV vo h b cA ((L.take k ++ (fun j => f (k * 3 + j)) :: L.drop k).length) f1) H := hP
    have hD : va_D A (wV vo h b cA ((L.take k ++ (fun j => f (k * 3 + j)) :: L.drop k).length) f1) := hD
    refine lv_if_eq (tgt := 101) hx hb qd_V_put_65 (by decide) (fun c_6 => ?_) (fun c_6 => ?_)
    · exact absurd c_6 (by decide)
    · refine lv_aload_n hx hb qd_V_put_68 rfl (lv_at hl 1 rfl) ?_
      refine va_get (D := (dC, dI)) (ci := 5) (v := .ref h) (C := qR_V) (T := qT_V) (N := 1) hx hb hts qin_V hown hK hP 0 rfl rfl 0 (by decide) (hts _ mw_80) (fun _ h9 => h9) rfl qd_V_put_69 ?_
      refine lv_iload hx hb qd_V_put_72 (lv_at hl 0 rfl) ?_
      refine lv_iconst (v := 0) hx hb qd_V_put_74 (by decide) ?_
      refine lv_iload_n hx hb qd_V_put_75 rfl (lv_at hl 3 rfl) ?_
      have hwf1 : sh_wf 3 160 f1 (L.take k ++ (fun j => f (k * 3 + j)) :: L.drop k) := ⟨hok1, by rw [ls_ins_len hkl]; omega, by decide, by decide, by decide⟩
      refine mk_mcallv (wr := [(vo, .inr (5, [.ref h]))]) (wf := (fun u => wV vo h b cA u.1.length u.2)) (va_runV (As := [.int (nI k), .int 0, .int fr]) (rest := []) ⟨hx, hb, hml, hown, hts⟩ (c_Sh_set l dC dI cA H.size h b 3 160 f1 (L.take k ++ (fun j => f (k * 3 + j)) :: L.drop k) hwf1 k 0 fr (fun j => f (k * 3 + j)) (ls_ins_at hkl) (by decide)) (cwV 3 hts gc_V_40 rfl rfl rfl (by decide +kernel) ⟨Nat.le_of_ble_eq_true rfl, Nat.le_of_ble_eq_true rfl⟩) (mk_muP hP hD [1, 2] (by decide) rfl hK (va_recv hK hP (ci := 4) (q0 := 1) rfl rfl)) rfl rfl hl.1 rfl (lv_room (Nat.le_of_ble_eq_true rfl)) qd_V_put_76 ⟨(Nat.zero_le _), (Nat.zero_le _)⟩) hS hA hP hD [1, 2] [0] [0, 1, 2] rfl rfl (by decide) (by decide) (by decide) (fun _ => rfl) (fun u_8 H locs hu_8 hP hD hS => ?_)
      obtain ⟨L1, f2⟩ := u_8
      have hu_8 : L1 = (L.take k ++ (fun j => f (k * 3 + j)) :: L.drop k).set k (upd (fun j => f (k * 3 + j)) 0 fr) ∧ sh_ok 3 f2 L1 := hu_8
      rw [ls_ins_set hkl] at hu_8
      obtain ⟨rfl, hok2⟩ := hu_8
      have hP : va_P (dC, dI) vwCl (wV vo h b cA ((L.take k ++ (upd (fun j => f (k * 3 + j)) 0 fr) :: L.drop k).length) f2) H := hP
      have hD : va_D A (wV vo h b cA ((L.take k ++ (upd (fun j => f (k * 3 + j)) 0 fr) :: L.drop k).length) f2) := hD
      refine lv_aload_n hx hb qd_V_put_79 rfl (lv_at hl 1 rfl) ?_
      refine va_get (D := (dC, dI)) (ci := 5) (v := .ref h) (C := qR_V) (T := qT_V) (N := 1) hx hb hts qin_V hown hK hP 0 rfl rfl 0 (by decide) (hts _ mw_80) (fun _ h9 => h9) rfl qd_V_put_80 ?_
      refine lv_iload hx hb qd_V_put_83 (lv_at hl 0 rfl) ?_
      refine lv_iconst (v := 1) hx hb qd_V_put_85 (by decide) ?_
      refine lv_iload_n hx hb qd_V_put_86 rfl (lv_at hl 4 rfl) ?_
      have hwf2 : sh_wf 3 160 f2 (L.take k ++ (upd (fun j => f (k * 3 + j)) 0 fr) :: L.drop k) := ⟨hok2, by rw [ls_ins_len hkl]; omega, by decide, by decide, by decide⟩
      refine mk_mcallv (wr := [(vo, .inr (5, [.ref h]))]) (wf := (fun u => wV vo h b cA u.1.length u.2)) (va_runV (As := [.int (nI k), .int 1, .int vl]) (rest := []) ⟨hx, hb, hml, hown, hts⟩ (c_Sh_set l dC dI cA H.size h b 3 160 f2 (L.take k ++ (upd (fun j => f (k * 3 + j)) 0 fr) :: L.drop k) hwf2 k 1 vl (upd (fun j => f (k * 3 + j)) 0 fr) (ls_ins_at hkl) (by decide)) (cwV 3 hts gc_V_40 rfl rfl rfl (by decide +kernel) ⟨Nat.le_of_ble_eq_true rfl, Nat.le_of_ble_eq_true rfl⟩) (mk_muP hP hD [1, 2] (by decide) rfl hK (va_recv hK hP (ci := 4) (q0 := 1) rfl rfl)) rfl rfl hl.1 rfl (lv_room (Nat.le_of_ble_eq_true rfl)) qd_V_put_87 ⟨(Nat.zero_le _), (Nat.zero_le _)⟩) hS hA hP hD [1, 2] [0] [0, 1, 2] rfl rfl (by decide) (by decide) (by decide) (fun _ => rfl) (fun u_10 H locs hu_10 hP hD hS => ?_)
      obtain ⟨L1, f3⟩ := u_10
      have hu_10 : L1 = (L.take k ++ (upd (fun j => f (k * 3 + j)) 0 fr) :: L.drop k).set k (upd (upd (fun j => f (k * 3 + j)) 0 fr) 1 vl) ∧ sh_ok 3 f3 L1 := hu_10
      rw [ls_ins_set hkl] at hu_10
      obtain ⟨rfl, hok3⟩ := hu_10
      have hP : va_P (dC, dI) vwCl (wV vo h b cA ((L.take k ++ (upd (upd (fun j => f (k * 3 + j)) 0 fr) 1 vl) :: L.drop k).length) f3) H := hP
      have hD : va_D A (wV vo h b cA ((L.take k ++ (upd (upd (fun j => f (k * 3 + j)) 0 fr) 1 vl) :: L.drop k).length) f3) := hD
      refine lv_aload_n hx hb qd_V_put_90 rfl (lv_at hl 1 rfl) ?_
      refine va_get (D := (dC, dI)) (ci := 5) (v := .ref h) (C := qR_V) (T := qT_V) (N := 1) hx hb hts qin_V hown hK hP 0 rfl rfl 0 (by decide) (hts _ mw_80) (fun _ h9 => h9) rfl qd_V_put_91 ?_
      refine lv_iload hx hb qd_V_put_94 (lv_at hl 0 rfl) ?_
      refine lv_iconst (v := 2) hx hb qd_V_put_96 (by decide) ?_
      refine lv_iload_n hx hb qd_V_put_97 rfl (lv_at hl 2 rfl) ?_
      have hwf3 : sh_wf 3 160 f3 (L.take k ++ (upd (upd (fun j => f (k * 3 + j)) 0 fr) 1 vl) :: L.drop k) := ⟨hok3, by rw [ls_ins_len hkl]; omega, by decide, by decide, by decide⟩
      refine mk_mcallv (wr := [(vo, .inr (5, [.ref h]))]) (wf := (fun u => wV vo h b cA u.1.length u.2)) (va_runV (As := [.int (nI k), .int 2, .int pl]) (rest := []) ⟨hx, hb, hml, hown, hts⟩ (c_Sh_set l dC dI cA H.size h b 3 160 f3 (L.take k ++ (upd (upd (fun j => f (k * 3 + j)) 0 fr) 1 vl) :: L.drop k) hwf3 k 2 pl (upd (upd (fun j => f (k * 3 + j)) 0 fr) 1 vl) (ls_ins_at hkl) (by decide)) (cwV 3 hts gc_V_40 rfl rfl rfl (by decide +kernel) ⟨Nat.le_of_ble_eq_true rfl, Nat.le_of_ble_eq_true rfl⟩) (mk_muP hP hD [1, 2] (by decide) rfl hK (va_recv hK hP (ci := 4) (q0 := 1) rfl rfl)) rfl rfl hl.1 rfl (lv_room (Nat.le_of_ble_eq_true rfl)) qd_V_put_98 ⟨(Nat.zero_le _), (Nat.zero_le _)⟩) hS hA hP hD [1, 2] [0] [0, 1, 2] rfl rfl (by decide) (by decide) (by decide) (fun _ => rfl) (fun u_12 H locs hu_12 hP hD hS => ?_)
      obtain ⟨L1, f4⟩ := u_12
      have hu_12 : L1 = (L.take k ++ (upd (upd (fun j => f (k * 3 + j)) 0 fr) 1 vl) :: L.drop k).set k (upd (upd (upd (fun j => f (k * 3 + j)) 0 fr) 1 vl) 2 pl) ∧ sh_ok 3 f4 L1 := hu_12
      rw [ls_ins_set hkl] at hu_12
      obtain ⟨rfl, hok4⟩ := hu_12
      have hP : va_P (dC, dI) vwCl (wV vo h b cA ((L.take k ++ (upd (upd (upd (fun j => f (k * 3 + j)) 0 fr) 1 vl) 2 pl) :: L.drop k).length) f4) H := hP
      have hD : va_D A (wV vo h b cA ((L.take k ++ (upd (upd (upd (fun j => f (k * 3 + j)) 0 fr) 1 vl) 2 pl) :: L.drop k).length) f4) := hD
      exact mk_mvret (L.take k ++ (upd (upd (upd (fun j => f (k * 3 + j)) 0 fr) 1 vl) 2 pl) :: L.drop k, f4) hx hb hr hlocks hP hK hD hS qd_V_put_101 (⟨Or.inr ⟨hmiss, (upd (upd (upd (fun j => f (k * 3 + j)) 0 fr) 1 vl) 2 pl), rfl, rfl, rfl, rfl⟩, hok4⟩)
  · refine lv_aload_n hx hb qd_V_put_24 rfl (lv_at hl 1 rfl) ?_
    refine va_get (D := (dC, dI)) (ci := 5) (v := .ref h) (C := qR_V) (T := qT_V) (N := 1) hx hb hts qin_V hown hK hP 0 rfl rfl 0 (by decide) (hts _ mw_80) (fun _ h9 => h9) rfl qd_V_put_25 ?_
    refine lv_iload hx hb qd_V_put_28 (lv_at hl 0 rfl) ?_
    refine lv_iconst (v := 1) hx hb qd_V_put_30 (by decide) ?_
    refine lv_isub hx hb qd_V_put_31 ?_
    refine lv_iconst (v := 0) hx hb qd_V_put_32 (by decide) ?_
    refine mk_calli (va_runV (As := [.int ((nI k) - 1), .int 0]) (rest := []) ⟨hx, hb, hml, hown, hts⟩ (c_Sh_get l dC dI cA H.size h b 3 160 f L hwf ((nI k) - 1) 0) (cwV 2 hts gc_V_24 rfl rfl rfl (by decide +kernel) ⟨Nat.le_of_ble_eq_true rfl, Nat.le_of_ble_eq_true rfl⟩) (mk_roV hP [1, 2] rfl hK (va_recv hK hP (ci := 4) (q0 := 1) rfl rfl)) rfl rfl hl.1 rfl (lv_room (Nat.le_of_ble_eq_true rfl)) qd_V_put_33 ⟨(Nat.zero_le _), (Nat.zero_le _)⟩) hS hA hP (fun r_13 H locs hr_13 hP hS => ?_)
    have hr_13 : r_13 = sh_get 3 L ((nI k) - 1) 0 := hr_13
    refine lv_iload_n hx hb qd_V_put_36 rfl (lv_at hl 3 rfl) ?_
    refine lv_icmp_ne (tgt := 56) hx hb qd_V_put_37 (by decide) (fun c_14 => ?_) (fun c_14 => ?_)
    · have hmiss := vs_p3 (pl := pl) (by omega) hr_13 c_14
      refine lv_aload_n hx hb qd_V_put_56 rfl (lv_at hl 1 rfl) ?_
      refine va_get (D := (dC, dI)) (ci := 5) (v := .ref h) (C := qR_V) (T := qT_V) (N := 1) hx hb hts qin_V hown hK hP 0 rfl rfl 0 (by decide) (hts _ mw_80) (fun _ h9 => h9) rfl qd_V_put_57 ?_
      refine lv_iload hx hb qd_V_put_60 (lv_at hl 0 rfl) ?_
      refine mk_mcalli (wr := [(vo, .inr (5, [.ref h]))]) (wf := (fun u => wV vo h b cA u.1.length u.2)) (va_runV (As := [.int (nI k)]) (rest := []) ⟨hx, hb, hml, hown, hts⟩ (c_Sh_open l dC dI cA H.size h b 3 160 f L hwf k hkl hroom) (cwV 1 hts gc_V_44 rfl rfl rfl (by decide +kernel) ⟨Nat.le_of_ble_eq_true rfl, Nat.le_of_ble_eq_true rfl⟩) (mk_muP hP hD [1, 2] (by decide) rfl hK (va_recv hK hP (ci := 4) (q0 := 1) rfl rfl)) rfl rfl hl.1 rfl (lv_room (Nat.le_of_ble_eq_true rfl)) qd_V_put_62 ⟨(Nat.zero_le _), (Nat.zero_le _)⟩) hS hA hP hD [1, 2] [0] [0, 1, 2] rfl rfl (by decide) (by decide) (by decide) (fun _ => rfl) (fun r_15 u_16 H locs hr_15 hP hD hS => ?_)
      obtain ⟨L1, f1⟩ := u_16
      obtain ⟨rfl, rfl, hok1⟩ : r_15 = 1 ∧ L1 = L.take k ++ (fun j => f (k * 3 + j)) :: L.drop k ∧ sh_ok 3 f1 L1 := hr_15
      have hP : va_P (dC, dI) vwCl (wV vo h b cA ((L.take k ++ (fun j => f (k * 3 + j)) :: L.drop k).length) f1) H := hP
      have hD : va_D A (wV vo h b cA ((L.take k ++ (fun j => f (k * 3 + j)) :: L.drop k).length) f1) := hD
      refine lv_if_eq (tgt := 101) hx hb qd_V_put_65 (by decide) (fun c_17 => ?_) (fun c_17 => ?_)
      · exact absurd c_17 (by decide)
      · refine lv_aload_n hx hb qd_V_put_68 rfl (lv_at hl 1 rfl) ?_
        refine va_get (D := (dC, dI)) (ci := 5) (v := .ref h) (C := qR_V) (T := qT_V) (N := 1) hx hb hts qin_V hown hK hP 0 rfl rfl 0 (by decide) (hts _ mw_80) (fun _ h9 => h9) rfl qd_V_put_69 ?_
        refine lv_iload hx hb qd_V_put_72 (lv_at hl 0 rfl) ?_
        refine lv_iconst (v := 0) hx hb qd_V_put_74 (by decide) ?_
        refine lv_iload_n hx hb qd_V_put_75 rfl (lv_at hl 3 rfl) ?_
        have hwf1 : sh_wf 3 160 f1 (L.take k ++ (fun j => f (k * 3 + j)) :: L.drop k) := ⟨hok1, by rw [ls_ins_len hkl]; omega, by decide, by decide, by decide⟩
        refine mk_mcallv (wr := [(vo, .inr (5, [.ref h]))]) (wf := (fun u => wV vo h b cA u.1.length u.2)) (va_runV (As := [.int (nI k), .int 0, .int fr]) (rest := []) ⟨hx, hb, hml, hown, hts⟩ (c_Sh_set l dC dI cA H.size h b 3 160 f1 (L.take k ++ (fun j => f (k * 3 + j)) :: L.drop k) hwf1 k 0 fr (fun j => f (k * 3 + j)) (ls_ins_at hkl) (by decide)) (cwV 3 hts gc_V_40 rfl rfl rfl (by decide +kernel) ⟨Nat.le_of_ble_eq_true rfl, Nat.le_of_ble_eq_true rfl⟩) (mk_muP hP hD [1, 2] (by decide) rfl hK (va_recv hK hP (ci := 4) (q0 := 1) rfl rfl)) rfl rfl hl.1 rfl (lv_room (Nat.le_of_ble_eq_true rfl)) qd_V_put_76 ⟨(Nat.zero_le _), (Nat.zero_le _)⟩) hS hA hP hD [1, 2] [0] [0, 1, 2] rfl rfl (by decide) (by decide) (by decide) (fun _ => rfl) (fun u_19 H locs hu_19 hP hD hS => ?_)
        obtain ⟨L1, f2⟩ := u_19
        have hu_19 : L1 = (L.take k ++ (fun j => f (k * 3 + j)) :: L.drop k).set k (upd (fun j => f (k * 3 + j)) 0 fr) ∧ sh_ok 3 f2 L1 := hu_19
        rw [ls_ins_set hkl] at hu_19
        obtain ⟨rfl, hok2⟩ := hu_19
        have hP : va_P (dC, dI) vwCl (wV vo h b cA ((L.take k ++ (upd (fun j => f (k * 3 + j)) 0 fr) :: L.drop k).length) f2) H := hP
        have hD : va_D A (wV vo h b cA ((L.take k ++ (upd (fun j => f (k * 3 + j)) 0 fr) :: L.drop k).length) f2) := hD
        refine lv_aload_n hx hb qd_V_put_79 rfl (lv_at hl 1 rfl) ?_
        refine va_get (D := (dC, dI)) (ci := 5) (v := .ref h) (C := qR_V) (T := qT_V) (N := 1) hx hb hts qin_V hown hK hP 0 rfl rfl 0 (by decide) (hts _ mw_80) (fun _ h9 => h9) rfl qd_V_put_80 ?_
        refine lv_iload hx hb qd_V_put_83 (lv_at hl 0 rfl) ?_
        refine lv_iconst (v := 1) hx hb qd_V_put_85 (by decide) ?_
        refine lv_iload_n hx hb qd_V_put_86 rfl (lv_at hl 4 rfl) ?_
        have hwf2 : sh_wf 3 160 f2 (L.take k ++ (upd (fun j => f (k * 3 + j)) 0 fr) :: L.drop k) := ⟨hok2, by rw [ls_ins_len hkl]; omega, by decide, by decide, by decide⟩
        refine mk_mcallv (wr := [(vo, .inr (5, [.ref h]))]) (wf := (fun u => wV vo h b cA u.1.length u.2)) (va_runV (As := [.int (nI k), .int 1, .int vl]) (rest := []) ⟨hx, hb, hml, hown, hts⟩ (c_Sh_set l dC dI cA H.size h b 3 160 f2 (L.take k ++ (upd (fun j => f (k * 3 + j)) 0 fr) :: L.drop k) hwf2 k 1 vl (upd (fun j => f (k * 3 + j)) 0 fr) (ls_ins_at hkl) (by decide)) (cwV 3 hts gc_V_40 rfl rfl rfl (by decide +kernel) ⟨Nat.le_of_ble_eq_true rfl, Nat.le_of_ble_eq_true rfl⟩) (mk_muP hP hD [1, 2] (by decide) rfl hK (va_recv hK hP (ci := 4) (q0 := 1) rfl rfl)) rfl rfl hl.1 rfl (lv_room (Nat.le_of_ble_eq_true rfl)) qd_V_put_87 ⟨(Nat.zero_le _), (Nat.zero_le _)⟩) hS hA hP hD [1, 2] [0] [0, 1, 2] rfl rfl (by decide) (by decide) (by decide) (fun _ => rfl) (fun u_21 H locs hu_21 hP hD hS => ?_)
        obtain ⟨L1, f3⟩ := u_21
        have hu_21 : L1 = (L.take k ++ (upd (fun j => f (k * 3 + j)) 0 fr) :: L.drop k).set k (upd (upd (fun j => f (k * 3 + j)) 0 fr) 1 vl) ∧ sh_ok 3 f3 L1 := hu_21
        rw [ls_ins_set hkl] at hu_21
        obtain ⟨rfl, hok3⟩ := hu_21
        have hP : va_P (dC, dI) vwCl (wV vo h b cA ((L.take k ++ (upd (upd (fun j => f (k * 3 + j)) 0 fr) 1 vl) :: L.drop k).length) f3) H := hP
        have hD : va_D A (wV vo h b cA ((L.take k ++ (upd (upd (fun j => f (k * 3 + j)) 0 fr) 1 vl) :: L.drop k).length) f3) := hD
        refine lv_aload_n hx hb qd_V_put_90 rfl (lv_at hl 1 rfl) ?_
        refine va_get (D := (dC, dI)) (ci := 5) (v := .ref h) (C := qR_V) (T := qT_V) (N := 1) hx hb hts qin_V hown hK hP 0 rfl rfl 0 (by decide) (hts _ mw_80) (fun _ h9 => h9) rfl qd_V_put_91 ?_
        refine lv_iload hx hb qd_V_put_94 (lv_at hl 0 rfl) ?_
        refine lv_iconst (v := 2) hx hb qd_V_put_96 (by decide) ?_
        refine lv_iload_n hx hb qd_V_put_97 rfl (lv_at hl 2 rfl) ?_
        have hwf3 : sh_wf 3 160 f3 (L.take k ++ (upd (upd (fun j => f (k * 3 + j)) 0 fr) 1 vl) :: L.drop k) := ⟨hok3, by rw [ls_ins_len hkl]; omega, by decide, by decide, by decide⟩
        refine mk_mcallv (wr := [(vo, .inr (5, [.ref h]))]) (wf := (fun u => wV vo h b cA u.1.length u.2)) (va_runV (As := [.int (nI k), .int 2, .int pl]) (rest := []) ⟨hx, hb, hml, hown, hts⟩ (c_Sh_set l dC dI cA H.size h b 3 160 f3 (L.take k ++ (upd (upd (fun j => f (k * 3 + j)) 0 fr) 1 vl) :: L.drop k) hwf3 k 2 pl (upd (upd (fun j => f (k * 3 + j)) 0 fr) 1 vl) (ls_ins_at hkl) (by decide)) (cwV 3 hts gc_V_40 rfl rfl rfl (by decide +kernel) ⟨Nat.le_of_ble_eq_true rfl, Nat.le_of_ble_eq_true rfl⟩) (mk_muP hP hD [1, 2] (by decide) rfl hK (va_recv hK hP (ci := 4) (q0 := 1) rfl rfl)) rfl rfl hl.1 rfl (lv_room (Nat.le_of_ble_eq_true rfl)) qd_V_put_98 ⟨(Nat.zero_le _), (Nat.zero_le _)⟩) hS hA hP hD [1, 2] [0] [0, 1, 2] rfl rfl (by decide) (by decide) (by decide) (fun _ => rfl) (fun u_23 H locs hu_23 hP hD hS => ?_)
        obtain ⟨L1, f4⟩ := u_23
        have hu_23 : L1 = (L.take k ++ (upd (upd (fun j => f (k * 3 + j)) 0 fr) 1 vl) :: L.drop k).set k (upd (upd (upd (fun j => f (k * 3 + j)) 0 fr) 1 vl) 2 pl) ∧ sh_ok 3 f4 L1 := hu_23
        rw [ls_ins_set hkl] at hu_23
        obtain ⟨rfl, hok4⟩ := hu_23
        have hP : va_P (dC, dI) vwCl (wV vo h b cA ((L.take k ++ (upd (upd (upd (fun j => f (k * 3 + j)) 0 fr) 1 vl) 2 pl) :: L.drop k).length) f4) H := hP
        have hD : va_D A (wV vo h b cA ((L.take k ++ (upd (upd (upd (fun j => f (k * 3 + j)) 0 fr) 1 vl) 2 pl) :: L.drop k).length) f4) := hD
        exact mk_mvret (L.take k ++ (upd (upd (upd (fun j => f (k * 3 + j)) 0 fr) 1 vl) 2 pl) :: L.drop k, f4) hx hb hr hlocks hP hK hD hS qd_V_put_101 (⟨Or.inr ⟨hmiss, (upd (upd (upd (fun j => f (k * 3 + j)) 0 fr) 1 vl) 2 pl), rfl, rfl, rfl, rfl⟩, hok4⟩)
    · obtain ⟨r0, hk0, hr0, e1, e2⟩ := vs_p1 (by omega) hkl hpl hr_2 hr_13 c_3 c_14
      refine lv_aload_n hx hb qd_V_put_40 rfl (lv_at hl 1 rfl) ?_
      refine va_get (D := (dC, dI)) (ci := 5) (v := .ref h) (C := qR_V) (T := qT_V) (N := 1) hx hb hts qin_V hown hK hP 0 rfl rfl 0 (by decide) (hts _ mw_80) (fun _ h9 => h9) rfl qd_V_put_41 ?_
      refine lv_iload hx hb qd_V_put_44 (lv_at hl 0 rfl) ?_
      refine lv_iconst (v := 1) hx hb qd_V_put_46 (by decide) ?_
      refine lv_isub hx hb qd_V_put_47 ?_
      refine lv_iconst (v := 1) hx hb qd_V_put_48 (by decide) ?_
      refine lv_iload_n hx hb qd_V_put_49 rfl (lv_at hl 4 rfl) ?_
      refine mk_rw3 (y := nI (k - 1)) (pk_sub (b := 1) (by omega)) ?_
      refine mk_mcallv (wr := [(vo, .inr (5, [.ref h]))]) (wf := (fun u => wV vo h b cA u.1.length u.2)) (va_runV (As := [.int (nI (k - 1)), .int 1, .int vl]) (rest := []) ⟨hx, hb, hml, hown, hts⟩ (c_Sh_set l dC dI cA H.size h b 3 160 f L hwf (k - 1) 1 vl r0 hr0 (by decide)) (cwV 3 hts gc_V_40 rfl rfl rfl (by decide +kernel) ⟨Nat.le_of_ble_eq_true rfl, Nat.le_of_ble_eq_true rfl⟩) (mk_muP hP hD [1, 2] (by decide) rfl hK (va_recv hK hP (ci := 4) (q0 := 1) rfl rfl)) rfl rfl hl.1 rfl (lv_room (Nat.le_of_ble_eq_true rfl)) qd_V_put_50 ⟨(Nat.zero_le _), (Nat.zero_le _)⟩) hS hA hP hD [1, 2] [0] [0, 1, 2] rfl rfl (by decide) (by decide) (by decide) (fun _ => rfl) (fun u_25 H locs hu_25 hP hD hS => ?_)
      obtain ⟨L1, f1⟩ := u_25
      obtain ⟨rfl, hok1⟩ : L1 = L.set (k - 1) (upd r0 1 vl) ∧ sh_ok 3 f1 L1 := hu_25
      have hP : va_P (dC, dI) vwCl (wV vo h b cA ((L.set (k - 1) (upd r0 1 vl)).length) f1) H := hP
      have hD : va_D A (wV vo h b cA ((L.set (k - 1) (upd r0 1 vl)).length) f1) := hD
      refine lv_goto (tgt := 101) hx hb qd_V_put_53 (by decide) ?_
      exact mk_mvret (L.set (k - 1) (upd r0 1 vl), f1) hx hb hr hlocks hP hK hD hS qd_V_put_101 (⟨Or.inl ⟨r0, hk0, hr0, e1, e2, rfl⟩, hok1⟩)
end
section
set_option maxHeartbeats 4000000 in
set_option maxRecDepth 100000 in
/-- size() -/
theorem c_R_size (l : Launch) (dC : Nat → ClassId) (dI : Nat → Nat → Nat) (cA : ClassId) (sz : Nat) (ro h b : Nat) (f : Nat → Int32) (L : List (Nat → Int32)) (hwf : sh_wf 12 96 f L) : Met l qy_R_size qw_R_size ({ frames := 1, cells := 0, slots := 0, locals := 20 }) (mk_ro [.ref ro] sz (dC, dI) vwCl [(cA, .int)] (wR ro h b cA L.length f)) (mk_roQ (fun r => r = nI L.length) sz) 0 0 (mk_new sz) := by
  refine Met.ofW (cc := qb_R_size) (maxL := 1) (ret := (some .int)) (by decide) rfl ?_
  intro p e s m args below meth c s₁ B hml hpre
  obtain ⟨rfl, hsz, hP, hK⟩ := hpre
  have hx := B.exec
  have hb := B.bytes
  have hr := B.returns
  have hts0 := atoms_spec (ws := qw_R_size) B.pre
  have hts := fun w (h : w ∈ lw_gd) => hts0 w (List.mem_cons_of_mem _ h)
  have hown : s.vm.findClass qR_R = some m.cls := findClass_of_methodNamed B.named
  have hlocks := B.notSynchronized
  subst hsz
  have hA : ∀ q : Nat, s.heap.size ≤ q → mk_new s.heap.size q := fun _ h => h
  have hS : va_S (mk_new s.heap.size) s.heap s.heap [] := va_S.rf
  have hl := lv_entry ([.ref ro]) (n := 1) (Nat.le_of_ble_eq_true rfl)
  rw [lg_entry_eq]
  generalize (lg_sl ([.ref ro]) ++ List.replicate (1 - (lg_sl ([.ref ro])).length) Slot.unset).toArray = ls at hl ⊢
  have hl : lv_has ls 1 [(0, .ref ro)] := hl
  have hP : va_P (dC, dI) vwCl (wR ro h b cA L.length f) s.heap := hP
  refine mk_start (A := (mk_new s.heap.size)) hP (fun H locs hP hS => ?_)
  refine lv_aload_n hx hb qd_R_size_0 rfl (lv_at hl 0 rfl) ?_
  refine va_get (D := (dC, dI)) (ci := 3) (v := .ref h) (C := qR_R) (T := qT_R) (N := 1) hx hb hts qin_R hown hK hP 0 rfl rfl 0 (by decide) (hts _ mw_92) (fun _ h9 => h9) rfl qd_R_size_1 ?_
  refine mk_calli (va_runV (As := []) (rest := []) ⟨hx, hb, hml, hown, hts⟩ (c_Sh_size l dC dI cA H.size h b 12 96 f L hwf) (cwV 0 hts gc_R_20 rfl rfl rfl (by decide +kernel) ⟨Nat.le_of_ble_eq_true rfl, Nat.le_of_ble_eq_true rfl⟩) (mk_roV hP [1, 2] rfl hK (va_recv hK hP (ci := 4) (q0 := 1) rfl rfl)) rfl rfl hl.1 rfl (lv_room (Nat.le_of_ble_eq_true rfl)) qd_R_size_4 ⟨(Nat.zero_le _), (Nat.zero_le _)⟩) hS hA hP (fun r_1 H locs hr_1 hP hS => ?_)
  obtain rfl : r_1 = nI L.length := hr_1
  exact mk_iret hx hb hr hlocks hS qd_R_size_7 (rfl)
set_option maxHeartbeats 4000000 in
set_option maxRecDepth 100000 in
/-- get(line, column) -/
theorem c_R_get (l : Launch) (dC : Nat → ClassId) (dI : Nat → Nat → Nat) (cA : ClassId) (sz : Nat) (ro h b : Nat) (f : Nat → Int32) (L : List (Nat → Int32)) (hwf : sh_wf 12 96 f L) (i j : Int32) : Met l qy_R_get qw_R_get ({ frames := 1, cells := 0, slots := 0, locals := 22 }) (mk_ro [.ref ro, .int i, .int j] sz (dC, dI) vwCl [(cA, .int)] (wR ro h b cA L.length f)) (mk_roQ (fun r => r = sh_get 12 L i j) sz) 0 0 (mk_new sz) := by
  refine Met.ofW (cc := qb_R_get) (maxL := 3) (ret := (some .int)) (by decide) rfl ?_
  intro p e s m args below meth c s₁ B hml hpre
  obtain ⟨rfl, hsz, hP, hK⟩ := hpre
  have hx := B.exec
  have hb := B.bytes
  have hr := B.returns
  have hts0 := atoms_spec (ws := qw_R_get) B.pre
  have hts := fun w (h : w ∈ lw_gd) => hts0 w (List.mem_cons_of_mem _ h)
  have hown : s.vm.findClass qR_R = some m.cls := findClass_of_methodNamed B.named
  have hlocks := B.notSynchronized
  subst hsz
  have hA : ∀ q : Nat, s.heap.size ≤ q → mk_new s.heap.size q := fun _ h => h
  have hS : va_S (mk_new s.heap.size) s.heap s.heap [] := va_S.rf
  have hl := lv_entry ([.ref ro, .int i, .int j]) (n := 3) (Nat.le_of_ble_eq_true rfl)
  rw [lg_entry_eq]
  generalize (lg_sl ([.ref ro, .int i, .int j]) ++ List.replicate (3 - (lg_sl ([.ref ro, .int i, .int j])).length) Slot.unset).toArray = ls at hl ⊢
  have hl : lv_has ls 3 [(0, .ref ro), (1, .int i), (2, .int j)] := hl
  have hP : va_P (dC, dI) vwCl (wR ro h b cA L.length f) s.heap := hP
  refine mk_start (A := (mk_new s.heap.size)) hP (fun H locs hP hS => ?_)
  refine lv_aload_n hx hb qd_R_get_0 rfl (lv_at hl 0 rfl) ?_
  refine va_get (D := (dC, dI)) (ci := 3) (v := .ref h) (C := qR_R) (T := qT_R) (N := 1) hx hb hts qin_R hown hK hP 0 rfl rfl 0 (by decide) (hts _ mw_92) (fun _ h9 => h9) rfl qd_R_get_1 ?_
  refine lv_iload_n hx hb qd_R_get_4 rfl (lv_at hl 1 rfl) ?_
  refine lv_iload_n hx hb qd_R_get_5 rfl (lv_at hl 2 rfl) ?_
  refine mk_calli (va_runV (As := [.int i, .int j]) (rest := []) ⟨hx, hb, hml, hown, hts⟩ (c_Sh_get l dC dI cA H.size h b 12 96 f L hwf i j) (cwV 2 hts gc_R_24 rfl rfl rfl (by decide +kernel) ⟨Nat.le_of_ble_eq_true rfl, Nat.le_of_ble_eq_true rfl⟩) (mk_roV hP [1, 2] rfl hK (va_recv hK hP (ci := 4) (q0 := 1) rfl rfl)) rfl rfl hl.1 rfl (lv_room (Nat.le_of_ble_eq_true rfl)) qd_R_get_6 ⟨(Nat.zero_le _), (Nat.zero_le _)⟩) hS hA hP (fun r_1 H locs hr_1 hP hS => ?_)
  obtain rfl : r_1 = sh_get 12 L i j := hr_1
  exact mk_iret hx hb hr hlocks hS qd_R_get_9 (rfl)
set_option maxHeartbeats 4000000 in
set_option maxRecDepth 100000 in
/-- waits(line) -/
theorem c_R_waits (l : Launch) (dC : Nat → ClassId) (dI : Nat → Nat → Nat) (cA : ClassId) (sz : Nat) (ro h b : Nat) (f : Nat → Int32) (L : List (Nat → Int32)) (hwf : sh_wf 12 96 f L) (i : Int32) : Met l qy_R_waits qw_R_waits ({ frames := 1, cells := 0, slots := 0, locals := 22 }) (mk_ro [.ref ro, .int i] sz (dC, dI) vwCl [(cA, .int)] (wR ro h b cA L.length f)) (mk_roQ (fun r => r = if sh_get 12 L i 4 = 1 then 1 else 0) sz) 0 0 (mk_new sz) := by
  refine Met.ofW (cc := qb_R_waits) (maxL := 2) (ret := (some .boolean)) (by decide) rfl ?_
  intro p e s m args below meth c s₁ B hml hpre
  obtain ⟨rfl, hsz, hP, hK⟩ := hpre
  have hx := B.exec
  have hb := B.bytes
  have hr := B.returns
  have hts0 := atoms_spec (ws := qw_R_waits) B.pre
  have hts := fun w (h : w ∈ lw_gd) => hts0 w (List.mem_cons_of_mem _ h)
  have hown : s.vm.findClass qR_R = some m.cls := findClass_of_methodNamed B.named
  have hlocks := B.notSynchronized
  subst hsz
  have hA : ∀ q : Nat, s.heap.size ≤ q → mk_new s.heap.size q := fun _ h => h
  have hS : va_S (mk_new s.heap.size) s.heap s.heap [] := va_S.rf
  have hl := lv_entry ([.ref ro, .int i]) (n := 2) (Nat.le_of_ble_eq_true rfl)
  rw [lg_entry_eq]
  generalize (lg_sl ([.ref ro, .int i]) ++ List.replicate (2 - (lg_sl ([.ref ro, .int i])).length) Slot.unset).toArray = ls at hl ⊢
  have hl : lv_has ls 2 [(0, .ref ro), (1, .int i)] := hl
  have hP : va_P (dC, dI) vwCl (wR ro h b cA L.length f) s.heap := hP
  refine mk_start (A := (mk_new s.heap.size)) hP (fun H locs hP hS => ?_)
  refine lv_aload_n hx hb qd_R_waits_0 rfl (lv_at hl 0 rfl) ?_
  refine va_get (D := (dC, dI)) (ci := 3) (v := .ref h) (C := qR_R) (T := qT_R) (N := 1) hx hb hts qin_R hown hK hP 0 rfl rfl 0 (by decide) (hts _ mw_92) (fun _ h9 => h9) rfl qd_R_waits_1 ?_
  refine lv_iload_n hx hb qd_R_waits_4 rfl (lv_at hl 1 rfl) ?_
  refine lv_iconst (v := 4) hx hb qd_R_waits_5 (by decide) ?_
  refine mk_calli (va_runV (As := [.int i, .int 4]) (rest := []) ⟨hx, hb, hml, hown, hts⟩ (c_Sh_get l dC dI cA H.size h b 12 96 f L hwf i 4) (cwV 2 hts gc_R_24 rfl rfl rfl (by decide +kernel) ⟨Nat.le_of_ble_eq_true rfl, Nat.le_of_ble_eq_true rfl⟩) (mk_roV hP [1, 2] rfl hK (va_recv hK hP (ci := 4) (q0 := 1) rfl rfl)) rfl rfl hl.1 rfl (lv_room (Nat.le_of_ble_eq_true rfl)) qd_R_waits_6 ⟨(Nat.zero_le _), (Nat.zero_le _)⟩) hS hA hP (fun r_1 H locs hr_1 hP hS => ?_)
  obtain rfl : r_1 = sh_get 12 L i 4 := hr_1
  refine lv_iconst (v := 1) hx hb qd_R_waits_9 (by decide) ?_
  refine lv_icmp_ne (tgt := 17) hx hb qd_R_waits_10 (by decide) (fun c_2 => ?_) (fun c_2 => ?_)
  · refine lv_iconst (v := 0) hx hb qd_R_waits_17 (by decide) ?_
    exact mk_zret hx hb hr hlocks hS qd_R_waits_18 (by decide) ((if_neg c_2).symm)
  · refine lv_iconst (v := 1) hx hb qd_R_waits_13 (by decide) ?_
    refine lv_goto (tgt := 18) hx hb qd_R_waits_14 (by decide) ?_
    exact mk_zret hx hb hr hlocks hS qd_R_waits_18 (by decide) ((if_pos c_2).symm)
set_option maxHeartbeats 4000000 in
set_option maxRecDepth 100000 in
/-- wasGiven(line) -/
theorem c_R_wasGiven (l : Launch) (dC : Nat → ClassId) (dI : Nat → Nat → Nat) (cA : ClassId) (sz : Nat) (ro h b : Nat) (f : Nat → Int32) (L : List (Nat → Int32)) (hwf : sh_wf 12 96 f L) (i : Int32) : Met l qy_R_wasGiven qw_R_wasGiven ({ frames := 1, cells := 0, slots := 0, locals := 22 }) (mk_ro [.ref ro, .int i] sz (dC, dI) vwCl [(cA, .int)] (wR ro h b cA L.length f)) (mk_roQ (fun r => r = if sh_get 12 L i 5 = 1 then 1 else 0) sz) 0 0 (mk_new sz) := by
  refine Met.ofW (cc := qb_R_wasGiven) (maxL := 2) (ret := (some .boolean)) (by decide) rfl ?_
  intro p e s m args below meth c s₁ B hml hpre
  obtain ⟨rfl, hsz, hP, hK⟩ := hpre
  have hx := B.exec
  have hb := B.bytes
  have hr := B.returns
  have hts0 := atoms_spec (ws := qw_R_wasGiven) B.pre
  have hts := fun w (h : w ∈ lw_gd) => hts0 w (List.mem_cons_of_mem _ h)
  have hown : s.vm.findClass qR_R = some m.cls := findClass_of_methodNamed B.named
  have hlocks := B.notSynchronized
  subst hsz
  have hA : ∀ q : Nat, s.heap.size ≤ q → mk_new s.heap.size q := fun _ h => h
  have hS : va_S (mk_new s.heap.size) s.heap s.heap [] := va_S.rf
  have hl := lv_entry ([.ref ro, .int i]) (n := 2) (Nat.le_of_ble_eq_true rfl)
  rw [lg_entry_eq]
  generalize (lg_sl ([.ref ro, .int i]) ++ List.replicate (2 - (lg_sl ([.ref ro, .int i])).length) Slot.unset).toArray = ls at hl ⊢
  have hl : lv_has ls 2 [(0, .ref ro), (1, .int i)] := hl
  have hP : va_P (dC, dI) vwCl (wR ro h b cA L.length f) s.heap := hP
  refine mk_start (A := (mk_new s.heap.size)) hP (fun H locs hP hS => ?_)
  refine lv_aload_n hx hb qd_R_wasGiven_0 rfl (lv_at hl 0 rfl) ?_
  refine va_get (D := (dC, dI)) (ci := 3) (v := .ref h) (C := qR_R) (T := qT_R) (N := 1) hx hb hts qin_R hown hK hP 0 rfl rfl 0 (by decide) (hts _ mw_92) (fun _ h9 => h9) rfl qd_R_wasGiven_1 ?_
  refine lv_iload_n hx hb qd_R_wasGiven_4 rfl (lv_at hl 1 rfl) ?_
  refine lv_iconst (v := 5) hx hb qd_R_wasGiven_5 (by decide) ?_
  refine mk_calli (va_runV (As := [.int i, .int 5]) (rest := []) ⟨hx, hb, hml, hown, hts⟩ (c_Sh_get l dC dI cA H.size h b 12 96 f L hwf i 5) (cwV 2 hts gc_R_24 rfl rfl rfl (by decide +kernel) ⟨Nat.le_of_ble_eq_true rfl, Nat.le_of_ble_eq_true rfl⟩) (mk_roV hP [1, 2] rfl hK (va_recv hK hP (ci := 4) (q0 := 1) rfl rfl)) rfl rfl hl.1 rfl (lv_room (Nat.le_of_ble_eq_true rfl)) qd_R_wasGiven_6 ⟨(Nat.zero_le _), (Nat.zero_le _)⟩) hS hA hP (fun r_1 H locs hr_1 hP hS => ?_)
  obtain rfl : r_1 = sh_get 12 L i 5 := hr_1
  refine lv_iconst (v := 1) hx hb qd_R_wasGiven_9 (by decide) ?_
  refine lv_icmp_ne (tgt := 17) hx hb qd_R_wasGiven_10 (by decide) (fun c_2 => ?_) (fun c_2 => ?_)
  · refine lv_iconst (v := 0) hx hb qd_R_wasGiven_17 (by decide) ?_
    exact mk_zret hx hb hr hlocks hS qd_R_wasGiven_18 (by decide) ((if_neg c_2).symm)
  · refine lv_iconst (v := 1) hx hb qd_R_wasGiven_13 (by decide) ?_
    refine lv_goto (tgt := 18) hx hb qd_R_wasGiven_14 (by decide) ?_
    exact mk_zret hx hb hr hlocks hS qd_R_wasGiven_18 (by decide) ((if_pos c_2).symm)
set_option maxHeartbeats 4000000 in
set_option maxRecDepth 100000 in
/-- add(number, key, time, value), where there is room -/
theorem c_R_add (l : Launch) (dC : Nat → ClassId) (dI : Nat → Nat → Nat) (cA : ClassId) (sz : Nat) (ro h b : Nat) (f : Nat → Int32) (L : List (Nat → Int32)) (hwf : sh_wf 12 96 f L) (nu ky tm vl : Int32) (hroom : L.length < 96) : Met l qy_R_add qw_R_add ({ frames := 2, cells := 0, slots := 0, locals := 82 }) (mk_mu [.ref ro, .int nu, .int ky, .int tm, .int vl] sz (dC, dI) vwCl [(cA, .int)] (wR ro h b cA L.length f)) (mk_muV (S := List (Nat → Int32) × (Nat → Int32)) (fun u => rs_add L nu ky tm vl u.1 ∧ sh_ok 12 u.2 u.1) (fun u => wR ro h b cA u.1.length u.2) (dC, dI) vwCl [(cA, .int)] (va_A (wR ro h b cA L.length f) sz)) 0 0 (va_A (wR ro h b cA L.length f) sz) := by
  refine Met.ofW (cc := qb_R_add) (maxL := 6) (ret := none) (by decide) rfl ?_
  intro p e s m args below meth c s₁ B hml hpre
  obtain ⟨rfl, hsz, hP, hK, hD0⟩ := hpre
  have hx := B.exec
  have hb := B.bytes
  have hr := B.returns
  have hts0 := atoms_spec (ws := qw_R_add) B.pre
  have hts := fun w (h : w ∈ lw_gd) => hts0 w (List.mem_cons_of_mem _ h)
  have hown : s.vm.findClass qR_R = some m.cls := findClass_of_methodNamed B.named
  have hlocks := B.notSynchronized
  subst hsz
  have hD := hD0.self (sz := s.heap.size)
  generalize hAe : va_A (wR ro h b cA L.length f) s.heap.size = A at hD ⊢
  have hA : ∀ q : Nat, s.heap.size ≤ q → A q := fun q h => by rw [← hAe]; exact Or.inr h
  have hS : va_S A s.heap s.heap [] := va_S.rf
  have hl := lv_entry ([.ref ro, .int nu, .int ky, .int tm, .int vl]) (n := 6) (Nat.le_of_ble_eq_true rfl)
  rw [lg_entry_eq]
  generalize (lg_sl ([.ref ro, .int nu, .int ky, .int tm, .int vl]) ++ List.replicate (6 - (lg_sl ([.ref ro, .int nu, .int ky, .int tm, .int vl])).length) Slot.unset).toArray = ls at hl ⊢
  have hl : lv_has ls 6 [(0, .ref ro), (1, .int nu), (2, .int ky), (3, .int tm), (4, .int vl)] := hl
  have hP : va_P (dC, dI) vwCl (wR ro h b cA L.length f) s.heap := hP
  refine mk_start (A := A) hP (fun H locs hP hS => ?_)
  obtain ⟨hok, hlen, -, -, -⟩ := id hwf
  refine lv_aload_n hx hb qd_R_add_0 rfl (lv_at hl 0 rfl) ?_
  refine va_get (D := (dC, dI)) (ci := 3) (v := .ref h) (C := qR_R) (T := qT_R) (N := 1) hx hb hts qin_R hown hK hP 0 rfl rfl 0 (by decide) (hts _ mw_92) (fun _ h9 => h9) rfl qd_R_add_1 ?_
  refine mk_calli (va_runV (As := []) (rest := []) ⟨hx, hb, hml, hown, hts⟩ (c_Sh_size l dC dI cA H.size h b 12 96 f L hwf) (cwV 0 hts gc_R_20 rfl rfl rfl (by decide +kernel) ⟨Nat.le_of_ble_eq_true rfl, Nat.le_of_ble_eq_true rfl⟩) (mk_roV hP [1, 2] rfl hK (va_recv hK hP (ci := 4) (q0 := 1) rfl rfl)) rfl rfl hl.1 rfl (lv_room (Nat.le_of_ble_eq_true rfl)) qd_R_add_4 ⟨(Nat.zero_le _), (Nat.zero_le _)⟩) hS hA hP (fun r_1 H locs hr_1 hP hS => ?_)
  obtain rfl : r_1 = nI L.length := hr_1
  refine lv_istore (lv' := [(5, .int (nI L.length)), (0, .ref ro), (1, .int nu), (2, .int ky), (3, .int tm), (4, .int vl)]) hx hb qd_R_add_7 hl (by decide) rfl (fun ls hl => ?_)
  refine mk_after (σ := Nat) (fun y9 H locs ls => (rs_pos L tm y9) ∧ va_P (dC, dI) vwCl (wR ro h b cA L.length f) H ∧ va_D A (wR ro h b cA L.length f) ∧ va_S A s.heap H locs ∧ lv_has ls 6 [(0, .ref ro), (1, .int nu), (2, .int ky), (3, .int tm), (4, .int vl), (5, .int (nI y9))]) (fun ls => F0 m 36 ls []) (fun y9 H locs ls hI => ?_) (fun J_2 => ?_)
  · obtain ⟨k, rfl⟩ : ∃ z, z = y9 := ⟨_, rfl⟩
    obtain ⟨hinv, hP, hD, hS, hl⟩ := hI
    have hinv : rs_pos L tm k := hinv
    have hP : va_P (dC, dI) vwCl (wR ro h b cA L.length f) H := hP
    have hD : va_D A (wR ro h b cA L.length f) := hD
    have hl : lv_has ls 6 [(0, .ref ro), (1, .int nu), (2, .int ky), (3, .int tm), (4, .int vl), (5, .int (nI k))] := hl
    have hkl := hinv.1
    refine lv_aload_n hx hb qd_R_add_36 rfl (lv_at hl 0 rfl) ?_
    refine va_get (D := (dC, dI)) (ci := 3) (v := .ref h) (C := qR_R) (T := qT_R) (N := 1) hx hb hts qin_R hown hK hP 0 rfl rfl 0 (by decide) (hts _ mw_92) (fun _ h9 => h9) rfl qd_R_add_37 ?_
    refine lv_iload hx hb qd_R_add_40 (lv_at hl 5 rfl) ?_
    refine mk_mcalli (wr := [(ro, .inr (3, [.ref h]))]) (wf := (fun u => wR ro h b cA u.1.length u.2)) (va_runV (As := [.int (nI k)]) (rest := []) ⟨hx, hb, hml, hown, hts⟩ (c_Sh_open l dC dI cA H.size h b 12 96 f L hwf k hkl hroom) (cwV 1 hts gc_R_28 rfl rfl rfl (by decide +kernel) ⟨Nat.le_of_ble_eq_true rfl, Nat.le_of_ble_eq_true rfl⟩) (mk_muP hP hD [1, 2] (by decide) rfl hK (va_recv hK hP (ci := 4) (q0 := 1) rfl rfl)) rfl rfl hl.1 rfl (lv_room (Nat.le_of_ble_eq_true rfl)) qd_R_add_42 ⟨(Nat.zero_le _), (Nat.zero_le _)⟩) hS hA hP hD [1, 2] [0] [0, 1, 2] rfl rfl (by decide) (by decide) (by decide) (fun _ => rfl) (fun r_3 u_4 H locs hr_3 hP hD hS => ?_)
    obtain ⟨L1, f1⟩ := u_4
    obtain ⟨rfl, rfl, hok1⟩ : r_3 = 1 ∧ L1 = L.take k ++ (fun j => f (k * 12 + j)) :: L.drop k ∧ sh_ok 12 f1 L1 := hr_3
    generalize (fun j => f (k * 12 + j)) = r1 at hP hD hok1
    have hP : va_P (dC, dI) vwCl (wR ro h b cA ((L.take k ++ r1 :: L.drop k).length) f1) H := hP
    have hD : va_D A (wR ro h b cA ((L.take k ++ r1 :: L.drop k).length) f1) := hD
    refine lv_if_eq (tgt := 115) hx hb qd_R_add_45 (by decide) (fun c_5 => ?_) (fun c_5 => ?_)
    · exact absurd c_5 (by decide)
    · refine lv_aload_n hx hb qd_R_add_48 rfl (lv_at hl 0 rfl) ?_
      refine va_get (D := (dC, dI)) (ci := 3) (v := .ref h) (C := qR_R) (T := qT_R) (N := 1) hx hb hts qin_R hown hK hP 0 rfl rfl 0 (by decide) (hts _ mw_92) (fun _ h9 => h9) rfl qd_R_add_49 ?_
      refine lv_iload hx hb qd_R_add_52 (lv_at hl 5 rfl) ?_
      refine lv_iconst (v := 0) hx hb qd_R_add_54 (by decide) ?_
      refine lv_iload_n hx hb qd_R_add_55 rfl (lv_at hl 1 rfl) ?_
      have hwf1 : sh_wf 12 96 f1 (L.take k ++ r1 :: L.drop k) := ⟨hok1, by rw [ls_ins_len hkl]; omega, by decide, by decide, by decide⟩
      refine mk_mcallv (wr := [(ro, .inr (3, [.ref h]))]) (wf := (fun u => wR ro h b cA u.1.length u.2)) (va_runV (As := [.int (nI k), .int 0, .int nu]) (rest := []) ⟨hx, hb, hml, hown, hts⟩ (c_Sh_set l dC dI cA H.size h b 12 96 f1 (L.take k ++ r1 :: L.drop k) hwf1 k 0 nu r1 (ls_ins_at hkl) (by decide)) (cwV 3 hts gc_R_32 rfl rfl rfl (by decide +kernel) ⟨Nat.le_of_ble_eq_true rfl, Nat.le_of_ble_eq_true rfl⟩) (mk_muP hP hD [1, 2] (by decide) rfl hK (va_recv hK hP (ci := 4) (q0 := 1) rfl rfl)) rfl rfl hl.1 rfl (lv_room (Nat.le_of_ble_eq_true rfl)) qd_R_add_56 ⟨(Nat.zero_le _), (Nat.zero_le _)⟩) hS hA hP hD [1, 2] [0] [0, 1, 2] rfl rfl (by decide) (by decide) (by decide) (fun _ => rfl) (fun u_7 H locs hu_7 hP hD hS => ?_)
      obtain ⟨L1, f2⟩ := u_7
      have hu_7 : L1 = (L.take k ++ r1 :: L.drop k).set k (upd r1 0 nu) ∧ sh_ok 12 f2 L1 := hu_7
      rw [ls_ins_set hkl] at hu_7
      obtain ⟨rfl, hok2⟩ := hu_7
      have hP : va_P (dC, dI) vwCl (wR ro h b cA ((L.take k ++ (upd r1 0 nu) :: L.drop k).length) f2) H := hP
      have hD : va_D A (wR ro h b cA ((L.take k ++ (upd r1 0 nu) :: L.drop k).length) f2) := hD
      refine lv_aload_n hx hb qd_R_add_59 rfl (lv_at hl 0 rfl) ?_
      refine va_get (D := (dC, dI)) (ci := 3) (v := .ref h) (C := qR_R) (T := qT_R) (N := 1) hx hb hts qin_R hown hK hP 0 rfl rfl 0 (by decide) (hts _ mw_92) (fun _ h9 => h9) rfl qd_R_add_60 ?_
      refine lv_iload hx hb qd_R_add_63 (lv_at hl 5 rfl) ?_
      refine lv_iconst (v := 1) hx hb qd_R_add_65 (by decide) ?_
      refine lv_iload_n hx hb qd_R_add_66 rfl (lv_at hl 2 rfl) ?_
      have hwf2 : sh_wf 12 96 f2 (L.take k ++ (upd r1 0 nu) :: L.drop k) := ⟨hok2, by rw [ls_ins_len hkl]; omega, by decide, by decide, by decide⟩
      refine mk_mcallv (wr := [(ro, .inr (3, [.ref h]))]) (wf := (fun u => wR ro h b cA u.1.length u.2)) (va_runV (As := [.int (nI k), .int 1, .int ky]) (rest := []) ⟨hx, hb, hml, hown, hts⟩ (c_Sh_set l dC dI cA H.size h b 12 96 f2 (L.take k ++ (upd r1 0 nu) :: L.drop k) hwf2 k 1 ky (upd r1 0 nu) (ls_ins_at hkl) (by decide)) (cwV 3 hts gc_R_32 rfl rfl rfl (by decide +kernel) ⟨Nat.le_of_ble_eq_true rfl, Nat.le_of_ble_eq_true rfl⟩) (mk_muP hP hD [1, 2] (by decide) rfl hK (va_recv hK hP (ci := 4) (q0 := 1) rfl rfl)) rfl rfl hl.1 rfl (lv_room (Nat.le_of_ble_eq_true rfl)) qd_R_add_67 ⟨(Nat.zero_le _), (Nat.zero_le _)⟩) hS hA hP hD [1, 2] [0] [0, 1, 2] rfl rfl (by decide) (by decide) (by decide) (fun _ => rfl) (fun u_9 H locs hu_9 hP hD hS => ?_)
      obtain ⟨L1, f3⟩ := u_9
      have hu_9 : L1 = (L.take k ++ (upd r1 0 nu) :: L.drop k).set k (upd (upd r1 0 nu) 1 ky) ∧ sh_ok 12 f3 L1 := hu_9
      rw [ls_ins_set hkl] at hu_9
      obtain ⟨rfl, hok3⟩ := hu_9
      have hP : va_P (dC, dI) vwCl (wR ro h b cA ((L.take k ++ (upd (upd r1 0 nu) 1 ky) :: L.drop k).length) f3) H := hP
      have hD : va_D A (wR ro h b cA ((L.take k ++ (upd (upd r1 0 nu) 1 ky) :: L.drop k).length) f3) := hD
      refine lv_aload_n hx hb qd_R_add_70 rfl (lv_at hl 0 rfl) ?_
      refine va_get (D := (dC, dI)) (ci := 3) (v := .ref h) (C := qR_R) (T := qT_R) (N := 1) hx hb hts qin_R hown hK hP 0 rfl rfl 0 (by decide) (hts _ mw_92) (fun _ h9 => h9) rfl qd_R_add_71 ?_
      refine lv_iload hx hb qd_R_add_74 (lv_at hl 5 rfl) ?_
      refine lv_iconst (v := 2) hx hb qd_R_add_76 (by decide) ?_
      refine lv_iload_n hx hb qd_R_add_77 rfl (lv_at hl 3 rfl) ?_
      have hwf3 : sh_wf 12 96 f3 (L.take k ++ (upd (upd r1 0 nu) 1 ky) :: L.drop k) := ⟨hok3, by rw [ls_ins_len hkl]; omega, by decide, by decide, by decide⟩
      refine mk_mcallv (wr := [(ro, .inr (3, [.ref h]))]) (wf := (fun u => wR ro h b cA u.1.length u.2)) (va_runV (As := [.int (nI k), .int 2, .int tm]) (rest := []) ⟨hx, hb, hml, hown, hts⟩ (c_Sh_set l dC dI cA H.size h b 12 96 f3 (L.take k ++ (upd (upd r1 0 nu) 1 ky) :: L.drop k) hwf3 k 2 tm (upd (upd r1 0 nu) 1 ky) (ls_ins_at hkl) (by decide)) (cwV 3 hts gc_R_32 rfl rfl rfl (by decide +kernel) ⟨Nat.le_of_ble_eq_true rfl, Nat.le_of_ble_eq_true rfl⟩) (mk_muP hP hD [1, 2] (by decide) rfl hK (va_recv hK hP (ci := 4) (q0 := 1) rfl rfl)) rfl rfl hl.1 rfl (lv_room (Nat.le_of_ble_eq_true rfl)) qd_R_add_78 ⟨(Nat.zero_le _), (Nat.zero_le _)⟩) hS hA hP hD [1, 2] [0] [0, 1, 2] rfl rfl (by decide) (by decide) (by decide) (fun _ => rfl) (fun u_11 H locs hu_11 hP hD hS => ?_)
      obtain ⟨L1, f4⟩ := u_11
      have hu_11 : L1 = (L.take k ++ (upd (upd r1 0 nu) 1 ky) :: L.drop k).set k (upd (upd (upd r1 0 nu) 1 ky) 2 tm) ∧ sh_ok 12 f4 L1 := hu_11
      rw [ls_ins_set hkl] at hu_11
      obtain ⟨rfl, hok4⟩ := hu_11
      have hP : va_P (dC, dI) vwCl (wR ro h b cA ((L.take k ++ (upd (upd (upd r1 0 nu) 1 ky) 2 tm) :: L.drop k).length) f4) H := hP
      have hD : va_D A (wR ro h b cA ((L.take k ++ (upd (upd (upd r1 0 nu) 1 ky) 2 tm) :: L.drop k).length) f4) := hD
      refine lv_aload_n hx hb qd_R_add_81 rfl (lv_at hl 0 rfl) ?_
      refine va_get (D := (dC, dI)) (ci := 3) (v := .ref h) (C := qR_R) (T := qT_R) (N := 1) hx hb hts qin_R hown hK hP 0 rfl rfl 0 (by decide) (hts _ mw_92) (fun _ h9 => h9) rfl qd_R_add_82 ?_
      refine lv_iload hx hb qd_R_add_85 (lv_at hl 5 rfl) ?_
      refine lv_iconst (v := 3) hx hb qd_R_add_87 (by decide) ?_
      refine lv_iload hx hb qd_R_add_88 (lv_at hl 4 rfl) ?_
      have hwf4 : sh_wf 12 96 f4 (L.take k ++ (upd (upd (upd r1 0 nu) 1 ky) 2 tm) :: L.drop k) := ⟨hok4, by rw [ls_ins_len hkl]; omega, by decide, by decide, by decide⟩
      refine mk_mcallv (wr := [(ro, .inr (3, [.ref h]))]) (wf := (fun u => wR ro h b cA u.1.length u.2)) (va_runV (As := [.int (nI k), .int 3, .int vl]) (rest := []) ⟨hx, hb, hml, hown, hts⟩ (c_Sh_set l dC dI cA H.size h b 12 96 f4 (L.take k ++ (upd (upd (upd r1 0 nu) 1 ky) 2 tm) :: L.drop k) hwf4 k 3 vl (upd (upd (upd r1 0 nu) 1 ky) 2 tm) (ls_ins_at hkl) (by decide)) (cwV 3 hts gc_R_32 rfl rfl rfl (by decide +kernel) ⟨Nat.le_of_ble_eq_true rfl, Nat.le_of_ble_eq_true rfl⟩) (mk_muP hP hD [1, 2] (by decide) rfl hK (va_recv hK hP (ci := 4) (q0 := 1) rfl rfl)) rfl rfl hl.1 rfl (lv_room (Nat.le_of_ble_eq_true rfl)) qd_R_add_90 ⟨(Nat.zero_le _), (Nat.zero_le _)⟩) hS hA hP hD [1, 2] [0] [0, 1, 2] rfl rfl (by decide) (by decide) (by decide) (fun _ => rfl) (fun u_13 H locs hu_13 hP hD hS => ?_)
      obtain ⟨L1, f5⟩ := u_13
      have hu_13 : L1 = (L.take k ++ (upd (upd (upd r1 0 nu) 1 ky) 2 tm) :: L.drop k).set k (upd (upd (upd (upd r1 0 nu) 1 ky) 2 tm) 3 vl) ∧ sh_ok 12 f5 L1 := hu_13
      rw [ls_ins_set hkl] at hu_13
      obtain ⟨rfl, hok5⟩ := hu_13
      have hP : va_P (dC, dI) vwCl (wR ro h b cA ((L.take k ++ (upd (upd (upd (upd r1 0 nu) 1 ky) 2 tm) 3 vl) :: L.drop k).length) f5) H := hP
      have hD : va_D A (wR ro h b cA ((L.take k ++ (upd (upd (upd (upd r1 0 nu) 1 ky) 2 tm) 3 vl) :: L.drop k).length) f5) := hD
      refine lv_aload_n hx hb qd_R_add_93 rfl (lv_at hl 0 rfl) ?_
      refine va_get (D := (dC, dI)) (ci := 3) (v := .ref h) (C := qR_R) (T := qT_R) (N := 1) hx hb hts qin_R hown hK hP 0 rfl rfl 0 (by decide) (hts _ mw_92) (fun _ h9 => h9) rfl qd_R_add_94 ?_
      refine lv_iload hx hb qd_R_add_97 (lv_at hl 5 rfl) ?_
      refine lv_iconst (v := 4) hx hb qd_R_add_99 (by decide) ?_
      refine lv_iconst (v := 1) hx hb qd_R_add_100 (by decide) ?_
      have hwf5 : sh_wf 12 96 f5 (L.take k ++ (upd (upd (upd (upd r1 0 nu) 1 ky) 2 tm) 3 vl) :: L.drop k) := ⟨hok5, by rw [ls_ins_len hkl]; omega, by decide, by decide, by decide⟩
      refine mk_mcallv (wr := [(ro, .inr (3, [.ref h]))]) (wf := (fun u => wR ro h b cA u.1.length u.2)) (va_runV (As := [.int (nI k), .int 4, .int 1]) (rest := []) ⟨hx, hb, hml, hown, hts⟩ (c_Sh_set l dC dI cA H.size h b 12 96 f5 (L.take k ++ (upd (upd (upd (upd r1 0 nu) 1 ky) 2 tm) 3 vl) :: L.drop k) hwf5 k 4 1 (upd (upd (upd (upd r1 0 nu) 1 ky) 2 tm) 3 vl) (ls_ins_at hkl) (by decide)) (cwV 3 hts gc_R_32 rfl rfl rfl (by decide +kernel) ⟨Nat.le_of_ble_eq_true rfl, Nat.le_of_ble_eq_true rfl⟩) (mk_muP hP hD [1, 2] (by decide) rfl hK (va_recv hK hP (ci := 4) (q0 := 1) rfl rfl)) rfl rfl hl.1 rfl (lv_room (Nat.le_of_ble_eq_true rfl)) qd_R_add_101 ⟨(Nat.zero_le _), (Nat.zero_le _)⟩) hS hA hP hD [1, 2] [0] [0, 1, 2] rfl rfl (by decide) (by decide) (by decide) (fun _ => rfl) (fun u_15 H locs hu_15 hP hD hS => ?_)
      obtain ⟨L1, f6⟩ := u_15
      have hu_15 : L1 = (L.take k ++ (upd (upd (upd (upd r1 0 nu) 1 ky) 2 tm) 3 vl) :: L.drop k).set k (upd (upd (upd (upd (upd r1 0 nu) 1 ky) 2 tm) 3 vl) 4 1) ∧ sh_ok 12 f6 L1 := hu_15
      rw [ls_ins_set hkl] at hu_15
      obtain ⟨rfl, hok6⟩ := hu_15
      have hP : va_P (dC, dI) vwCl (wR ro h b cA ((L.take k ++ (upd (upd (upd (upd (upd r1 0 nu) 1 ky) 2 tm) 3 vl) 4 1) :: L.drop k).length) f6) H := hP
      have hD : va_D A (wR ro h b cA ((L.take k ++ (upd (upd (upd (upd (upd r1 0 nu) 1 ky) 2 tm) 3 vl) 4 1) :: L.drop k).length) f6) := hD
      refine lv_aload_n hx hb qd_R_add_104 rfl (lv_at hl 0 rfl) ?_
      refine va_get (D := (dC, dI)) (ci := 3) (v := .ref h) (C := qR_R) (T := qT_R) (N := 1) hx hb hts qin_R hown hK hP 0 rfl rfl 0 (by decide) (hts _ mw_92) (fun _ h9 => h9) rfl qd_R_add_105 ?_
      refine lv_iload hx hb qd_R_add_108 (lv_at hl 5 rfl) ?_
      refine lv_iconst (v := 5) hx hb qd_R_add_110 (by decide) ?_
      refine lv_iconst (v := 0) hx hb qd_R_add_111 (by decide) ?_
      have hwf6 : sh_wf 12 96 f6 (L.take k ++ (upd (upd (upd (upd (upd r1 0 nu) 1 ky) 2 tm) 3 vl) 4 1) :: L.drop k) := ⟨hok6, by rw [ls_ins_len hkl]; omega, by decide, by decide, by decide⟩
      refine mk_mcallv (wr := [(ro, .inr (3, [.ref h]))]) (wf := (fun u => wR ro h b cA u.1.length u.2)) (va_runV (As := [.int (nI k), .int 5, .int 0]) (rest := []) ⟨hx, hb, hml, hown, hts⟩ (c_Sh_set l dC dI cA H.size h b 12 96 f6 (L.take k ++ (upd (upd (upd (upd (upd r1 0 nu) 1 ky) 2 tm) 3 vl) 4 1) :: L.drop k) hwf6 k 5 0 (upd (upd (upd (upd (upd r1 0 nu) 1 ky) 2 tm) 3 vl) 4 1) (ls_ins_at hkl) (by decide)) (cwV 3 hts gc_R_32 rfl rfl rfl (by decide +kernel) ⟨Nat.le_of_ble_eq_true rfl, Nat.le_of_ble_eq_true rfl⟩) (mk_muP hP hD [1, 2] (by decide) rfl hK (va_recv hK hP (ci := 4) (q0 := 1) rfl rfl)) rfl rfl hl.1 rfl (lv_room (Nat.le_of_ble_eq_true rfl)) qd_R_add_112 ⟨(Nat.zero_le _), (Nat.zero_le _)⟩) hS hA hP hD [1, 2] [0] [0, 1, 2] rfl rfl (by decide) (by decide) (by decide) (fun _ => rfl) (fun u_17 H locs hu_17 hP hD hS => ?_)
      obtain ⟨L1, f7⟩ := u_17
      have hu_17 : L1 = (L.take k ++ (upd (upd (upd (upd (upd r1 0 nu) 1 ky) 2 tm) 3 vl) 4 1) :: L.drop k).set k (upd (upd (upd (upd (upd (upd r1 0 nu) 1 ky) 2 tm) 3 vl) 4 1) 5 0) ∧ sh_ok 12 f7 L1 := hu_17
      rw [ls_ins_set hkl] at hu_17
      obtain ⟨rfl, hok7⟩ := hu_17
      have hP : va_P (dC, dI) vwCl (wR ro h b cA ((L.take k ++ (upd (upd (upd (upd (upd (upd r1 0 nu) 1 ky) 2 tm) 3 vl) 4 1) 5 0) :: L.drop k).length) f7) H := hP
      have hD : va_D A (wR ro h b cA ((L.take k ++ (upd (upd (upd (upd (upd (upd r1 0 nu) 1 ky) 2 tm) 3 vl) 4 1) 5 0) :: L.drop k).length) f7) := hD
      exact mk_mvret (L.take k ++ (upd (upd (upd (upd (upd (upd r1 0 nu) 1 ky) 2 tm) 3 vl) 4 1) 5 0) :: L.drop k, f7) hx hb hr hlocks hP hK hD hS qd_R_add_115 (⟨⟨k, (upd (upd (upd (upd (upd (upd r1 0 nu) 1 ky) 2 tm) 3 vl) 4 1) 5 0), hinv, rfl, rfl, rfl, rfl, rfl, rfl, rfl⟩, hok7⟩)
  · refine mk_loop (σ := Nat) (fun n y9 H locs ls => (y9 = n ∧ y9 ≤ L.length ∧ ∀ (i : Nat) (r : Nat → Int32), y9 ≤ i → L[i]? = some r → tm < r 2) ∧ va_P (dC, dI) vwCl (wR ro h b cA L.length f) H ∧ va_D A (wR ro h b cA L.length f) ∧ va_S A s.heap H locs ∧ lv_has ls 6 [(0, .ref ro), (1, .int nu), (2, .int ky), (3, .int tm), (4, .int vl), (5, .int (nI y9))]) (fun ls => F0 m 9 ls []) (fun n y9 H locs ls hI ih_18 => ?_) (fun y9 H locs ls hI => ?_) L.length L.length H locs ls ⟨⟨rfl, Nat.le_refl _, fun i r h1 h2 => absurd (List.getElem?_eq_some_iff.mp h2).1 (by omega)⟩, hP, hD, hS, lv_sub hl [1, 2, 3, 4, 5, 0] rfl⟩
    · obtain ⟨a, rfl⟩ : ∃ z, z = y9 := ⟨_, rfl⟩
      obtain ⟨hinv, hP, hD, hS, hl⟩ := hI
      have hinv : a = (n + 1) ∧ a ≤ L.length ∧ ∀ (i : Nat) (r : Nat → Int32), a ≤ i → L[i]? = some r → tm < r 2 := hinv
      have hP : va_P (dC, dI) vwCl (wR ro h b cA L.length f) H := hP
      have hD : va_D A (wR ro h b cA L.length f) := hD
      have hl : lv_has ls 6 [(0, .ref ro), (1, .int nu), (2, .int ky), (3, .int tm), (4, .int vl), (5, .int (nI a))] := hl
      obtain ⟨rfl, ha, hin⟩ := id hinv
      refine lv_iload hx hb qd_R_add_9 (lv_at hl 5 rfl) ?_
      refine lv_if_le (tgt := 36) hx hb qd_R_add_11 (by decide) (fun c_19 => ?_) (fun c_19 => ?_)
      · exact absurd c_19 (nI_nle (Nat.succ_pos _) (by omega))
      · refine lv_aload_n hx hb qd_R_add_14 rfl (lv_at hl 0 rfl) ?_
        refine va_get (D := (dC, dI)) (ci := 3) (v := .ref h) (C := qR_R) (T := qT_R) (N := 1) hx hb hts qin_R hown hK hP 0 rfl rfl 0 (by decide) (hts _ mw_92) (fun _ h9 => h9) rfl qd_R_add_15 ?_
        refine lv_iload hx hb qd_R_add_18 (lv_at hl 5 rfl) ?_
        refine lv_iconst (v := 1) hx hb qd_R_add_20 (by decide) ?_
        refine lv_isub hx hb qd_R_add_21 ?_
        refine mk_rw (y := nI n) (nI_pred n) ?_
        refine lv_iconst (v := 2) hx hb qd_R_add_22 (by decide) ?_
        refine mk_calli (va_runV (As := [.int (nI n), .int 2]) (rest := []) ⟨hx, hb, hml, hown, hts⟩ (c_Sh_get l dC dI cA H.size h b 12 96 f L hwf (nI n) 2) (cwV 2 hts gc_R_24 rfl rfl rfl (by decide +kernel) ⟨Nat.le_of_ble_eq_true rfl, Nat.le_of_ble_eq_true rfl⟩) (mk_roV hP [1, 2] rfl hK (va_recv hK hP (ci := 4) (q0 := 1) rfl rfl)) rfl rfl hl.1 rfl (lv_room (Nat.le_of_ble_eq_true rfl)) qd_R_add_23 ⟨(Nat.zero_le _), (Nat.zero_le _)⟩) hS hA hP (fun r_20 H locs hr_20 hP hS => ?_)
        have hr_20 : r_20 = sh_get 12 L (nI n) 2 := hr_20
        refine lv_iload_n hx hb qd_R_add_26 rfl (lv_at hl 3 rfl) ?_
        refine lv_icmp_le (tgt := 36) hx hb qd_R_add_27 (by decide) (fun c_21 => ?_) (fun c_21 => ?_)
        · exact J_2 (n + 1) H locs ls ⟨⟨by omega, hinv.2.2, rs_s2 (by omega) hr_20 c_21⟩, hP, hD, hS, lv_sub hl [0, 1, 2, 3, 4, 5] rfl⟩
        · refine lv_iinc (v := nI n) (lv' := [(5, .int (nI n)), (0, .ref ro), (1, .int nu), (2, .int ky), (3, .int tm), (4, .int vl)]) hx hb qd_R_add_30 hl (k := 5) rfl (mk_dec n) (by decide) rfl (fun ls hl => ?_)
          refine lv_goto (tgt := 9) hx hb qd_R_add_33 (by decide) ?_
          have hq := sh_lt_of (x := tm) c_21
          exact ih_18 n H locs ls ⟨⟨rfl, by omega, rs_s1 (by omega) hr_20 hq hinv.2.2⟩, hP, hD, hS, lv_sub hl [1, 2, 3, 4, 5, 0] rfl⟩
    · obtain ⟨a, rfl⟩ : ∃ z, z = y9 := ⟨_, rfl⟩
      obtain ⟨hinv, hP, hD, hS, hl⟩ := hI
      have hinv : a = 0 ∧ a ≤ L.length ∧ ∀ (i : Nat) (r : Nat → Int32), a ≤ i → L[i]? = some r → tm < r 2 := hinv
      have hP : va_P (dC, dI) vwCl (wR ro h b cA L.length f) H := hP
      have hD : va_D A (wR ro h b cA L.length f) := hD
      have hl : lv_has ls 6 [(0, .ref ro), (1, .int nu), (2, .int ky), (3, .int tm), (4, .int vl), (5, .int (nI a))] := hl
      obtain ⟨rfl, ha, hin⟩ := id hinv
      refine lv_iload hx hb qd_R_add_9 (lv_at hl 5 rfl) ?_
      refine lv_if_le (tgt := 36) hx hb qd_R_add_11 (by decide) (fun c_22 => ?_) (fun c_22 => ?_)
      · exact J_2 0 H locs ls ⟨⟨Nat.zero_le _, hinv.2.2, fun _ q => absurd q (by decide)⟩, hP, hD, hS, lv_sub hl [0, 1, 2, 3, 4, 5] rfl⟩
      · exact absurd (show nI 0 ≤ 0 from by decide) c_22
set_option maxHeartbeats 4000000 in
set_option maxRecDepth 100000 in
/-- setJoin(line, join, given) -/
theorem c_R_setJoin (l : Launch) (dC : Nat → ClassId) (dI : Nat → Nat → Nat) (cA : ClassId) (sz : Nat) (ro h b ja : Nat) (f jo : Nat → Int32) (L : List (Nat → Int32)) (hwf : sh_wf 12 96 f L) (i' : Nat) (r0 : Nat → Int32) (hr0 : L[i']? = some r0) (gv : Int32) (hgv : gv = 0 ∨ gv = 1) : Met l qy_R_setJoin qw_R_setJoin ({ frames := 1, cells := 0, slots := 0, locals := 23 }) (mk_mu [.ref ro, .int (nI i'), .ref ja, .int gv] sz (dC, dI) vwCl [(cA, .int)] (wRJ ro h b cA L.length f ja jo)) (mk_muV (S := List (Nat → Int32) × (Nat → Int32)) (fun u => u.1 = L.set i' (rs_jn r0 gv jo 6) ∧ sh_ok 12 u.2 u.1) (fun u => wRJ ro h b cA u.1.length u.2 ja jo) (dC, dI) vwCl [(cA, .int)] (va_A (wRJ ro h b cA L.length f ja jo) sz)) 0 0 (va_A (wRJ ro h b cA L.length f ja jo) sz) := by
  refine Met.ofW (cc := qb_R_setJoin) (maxL := 5) (ret := none) (by decide) rfl ?_
  intro p e s m args below meth c s₁ B hml hpre
  obtain ⟨rfl, hsz, hP, hK, hD0⟩ := hpre
  have hx := B.exec
  have hb := B.bytes
  have hr := B.returns
  have hts0 := atoms_spec (ws := qw_R_setJoin) B.pre
  have hts := fun w (h : w ∈ lw_gd) => hts0 w (List.mem_cons_of_mem _ h)
  have hown : s.vm.findClass qR_R = some m.cls := findClass_of_methodNamed B.named
  have hlocks := B.notSynchronized
  subst hsz
  have hD := hD0.self (sz := s.heap.size)
  generalize hAe : va_A (wRJ ro h b cA L.length f ja jo) s.heap.size = A at hD ⊢
  have hA : ∀ q : Nat, s.heap.size ≤ q → A q := fun q h => by rw [← hAe]; exact Or.inr h
  have hS : va_S A s.heap s.heap [] := va_S.rf
  have hl := lv_entry ([.ref ro, .int (nI i'), .ref ja, .int gv]) (n := 5) (Nat.le_of_ble_eq_true rfl)
  rw [lg_entry_eq]
  generalize (lg_sl ([.ref ro, .int (nI i'), .ref ja, .int gv]) ++ List.replicate (5 - (lg_sl ([.ref ro, .int (nI i'), .ref ja, .int gv])).length) Slot.unset).toArray = ls at hl ⊢
  have hl : lv_has ls 5 [(0, .ref ro), (1, .int (nI i')), (2, .ref ja), (3, .int gv)] := hl
  have hP : va_P (dC, dI) vwCl (wRJ ro h b cA L.length f ja jo) s.heap := hP
  refine mk_start (A := A) hP (fun H locs hP hS => ?_)
  obtain ⟨hok, hlen, -, -, -⟩ := id hwf
  refine lv_aload_n hx hb qd_R_setJoin_0 rfl (lv_at hl 2 rfl) ?_
  refine lv_ifnonnull (tgt := 5) hx hb qd_R_setJoin_1 (by decide) ?_
  refine lv_aload_n hx hb qd_R_setJoin_5 rfl (lv_at hl 0 rfl) ?_
  refine va_get (D := (dC, dI)) (ci := 3) (v := .ref h) (C := qR_R) (T := qT_R) (N := 1) hx hb hts qin_R hown hK hP 0 rfl rfl 0 (by decide) (hts _ mw_92) (fun _ h9 => h9) rfl qd_R_setJoin_6 ?_
  refine lv_iload_n hx hb qd_R_setJoin_9 rfl (lv_at hl 1 rfl) ?_
  refine lv_iconst (v := 4) hx hb qd_R_setJoin_10 (by decide) ?_
  refine lv_iconst (v := 0) hx hb qd_R_setJoin_11 (by decide) ?_
  refine mk_mcallv (wr := [(ro, .inr (3, [.ref h])), (ja, .inl (cA, 6, .inl jo))]) (wf := (fun u => wRJ ro h b cA u.1.length u.2 ja jo)) (va_runV (As := [.int (nI i'), .int 4, .int 0]) (rest := []) ⟨hx, hb, hml, hown, hts⟩ (c_Sh_set l dC dI cA H.size h b 12 96 f L hwf i' 4 0 r0 hr0 (by omega)) (cwV 3 hts gc_R_32 rfl rfl rfl (by decide +kernel) ⟨Nat.le_of_ble_eq_true rfl, Nat.le_of_ble_eq_true rfl⟩) (mk_muP hP hD [1, 2] (by decide) rfl hK (va_recv hK hP (ci := 4) (q0 := 1) rfl rfl)) rfl rfl hl.1 rfl (lv_room (Nat.le_of_ble_eq_true rfl)) qd_R_setJoin_12 ⟨(Nat.zero_le _), (Nat.zero_le _)⟩) hS hA hP hD [1, 2] [0, 3] [0, 2, 3, 1] rfl rfl (by decide) (by decide) (by decide) (fun _ => rfl) (fun u_2 H locs hu_2 hP hD hS => ?_)
  obtain ⟨L1, f1⟩ := u_2
  have hu_2 : L1 = L.set i' (upd r0 4 0) ∧ sh_ok 12 f1 L1 := hu_2
  obtain ⟨rfl, hok1⟩ := hu_2
  have hP : va_P (dC, dI) vwCl (wRJ ro h b cA ((L.set i' (upd r0 4 0)).length) f1 ja jo) H := hP
  have hD : va_D A (wRJ ro h b cA ((L.set i' (upd r0 4 0)).length) f1 ja jo) := hD
  refine lv_aload_n hx hb qd_R_setJoin_15 rfl (lv_at hl 0 rfl) ?_
  refine va_get (D := (dC, dI)) (ci := 3) (v := .ref h) (C := qR_R) (T := qT_R) (N := 1) hx hb hts qin_R hown hK hP 0 rfl rfl 0 (by decide) (hts _ mw_92) (fun _ h9 => h9) rfl qd_R_setJoin_16 ?_
  refine lv_iload_n hx hb qd_R_setJoin_19 rfl (lv_at hl 1 rfl) ?_
  refine lv_iconst (v := 5) hx hb qd_R_setJoin_20 (by decide) ?_
  refine mk_meetH (D := (dC, dI)) (cl := vwCl) (ws := (wRJ ro h b cA ((L.set i' (upd r0 4 0)).length) f1 ja jo)) (A0 := A) (H0 := s.heap) (fun v => v = gv) (fun v => F0 m 30 ls (.int v :: .int 5 :: .int (nI i') :: .ref h :: [])) (fun v_4 H locs hv_4 hP hS => ?_) (fun J_3 => ?_)
  · have hv_4 : v_4 = gv := hv_4
    refine mk_rw (y := gv) (hv_4) ?_
    have hwf1 : sh_wf 12 96 f1 (L.set i' (upd r0 4 0)) := ⟨hok1, by rw [List.length_set]; exact hlen, by decide, by decide, by decide⟩
    refine mk_mcallv (wr := [(ro, .inr (3, [.ref h])), (ja, .inl (cA, 6, .inl jo))]) (wf := (fun u => wRJ ro h b cA u.1.length u.2 ja jo)) (va_runV (As := [.int (nI i'), .int 5, .int gv]) (rest := []) ⟨hx, hb, hml, hown, hts⟩ (c_Sh_set l dC dI cA H.size h b 12 96 f1 (L.set i' (upd r0 4 0)) hwf1 i' 5 gv (upd r0 4 0) (rs_set_at hr0) (by omega)) (cwV 3 hts gc_R_32 rfl rfl rfl (by decide +kernel) ⟨Nat.le_of_ble_eq_true rfl, Nat.le_of_ble_eq_true rfl⟩) (mk_muP hP hD [1, 2] (by decide) rfl hK (va_recv hK hP (ci := 4) (q0 := 1) rfl rfl)) rfl rfl hl.1 rfl (lv_room (Nat.le_of_ble_eq_true rfl)) qd_R_setJoin_30 ⟨(Nat.zero_le _), (Nat.zero_le _)⟩) hS hA hP hD [1, 2] [0, 3] [0, 2, 3, 1] rfl rfl (by decide) (by decide) (by decide) (fun _ => rfl) (fun u_6 H locs hu_6 hP hD hS => ?_)
    obtain ⟨L1, f1⟩ := u_6
    have hu_6 : L1 = (L.set i' (upd r0 4 0)).set i' (upd (upd r0 4 0) 5 gv) ∧ sh_ok 12 f1 L1 := hu_6
    rw [List.set_set, rs_j0 (jo := jo)] at hu_6
    obtain ⟨rfl, hok1⟩ := hu_6
    have hP : va_P (dC, dI) vwCl (wRJ ro h b cA ((L.set i' (rs_jn r0 gv jo 0)).length) f1 ja jo) H := hP
    have hD : va_D A (wRJ ro h b cA ((L.set i' (rs_jn r0 gv jo 0)).length) f1 ja jo) := hD
    refine lv_iconst (v := 0) hx hb qd_R_setJoin_33 (by decide) ?_
    refine mk_rw (y := nI 0) (rfl) ?_
    refine lv_istore (lv' := [(4, .int (nI 0)), (0, .ref ro), (1, .int (nI i')), (2, .ref ja), (3, .int gv)]) hx hb qd_R_setJoin_34 hl (by decide) rfl (fun ls hl => ?_)
    refine mk_loop (σ := Nat × (Nat → Int32)) (fun n y9 H locs ls => (y9.1 + n = 6 ∧ sh_ok 12 y9.2 (L.set i' (rs_jn r0 gv jo y9.1))) ∧ va_P (dC, dI) vwCl (wRJ ro h b cA ((L.set i' (rs_jn r0 gv jo y9.1)).length) y9.2 ja jo) H ∧ va_D A (wRJ ro h b cA ((L.set i' (rs_jn r0 gv jo y9.1)).length) y9.2 ja jo) ∧ va_S A s.heap H locs ∧ lv_has ls 5 [(0, .ref ro), (1, .int (nI i')), (2, .ref ja), (3, .int gv), (4, .int (nI y9.1))]) (fun ls => F0 m 36 ls []) (fun n y9 H locs ls hI ih_7 => ?_) (fun y9 H locs ls hI => ?_) 6 (0, f1) H locs ls ⟨⟨rfl, hok1⟩, hP, hD, hS, lv_sub hl [1, 2, 3, 4, 0] rfl⟩
    · obtain ⟨a, f1⟩ := y9
      obtain ⟨hinv, hP, hD, hS, hl⟩ := hI
      have hinv : a + (n + 1) = 6 ∧ sh_ok 12 f1 (L.set i' (rs_jn r0 gv jo a)) := hinv
      have hP : va_P (dC, dI) vwCl (wRJ ro h b cA ((L.set i' (rs_jn r0 gv jo a)).length) f1 ja jo) H := hP
      have hD : va_D A (wRJ ro h b cA ((L.set i' (rs_jn r0 gv jo a)).length) f1 ja jo) := hD
      have hl : lv_has ls 5 [(0, .ref ro), (1, .int (nI i')), (2, .ref ja), (3, .int gv), (4, .int (nI a))] := hl
      obtain ⟨ha, hok1⟩ := hinv
      refine lv_iload hx hb qd_R_setJoin_36 (lv_at hl 4 rfl) ?_
      refine lv_bipush (v := 6) hx hb qd_R_setJoin_38 (by decide) ?_
      refine lv_icmp_ge (tgt := 73) hx hb qd_R_setJoin_40 (by decide) (fun c_8 => ?_) (fun c_8 => ?_)
      · exact absurd c_8 (nI_ge (a := a) (b := 6) (by omega) (by decide))
      · refine lv_iload hx hb qd_R_setJoin_43 (lv_at hl 4 rfl) ?_
        refine lv_aload_n hx hb qd_R_setJoin_45 rfl (lv_at hl 2 rfl) ?_
        refine va_alen (v := 6) hx hb hK hP 3 0 rfl rfl rfl qd_R_setJoin_46 ?_
        refine lv_icmp_ge (tgt := 73) hx hb qd_R_setJoin_47 (by decide) (fun c_9 => ?_) (fun c_9 => ?_)
        · exact absurd c_9 (nI_ge (a := a) (b := 6) (by omega) (by decide))
        · refine lv_aload_n hx hb qd_R_setJoin_50 rfl (lv_at hl 0 rfl) ?_
          refine va_get (D := (dC, dI)) (ci := 3) (v := .ref h) (C := qR_R) (T := qT_R) (N := 1) hx hb hts qin_R hown hK hP 0 rfl rfl 0 (by decide) (hts _ mw_92) (fun _ h9 => h9) rfl qd_R_setJoin_51 ?_
          refine lv_iload_n hx hb qd_R_setJoin_54 rfl (lv_at hl 1 rfl) ?_
          refine lv_bipush (v := 6) hx hb qd_R_setJoin_55 (by decide) ?_
          refine lv_iload hx hb qd_R_setJoin_57 (lv_at hl 4 rfl) ?_
          refine lv_iadd hx hb qd_R_setJoin_59 ?_
          refine mk_rw (y := nI (6 + a)) (nI_add 6 a) ?_
          refine lv_aload_n hx hb qd_R_setJoin_60 rfl (lv_at hl 2 rfl) ?_
          refine lv_iload hx hb qd_R_setJoin_61 (lv_at hl 4 rfl) ?_
          refine va_iald (i := (nI a)) hx hb hK hP 3 0 rfl rfl (vp_in_nI (by omega) (by omega)) qd_R_setJoin_63 ?_
          refine mk_rw (y := jo a) (congrArg _ (nI_clamp (by omega))) ?_
          have hwf1 : sh_wf 12 96 f1 (L.set i' (rs_jn r0 gv jo a)) := ⟨hok1, by rw [List.length_set]; exact hlen, by decide, by decide, by decide⟩
          refine mk_mcallv (wr := [(ro, .inr (3, [.ref h])), (ja, .inl (cA, 6, .inl jo))]) (wf := (fun u => wRJ ro h b cA u.1.length u.2 ja jo)) (va_runV (As := [.int (nI i'), .int (nI (6 + a)), .int (jo a)]) (rest := []) ⟨hx, hb, hml, hown, hts⟩ (c_Sh_set l dC dI cA H.size h b 12 96 f1 (L.set i' (rs_jn r0 gv jo a)) hwf1 i' (6 + a) (jo a) (rs_jn r0 gv jo a) (rs_set_at hr0) (by omega)) (cwV 3 hts gc_R_32 rfl rfl rfl (by decide +kernel) ⟨Nat.le_of_ble_eq_true rfl, Nat.le_of_ble_eq_true rfl⟩) (mk_muP hP hD [1, 2] (by decide) rfl hK (va_recv hK hP (ci := 4) (q0 := 1) rfl rfl)) rfl rfl hl.1 rfl (lv_room (Nat.le_of_ble_eq_true rfl)) qd_R_setJoin_64 ⟨(Nat.zero_le _), (Nat.zero_le _)⟩) hS hA hP hD [1, 2] [0, 3] [0, 2, 3, 1] rfl rfl (by decide) (by decide) (by decide) (fun _ => rfl) (fun u_11 H locs hu_11 hP hD hS => ?_)
          obtain ⟨L1, f1⟩ := u_11
          have hu_11 : L1 = (L.set i' (rs_jn r0 gv jo a)).set i' (upd (rs_jn r0 gv jo a) (6 + a) (jo a)) ∧ sh_ok 12 f1 L1 := hu_11
          rw [List.set_set, rs_js] at hu_11
          obtain ⟨rfl, hok1⟩ := hu_11
          have hP : va_P (dC, dI) vwCl (wRJ ro h b cA ((L.set i' (rs_jn r0 gv jo (a + 1))).length) f1 ja jo) H := hP
          have hD : va_D A (wRJ ro h b cA ((L.set i' (rs_jn r0 gv jo (a + 1))).length) f1 ja jo) := hD
          refine lv_iinc (v := nI (a + 1)) (lv' := [(4, .int (nI (a + 1))), (0, .ref ro), (1, .int (nI i')), (2, .ref ja), (3, .int gv)]) hx hb qd_R_setJoin_67 hl (k := 4) rfl (mk_inc a) (by decide) rfl (fun ls hl => ?_)
          refine lv_goto (tgt := 36) hx hb qd_R_setJoin_70 (by decide) ?_
          exact ih_7 ((a + 1), f1) H locs ls ⟨⟨by omega, hok1⟩, hP, hD, hS, lv_sub hl [1, 2, 3, 4, 0] rfl⟩
    · obtain ⟨a, f1⟩ := y9
      obtain ⟨hinv, hP, hD, hS, hl⟩ := hI
      have hinv : a + 0 = 6 ∧ sh_ok 12 f1 (L.set i' (rs_jn r0 gv jo a)) := hinv
      have hP : va_P (dC, dI) vwCl (wRJ ro h b cA ((L.set i' (rs_jn r0 gv jo a)).length) f1 ja jo) H := hP
      have hD : va_D A (wRJ ro h b cA ((L.set i' (rs_jn r0 gv jo a)).length) f1 ja jo) := hD
      have hl : lv_has ls 5 [(0, .ref ro), (1, .int (nI i')), (2, .ref ja), (3, .int gv), (4, .int (nI a))] := hl
      obtain ⟨ha, hok1⟩ := hinv
      obtain rfl : a = 6 := by omega
      refine lv_iload hx hb qd_R_setJoin_36 (lv_at hl 4 rfl) ?_
      refine lv_bipush (v := 6) hx hb qd_R_setJoin_38 (by decide) ?_
      refine lv_icmp_ge (tgt := 73) hx hb qd_R_setJoin_40 (by decide) (fun c_12 => ?_) (fun c_12 => ?_)
      · exact mk_mvret (L.set i' (rs_jn r0 gv jo 6), f1) hx hb hr hlocks hP hK hD hS qd_R_setJoin_73 (⟨rfl, hok1⟩)
      · exact absurd (show nI 6 ≥ 6 from by decide) c_12
  · refine lv_iload_n hx hb qd_R_setJoin_21 rfl (lv_at hl 3 rfl) ?_
    refine lv_if_eq (tgt := 29) hx hb qd_R_setJoin_22 (by decide) (fun c_13 => ?_) (fun c_13 => ?_)
    · refine lv_iconst (v := 0) hx hb qd_R_setJoin_29 (by decide) ?_
      exact J_3 _ H locs (c_13.symm) hP hS
    · refine lv_iconst (v := 1) hx hb qd_R_setJoin_25 (by decide) ?_
      refine lv_goto (tgt := 30) hx hb qd_R_setJoin_26 (by decide) ?_
      exact J_3 _ H locs (hgv.resolve_left c_13 ▸ rfl) hP hS
set_option maxHeartbeats 4000000 in
set_option maxRecDepth 100000 in
/-- hasJoin(line, join) -/
theorem c_R_hasJoin (l : Launch) (dC : Nat → ClassId) (dI : Nat → Nat → Nat) (cA : ClassId) (sz : Nat) (ro h b ja : Nat) (f jo : Nat → Int32) (L : List (Nat → Int32)) (hwf : sh_wf 12 96 f L) (i' : Nat) (r0 : Nat → Int32) (hr0 : L[i']? = some r0) : Met l qy_R_hasJoin qw_R_hasJoin ({ frames := 1, cells := 0, slots := 0, locals := 22 }) (mk_ro [.ref ro, .int (nI i'), .ref ja] sz (dC, dI) vwCl [(cA, .int)] (wRJ ro h b cA L.length f ja jo)) (mk_roQ (fun r => (r = 1 ∧ ∀ c, c < 6 → r0 (6 + c) = jo c) ∨ (r = 0 ∧ ¬ ∀ c, c < 6 → r0 (6 + c) = jo c)) sz) 0 0 (mk_new sz) := by
  refine Met.ofW (cc := qb_R_hasJoin) (maxL := 4) (ret := (some .boolean)) (by decide) rfl ?_
  intro p e s m args below meth c s₁ B hml hpre
  obtain ⟨rfl, hsz, hP, hK⟩ := hpre
  have hx := B.exec
  have hb := B.bytes
  have hr := B.returns
  have hts0 := atoms_spec (ws := qw_R_hasJoin) B.pre
  have hts := fun w (h : w ∈ lw_gd) => hts0 w (List.mem_cons_of_mem _ h)
  have hown : s.vm.findClass qR_R = some m.cls := findClass_of_methodNamed B.named
  have hlocks := B.notSynchronized
  subst hsz
  have hA : ∀ q : Nat, s.heap.size ≤ q → mk_new s.heap.size q := fun _ h => h
  have hS : va_S (mk_new s.heap.size) s.heap s.heap [] := va_S.rf
  have hl := lv_entry ([.ref ro, .int (nI i'), .ref ja]) (n := 4) (Nat.le_of_ble_eq_true rfl)
  rw [lg_entry_eq]
  generalize (lg_sl ([.ref ro, .int (nI i'), .ref ja]) ++ List.replicate (4 - (lg_sl ([.ref ro, .int (nI i'), .ref ja])).length) Slot.unset).toArray = ls at hl ⊢
  have hl : lv_has ls 4 [(0, .ref ro), (1, .int (nI i')), (2, .ref ja)] := hl
  have hP : va_P (dC, dI) vwCl (wRJ ro h b cA L.length f ja jo) s.heap := hP
  refine mk_start (A := (mk_new s.heap.size)) hP (fun H locs hP hS => ?_)
  obtain ⟨hok, hlen, -, -, -⟩ := id hwf
  refine lv_aload_n hx hb qd_R_hasJoin_0 rfl (lv_at hl 2 rfl) ?_
  refine lv_ifnonnull (tgt := 6) hx hb qd_R_hasJoin_1 (by decide) ?_
  refine lv_iconst (v := 0) hx hb qd_R_hasJoin_6 (by decide) ?_
  refine mk_rw (y := nI 0) (rfl) ?_
  refine lv_istore_n (lv' := [(3, .int (nI 0)), (0, .ref ro), (1, .int (nI i')), (2, .ref ja)]) hx hb qd_R_hasJoin_7 rfl hl (by decide) rfl (fun ls hl => ?_)
  refine mk_loop (σ := Nat) (fun n y9 H locs ls => (y9 + n = 6 ∧ ∀ c, c < y9 → r0 (6 + c) = jo c) ∧ va_P (dC, dI) vwCl (wRJ ro h b cA L.length f ja jo) H ∧ va_S (mk_new s.heap.size) s.heap H locs ∧ lv_has ls 4 [(0, .ref ro), (1, .int (nI i')), (2, .ref ja), (3, .int (nI y9))]) (fun ls => F0 m 8 ls []) (fun n y9 H locs ls hI ih_1 => ?_) (fun y9 H locs ls hI => ?_) 6 0 H locs ls ⟨⟨rfl, fun _ q => absurd q (Nat.not_lt_zero _)⟩, hP, hS, lv_sub hl [1, 2, 3, 0] rfl⟩
  · obtain ⟨a, rfl⟩ : ∃ z, z = y9 := ⟨_, rfl⟩
    obtain ⟨hinv, hP, hS, hl⟩ := hI
    have hinv : a + (n + 1) = 6 ∧ ∀ c, c < a → r0 (6 + c) = jo c := hinv
    have hP : va_P (dC, dI) vwCl (wRJ ro h b cA L.length f ja jo) H := hP
    have hl : lv_has ls 4 [(0, .ref ro), (1, .int (nI i')), (2, .ref ja), (3, .int (nI a))] := hl
    refine lv_iload_n hx hb qd_R_hasJoin_8 rfl (lv_at hl 3 rfl) ?_
    refine lv_bipush (v := 6) hx hb qd_R_hasJoin_9 (by decide) ?_
    refine lv_icmp_ge (tgt := 46) hx hb qd_R_hasJoin_11 (by decide) (fun c_2 => ?_) (fun c_2 => ?_)
    · exact absurd c_2 (nI_ge (a := a) (b := 6) (by omega) (by decide))
    · refine lv_iload_n hx hb qd_R_hasJoin_14 rfl (lv_at hl 3 rfl) ?_
      refine lv_aload_n hx hb qd_R_hasJoin_15 rfl (lv_at hl 2 rfl) ?_
      refine va_alen (v := 6) hx hb hK hP 3 0 rfl rfl rfl qd_R_hasJoin_16 ?_
      refine lv_icmp_ge (tgt := 46) hx hb qd_R_hasJoin_17 (by decide) (fun c_3 => ?_) (fun c_3 => ?_)
      · exact absurd c_3 (nI_ge (a := a) (b := 6) (by omega) (by decide))
      · refine lv_aload_n hx hb qd_R_hasJoin_20 rfl (lv_at hl 0 rfl) ?_
        refine va_get (D := (dC, dI)) (ci := 3) (v := .ref h) (C := qR_R) (T := qT_R) (N := 1) hx hb hts qin_R hown hK hP 0 rfl rfl 0 (by decide) (hts _ mw_92) (fun _ h9 => h9) rfl qd_R_hasJoin_21 ?_
        refine lv_iload_n hx hb qd_R_hasJoin_24 rfl (lv_at hl 1 rfl) ?_
        refine lv_bipush (v := 6) hx hb qd_R_hasJoin_25 (by decide) ?_
        refine lv_iload_n hx hb qd_R_hasJoin_27 rfl (lv_at hl 3 rfl) ?_
        refine lv_iadd hx hb qd_R_hasJoin_28 ?_
        refine mk_rw (y := nI (6 + a)) (nI_add 6 a) ?_
        refine mk_calli (va_runV (As := [.int (nI i'), .int (nI (6 + a))]) (rest := []) ⟨hx, hb, hml, hown, hts⟩ (c_Sh_get l dC dI cA H.size h b 12 96 f L hwf (nI i') (nI (6 + a))) (cwV 2 hts gc_R_24 rfl rfl rfl (by decide +kernel) ⟨Nat.le_of_ble_eq_true rfl, Nat.le_of_ble_eq_true rfl⟩) (mk_roV hP [1, 2] rfl hK (va_recv hK hP (ci := 4) (q0 := 1) rfl rfl)) rfl rfl hl.1 rfl (lv_room (Nat.le_of_ble_eq_true rfl)) qd_R_hasJoin_29 ⟨(Nat.zero_le _), (Nat.zero_le _)⟩) hS hA hP (fun r_4 H locs hr_4 hP hS => ?_)
        obtain rfl : r_4 = r0 (6 + a) := Eq.trans hr_4 (sh_get_in (by omega) (by decide) hr0 (by omega))
        refine lv_aload_n hx hb qd_R_hasJoin_32 rfl (lv_at hl 2 rfl) ?_
        refine lv_iload_n hx hb qd_R_hasJoin_33 rfl (lv_at hl 3 rfl) ?_
        refine va_iald (i := (nI a)) hx hb hK hP 3 0 rfl rfl (vp_in_nI (by omega) (by omega)) qd_R_hasJoin_34 ?_
        refine mk_rw (y := jo a) (congrArg _ (nI_clamp (by omega))) ?_
        refine lv_icmp_eq (tgt := 40) hx hb qd_R_hasJoin_35 (by decide) (fun c_5 => ?_) (fun c_5 => ?_)
        · refine lv_iinc (v := nI (a + 1)) (lv' := [(3, .int (nI (a + 1))), (0, .ref ro), (1, .int (nI i')), (2, .ref ja)]) hx hb qd_R_hasJoin_40 hl (k := 3) rfl (mk_inc a) (by decide) rfl (fun ls hl => ?_)
          refine lv_goto (tgt := 8) hx hb qd_R_hasJoin_43 (by decide) ?_
          exact ih_1 (a + 1) H locs ls ⟨⟨by omega, fun c q => by rcases Nat.lt_or_ge c a with q2 | q2; exact hinv.2 c q2; obtain rfl : c = a := (by omega); exact c_5⟩, hP, hS, lv_sub hl [1, 2, 3, 0] rfl⟩
        · refine lv_iconst (v := 0) hx hb qd_R_hasJoin_38 (by decide) ?_
          exact mk_zret hx hb hr hlocks hS qd_R_hasJoin_39 (by decide) (Or.inr ⟨rfl, fun q => c_5 (q a (by omega))⟩)
  · obtain ⟨a, rfl⟩ : ∃ z, z = y9 := ⟨_, rfl⟩
    obtain ⟨hinv, hP, hS, hl⟩ := hI
    have hinv : a + 0 = 6 ∧ ∀ c, c < a → r0 (6 + c) = jo c := hinv
    have hP : va_P (dC, dI) vwCl (wRJ ro h b cA L.length f ja jo) H := hP
    have hl : lv_has ls 4 [(0, .ref ro), (1, .int (nI i')), (2, .ref ja), (3, .int (nI a))] := hl
    refine lv_iload_n hx hb qd_R_hasJoin_8 rfl (lv_at hl 3 rfl) ?_
    refine lv_bipush (v := 6) hx hb qd_R_hasJoin_9 (by decide) ?_
    refine lv_icmp_ge (tgt := 46) hx hb qd_R_hasJoin_11 (by decide) (fun c_6 => ?_) (fun c_6 => ?_)
    · refine lv_iconst (v := 1) hx hb qd_R_hasJoin_46 (by decide) ?_
      exact mk_zret hx hb hr hlocks hS qd_R_hasJoin_47 (by decide) (Or.inl ⟨rfl, fun c q => hinv.2 c (by omega)⟩)
    · exact absurd (show nI 6 ≤ nI a from by rw [show a = 6 by omega]; exact nI_le (Nat.le_refl _) (by decide)) c_6
set_option maxHeartbeats 4000000 in
set_option maxRecDepth 100000 in
/-- waiting() -/
theorem c_R_waiting (l : Launch) (dC : Nat → ClassId) (dI : Nat → Nat → Nat) (cA : ClassId) (sz : Nat) (ro h b : Nat) (f : Nat → Int32) (L : List (Nat → Int32)) (hwf : sh_wf 12 96 f L) : Met l qy_R_waiting qw_R_waiting ({ frames := 1, cells := 0, slots := 0, locals := 22 }) (mk_ro [.ref ro] sz (dC, dI) vwCl [(cA, .int)] (wR ro h b cA L.length f)) (mk_roQ (fun r => r = rs_wt L) sz) 0 0 (mk_new sz) := by
  refine Met.ofW (cc := qb_R_waiting) (maxL := 3) (ret := (some .int)) (by decide) rfl ?_
  intro p e s m args below meth c s₁ B hml hpre
  obtain ⟨rfl, hsz, hP, hK⟩ := hpre
  have hx := B.exec
  have hb := B.bytes
  have hr := B.returns
  have hts0 := atoms_spec (ws := qw_R_waiting) B.pre
  have hts := fun w (h : w ∈ lw_gd) => hts0 w (List.mem_cons_of_mem _ h)
  have hown : s.vm.findClass qR_R = some m.cls := findClass_of_methodNamed B.named
  have hlocks := B.notSynchronized
  subst hsz
  have hA : ∀ q : Nat, s.heap.size ≤ q → mk_new s.heap.size q := fun _ h => h
  have hS : va_S (mk_new s.heap.size) s.heap s.heap [] := va_S.rf
  have hl := lv_entry ([.ref ro]) (n := 3) (Nat.le_of_ble_eq_true rfl)
  rw [lg_entry_eq]
  generalize (lg_sl ([.ref ro]) ++ List.replicate (3 - (lg_sl ([.ref ro])).length) Slot.unset).toArray = ls at hl ⊢
  have hl : lv_has ls 3 [(0, .ref ro)] := hl
  have hP : va_P (dC, dI) vwCl (wR ro h b cA L.length f) s.heap := hP
  refine mk_start (A := (mk_new s.heap.size)) hP (fun H locs hP hS => ?_)
  obtain ⟨hok, hlen, -, -, -⟩ := id hwf
  refine lv_iconst (v := 0) hx hb qd_R_waiting_0 (by decide) ?_
  refine mk_rw (y := rs_wt (L.take 0)) (rfl) ?_
  refine lv_istore_n (lv' := [(1, .int (rs_wt (L.take 0))), (0, .ref ro)]) hx hb qd_R_waiting_1 rfl hl (by decide) rfl (fun ls hl => ?_)
  refine lv_iconst (v := 0) hx hb qd_R_waiting_2 (by decide) ?_
  refine mk_rw (y := nI 0) (rfl) ?_
  refine lv_istore_n (lv' := [(2, .int (nI 0)), (1, .int (rs_wt (L.take 0))), (0, .ref ro)]) hx hb qd_R_waiting_3 rfl hl (by decide) rfl (fun ls hl => ?_)
  refine mk_loop (σ := Nat) (fun n y9 H locs ls => (y9 + n = L.length) ∧ va_P (dC, dI) vwCl (wR ro h b cA L.length f) H ∧ va_S (mk_new s.heap.size) s.heap H locs ∧ lv_has ls 3 [(0, .ref ro), (1, .int (rs_wt (L.take y9))), (2, .int (nI y9))]) (fun ls => F0 m 4 ls []) (fun n y9 H locs ls hI ih_1 => ?_) (fun y9 H locs ls hI => ?_) L.length 0 H locs ls ⟨Nat.zero_add _, hP, hS, lv_sub hl [2, 1, 0] rfl⟩
  · obtain ⟨a, rfl⟩ : ∃ z, z = y9 := ⟨_, rfl⟩
    obtain ⟨hinv, hP, hS, hl⟩ := hI
    have hinv : a + (n + 1) = L.length := hinv
    have hP : va_P (dC, dI) vwCl (wR ro h b cA L.length f) H := hP
    have hl : lv_has ls 3 [(0, .ref ro), (1, .int (rs_wt (L.take a))), (2, .int (nI a))] := hl
    have hlt : a < L.length := by omega
    refine lv_iload_n hx hb qd_R_waiting_4 rfl (lv_at hl 2 rfl) ?_
    refine lv_aload_n hx hb qd_R_waiting_5 rfl (lv_at hl 0 rfl) ?_
    refine va_get (D := (dC, dI)) (ci := 3) (v := .ref h) (C := qR_R) (T := qT_R) (N := 1) hx hb hts qin_R hown hK hP 0 rfl rfl 0 (by decide) (hts _ mw_92) (fun _ h9 => h9) rfl qd_R_waiting_6 ?_
    refine mk_calli (va_runV (As := []) (rest := [.int (nI a)]) ⟨hx, hb, hml, hown, hts⟩ (c_Sh_size l dC dI cA H.size h b 12 96 f L hwf) (cwV 0 hts gc_R_20 rfl rfl rfl (by decide +kernel) ⟨Nat.le_of_ble_eq_true rfl, Nat.le_of_ble_eq_true rfl⟩) (mk_roV hP [1, 2] rfl hK (va_recv hK hP (ci := 4) (q0 := 1) rfl rfl)) rfl rfl hl.1 rfl (lv_room (Nat.le_of_ble_eq_true rfl)) qd_R_waiting_9 ⟨(Nat.zero_le _), (Nat.zero_le _)⟩) hS hA hP (fun r_2 H locs hr_2 hP hS => ?_)
    obtain rfl : r_2 = nI L.length := hr_2
    refine lv_icmp_ge (tgt := 33) hx hb qd_R_waiting_12 (by decide) (fun c_3 => ?_) (fun c_3 => ?_)
    · exact absurd c_3 (nI_ge hlt (by omega))
    · refine lv_iload_n hx hb qd_R_waiting_15 rfl (lv_at hl 1 rfl) ?_
      refine lv_aload_n hx hb qd_R_waiting_16 rfl (lv_at hl 0 rfl) ?_
      refine va_get (D := (dC, dI)) (ci := 3) (v := .ref h) (C := qR_R) (T := qT_R) (N := 1) hx hb hts qin_R hown hK hP 0 rfl rfl 0 (by decide) (hts _ mw_92) (fun _ h9 => h9) rfl qd_R_waiting_17 ?_
      refine lv_iload_n hx hb qd_R_waiting_20 rfl (lv_at hl 2 rfl) ?_
      refine lv_iconst (v := 4) hx hb qd_R_waiting_21 (by decide) ?_
      refine mk_calli (va_runV (As := [.int (nI a), .int 4]) (rest := [.int (rs_wt (L.take a))]) ⟨hx, hb, hml, hown, hts⟩ (c_Sh_get l dC dI cA H.size h b 12 96 f L hwf (nI a) 4) (cwV 2 hts gc_R_24 rfl rfl rfl (by decide +kernel) ⟨Nat.le_of_ble_eq_true rfl, Nat.le_of_ble_eq_true rfl⟩) (mk_roV hP [1, 2] rfl hK (va_recv hK hP (ci := 4) (q0 := 1) rfl rfl)) rfl rfl hl.1 rfl (lv_room (Nat.le_of_ble_eq_true rfl)) qd_R_waiting_22 ⟨(Nat.zero_le _), (Nat.zero_le _)⟩) hS hA hP (fun r_4 H locs hr_4 hP hS => ?_)
      obtain rfl : r_4 = (L[a]'hlt) 4 := Eq.trans hr_4 (sh_get_in (by omega) (by decide) (List.getElem?_eq_getElem hlt) (by decide))
      refine lv_iadd hx hb qd_R_waiting_25 ?_
      refine mk_rw (y := rs_wt (L.take (a + 1))) (rs_wt_s hlt) ?_
      refine lv_istore_n (lv' := [(1, .int (rs_wt (L.take (a + 1)))), (0, .ref ro), (2, .int (nI a))]) hx hb qd_R_waiting_26 rfl hl (by decide) rfl (fun ls hl => ?_)
      refine lv_iinc (v := nI (a + 1)) (lv' := [(2, .int (nI (a + 1))), (1, .int (rs_wt (L.take (a + 1)))), (0, .ref ro)]) hx hb qd_R_waiting_27 hl (k := 2) rfl (mk_inc a) (by decide) rfl (fun ls hl => ?_)
      refine lv_goto (tgt := 4) hx hb qd_R_waiting_30 (by decide) ?_
      exact ih_1 (a + 1) H locs ls ⟨by omega, hP, hS, lv_sub hl [2, 1, 0] rfl⟩
  · obtain ⟨a, rfl⟩ : ∃ z, z = y9 := ⟨_, rfl⟩
    obtain ⟨hinv, hP, hS, hl⟩ := hI
    have hinv : a + 0 = L.length := hinv
    have hP : va_P (dC, dI) vwCl (wR ro h b cA L.length f) H := hP
    have hl : lv_has ls 3 [(0, .ref ro), (1, .int (rs_wt (L.take a))), (2, .int (nI a))] := hl
    have ea : a = L.length := by omega
    refine lv_iload_n hx hb qd_R_waiting_4 rfl (lv_at hl 2 rfl) ?_
    refine lv_aload_n hx hb qd_R_waiting_5 rfl (lv_at hl 0 rfl) ?_
    refine va_get (D := (dC, dI)) (ci := 3) (v := .ref h) (C := qR_R) (T := qT_R) (N := 1) hx hb hts qin_R hown hK hP 0 rfl rfl 0 (by decide) (hts _ mw_92) (fun _ h9 => h9) rfl qd_R_waiting_6 ?_
    refine mk_calli (va_runV (As := []) (rest := [.int (nI a)]) ⟨hx, hb, hml, hown, hts⟩ (c_Sh_size l dC dI cA H.size h b 12 96 f L hwf) (cwV 0 hts gc_R_20 rfl rfl rfl (by decide +kernel) ⟨Nat.le_of_ble_eq_true rfl, Nat.le_of_ble_eq_true rfl⟩) (mk_roV hP [1, 2] rfl hK (va_recv hK hP (ci := 4) (q0 := 1) rfl rfl)) rfl rfl hl.1 rfl (lv_room (Nat.le_of_ble_eq_true rfl)) qd_R_waiting_9 ⟨(Nat.zero_le _), (Nat.zero_le _)⟩) hS hA hP (fun r_5 H locs hr_5 hP hS => ?_)
    obtain rfl : r_5 = nI L.length := hr_5
    refine lv_icmp_ge (tgt := 33) hx hb qd_R_waiting_12 (by decide) (fun c_6 => ?_) (fun c_6 => ?_)
    · refine lv_iload_n hx hb qd_R_waiting_33 rfl (lv_at hl 1 rfl) ?_
      exact mk_iret hx hb hr hlocks hS qd_R_waiting_34 (by rw [ea, List.take_length])
    · exact absurd (nI_le (by omega) (by omega)) c_6
set_option maxHeartbeats 4000000 in
set_option maxRecDepth 100000 in
/-- anyWaits(key, first, last) -/
theorem c_R_anyWaits (l : Launch) (dC : Nat → ClassId) (dI : Nat → Nat → Nat) (cA : ClassId) (sz : Nat) (ro h b : Nat) (f : Nat → Int32) (L : List (Nat → Int32)) (hwf : sh_wf 12 96 f L) (ky fi la : Int32) : Met l qy_R_anyWaits qw_R_anyWaits ({ frames := 2, cells := 0, slots := 0, locals := 44 }) (mk_ro [.ref ro, .int ky, .int fi, .int la] sz (dC, dI) vwCl [(cA, .int)] (wR ro h b cA L.length f)) (mk_roQ (fun r => (r = 1 ∧ ∃ (i : Nat) (r0 : Nat → Int32), L[i]? = some r0 ∧ rs_any ky fi la r0) ∨ (r = 0 ∧ ∀ (i : Nat) (r0 : Nat → Int32), L[i]? = some r0 → ¬ rs_any ky fi la r0)) sz) 0 0 (mk_new sz) := by
  refine Met.ofW (cc := qb_R_anyWaits) (maxL := 6) (ret := (some .boolean)) (by decide) rfl ?_
  intro p e s m args below meth c s₁ B hml hpre
  obtain ⟨rfl, hsz, hP, hK⟩ := hpre
  have hx := B.exec
  have hb := B.bytes
  have hr := B.returns
  have hts0 := atoms_spec (ws := qw_R_anyWaits) B.pre
  have hts := fun w (h : w ∈ lw_gd) => hts0 w (List.mem_cons_of_mem _ h)
  have hown : s.vm.findClass qR_R = some m.cls := findClass_of_methodNamed B.named
  have hlocks := B.notSynchronized
  subst hsz
  have hA : ∀ q : Nat, s.heap.size ≤ q → mk_new s.heap.size q := fun _ h => h
  have hS : va_S (mk_new s.heap.size) s.heap s.heap [] := va_S.rf
  have hl := lv_entry ([.ref ro, .int ky, .int fi, .int la]) (n := 6) (Nat.le_of_ble_eq_true rfl)
  rw [lg_entry_eq]
  generalize (lg_sl ([.ref ro, .int ky, .int fi, .int la]) ++ List.replicate (6 - (lg_sl ([.ref ro, .int ky, .int fi, .int la])).length) Slot.unset).toArray = ls at hl ⊢
  have hl : lv_has ls 6 [(0, .ref ro), (1, .int ky), (2, .int fi), (3, .int la)] := hl
  have hP : va_P (dC, dI) vwCl (wR ro h b cA L.length f) s.heap := hP
  refine mk_start (A := (mk_new s.heap.size)) hP (fun H locs hP hS => ?_)
  obtain ⟨hok, hlen, -, -, -⟩ := id hwf
  refine lv_iconst (v := 0) hx hb qd_R_anyWaits_0 (by decide) ?_
  refine mk_rw (y := nI 0) (rfl) ?_
  refine lv_istore (lv' := [(4, .int (nI 0)), (0, .ref ro), (1, .int ky), (2, .int fi), (3, .int la)]) hx hb qd_R_anyWaits_1 hl (by decide) rfl (fun ls hl => ?_)
  refine mk_loop (σ := Nat) (fun n y9 H locs ls => (y9 + n = L.length ∧ ∀ (i : Nat) (r0 : Nat → Int32), L[i]? = some r0 → i < y9 → ¬ rs_any ky fi la r0) ∧ va_P (dC, dI) vwCl (wR ro h b cA L.length f) H ∧ va_S (mk_new s.heap.size) s.heap H locs ∧ lv_has ls 6 [(0, .ref ro), (1, .int ky), (2, .int fi), (3, .int la), (4, .int (nI y9))]) (fun ls => F0 m 3 ls []) (fun n y9 H locs ls hI ih_1 => ?_) (fun y9 H locs ls hI => ?_) L.length 0 H locs ls ⟨⟨Nat.zero_add _, fun _ _ _ q => absurd q (Nat.not_lt_zero _)⟩, hP, hS, lv_sub hl [1, 2, 3, 4, 0] rfl⟩
  · obtain ⟨a, rfl⟩ : ∃ z, z = y9 := ⟨_, rfl⟩
    obtain ⟨hinv, hP, hS, hl⟩ := hI
    have hinv : a + (n + 1) = L.length ∧ ∀ (i : Nat) (r0 : Nat → Int32), L[i]? = some r0 → i < a → ¬ rs_any ky fi la r0 := hinv
    have hP : va_P (dC, dI) vwCl (wR ro h b cA L.length f) H := hP
    have hl : lv_has ls 6 [(0, .ref ro), (1, .int ky), (2, .int fi), (3, .int la), (4, .int (nI a))] := hl
    have hlt : a < L.length := by omega
    refine lv_iload hx hb qd_R_anyWaits_3 (lv_at hl 4 rfl) ?_
    refine lv_aload_n hx hb qd_R_anyWaits_5 rfl (lv_at hl 0 rfl) ?_
    refine va_get (D := (dC, dI)) (ci := 3) (v := .ref h) (C := qR_R) (T := qT_R) (N := 1) hx hb hts qin_R hown hK hP 0 rfl rfl 0 (by decide) (hts _ mw_92) (fun _ h9 => h9) rfl qd_R_anyWaits_6 ?_
    refine mk_calli (va_runV (As := []) (rest := [.int (nI a)]) ⟨hx, hb, hml, hown, hts⟩ (c_Sh_size l dC dI cA H.size h b 12 96 f L hwf) (cwV 0 hts gc_R_20 rfl rfl rfl (by decide +kernel) ⟨Nat.le_of_ble_eq_true rfl, Nat.le_of_ble_eq_true rfl⟩) (mk_roV hP [1, 2] rfl hK (va_recv hK hP (ci := 4) (q0 := 1) rfl rfl)) rfl rfl hl.1 rfl (lv_room (Nat.le_of_ble_eq_true rfl)) qd_R_anyWaits_9 ⟨(Nat.zero_le _), (Nat.zero_le _)⟩) hS hA hP (fun r_2 H locs hr_2 hP hS => ?_)
    obtain rfl : r_2 = nI L.length := hr_2
    refine lv_icmp_ge (tgt := 70) hx hb qd_R_anyWaits_12 (by decide) (fun c_3 => ?_) (fun c_3 => ?_)
    · exact absurd c_3 (nI_ge hlt (by omega))
    · refine lv_aload_n hx hb qd_R_anyWaits_15 rfl (lv_at hl 0 rfl) ?_
      refine va_get (D := (dC, dI)) (ci := 3) (v := .ref h) (C := qR_R) (T := qT_R) (N := 1) hx hb hts qin_R hown hK hP 0 rfl rfl 0 (by decide) (hts _ mw_92) (fun _ h9 => h9) rfl qd_R_anyWaits_16 ?_
      refine lv_iload hx hb qd_R_anyWaits_19 (lv_at hl 4 rfl) ?_
      refine lv_iconst (v := 2) hx hb qd_R_anyWaits_21 (by decide) ?_
      refine mk_calli (va_runV (As := [.int (nI a), .int 2]) (rest := []) ⟨hx, hb, hml, hown, hts⟩ (c_Sh_get l dC dI cA H.size h b 12 96 f L hwf (nI a) 2) (cwV 2 hts gc_R_24 rfl rfl rfl (by decide +kernel) ⟨Nat.le_of_ble_eq_true rfl, Nat.le_of_ble_eq_true rfl⟩) (mk_roV hP [1, 2] rfl hK (va_recv hK hP (ci := 4) (q0 := 1) rfl rfl)) rfl rfl hl.1 rfl (lv_room (Nat.le_of_ble_eq_true rfl)) qd_R_anyWaits_22 ⟨(Nat.zero_le _), (Nat.zero_le _)⟩) hS hA hP (fun r_4 H locs hr_4 hP hS => ?_)
      obtain rfl : r_4 = (L[a]'hlt) 2 := Eq.trans hr_4 (sh_get_in (by omega) (by decide) (List.getElem?_eq_getElem hlt) (by decide))
      refine lv_istore (lv' := [(5, .int ((L[a]'hlt) 2)), (0, .ref ro), (1, .int ky), (2, .int fi), (3, .int la), (4, .int (nI a))]) hx hb qd_R_anyWaits_25 hl (by decide) rfl (fun ls hl => ?_)
      refine lv_aload_n hx hb qd_R_anyWaits_27 rfl (lv_at hl 1 rfl) ?_
      refine lv_iload hx hb qd_R_anyWaits_28 (lv_at hl 5 rfl) ?_
      refine mk_calli (va_runV (As := [.int (nI a)]) (rest := []) ⟨hx, hb, hml, hown, hts⟩ (c_R_waits l dC dI cA H.size ro h b f L hwf (nI a)) (cwV 1 hts gc_R_36 rfl rfl rfl (by decide +kernel) ⟨Nat.le_of_ble_eq_true rfl, Nat.le_of_ble_eq_true rfl⟩) (mk_roV hP [0, 1, 2] rfl hK (va_recv hK hP (ci := 3) (q0 := 0) rfl rfl)) rfl rfl hl.1 rfl (lv_room (Nat.le_of_ble_eq_true rfl)) qd_R_anyWaits_30 ⟨(Nat.zero_le _), (Nat.zero_le _)⟩) hS hA hP (fun r_5 H locs hr_5 hP hS => ?_)
      obtain rfl : r_5 = if (L[a]'hlt) 4 = 1 then 1 else 0 := Eq.trans hr_5 (by rw [show sh_get 12 L (nI a) 4 = (L[a]'hlt) 4 from sh_get_in (by omega) (by decide) (List.getElem?_eq_getElem hlt) (by decide)])
      refine lv_if_eq (tgt := 64) hx hb qd_R_anyWaits_33 (by decide) (fun c_6 => ?_) (fun c_6 => ?_)
      · refine lv_iinc (v := nI (a + 1)) (lv' := [(4, .int (nI (a + 1))), (5, .int ((L[a]'hlt) 2)), (0, .ref ro), (1, .int ky), (2, .int fi), (3, .int la)]) hx hb qd_R_anyWaits_64 hl (k := 5) rfl (mk_inc a) (by decide) rfl (fun ls hl => ?_)
        refine lv_goto (tgt := 3) hx hb qd_R_anyWaits_67 (by decide) ?_
        exact ih_1 (a + 1) H locs ls ⟨⟨by omega, fun i r0 q hi => by rcases Nat.lt_or_ge i a with q2 | q2; exact hinv.2 i r0 q q2; obtain rfl : i = a := (by omega); rw [List.getElem?_eq_getElem hlt] at q; obtain rfl := Option.some.inj q; exact fun hh => rs_n1 c_6 hh.1⟩, hP, hS, lv_sub hl [2, 3, 4, 5, 0] rfl⟩
      · refine lv_aload_n hx hb qd_R_anyWaits_36 rfl (lv_at hl 1 rfl) ?_
        refine va_get (D := (dC, dI)) (ci := 3) (v := .ref h) (C := qR_R) (T := qT_R) (N := 1) hx hb hts qin_R hown hK hP 0 rfl rfl 0 (by decide) (hts _ mw_92) (fun _ h9 => h9) rfl qd_R_anyWaits_37 ?_
        refine lv_iload hx hb qd_R_anyWaits_40 (lv_at hl 5 rfl) ?_
        refine lv_iconst (v := 1) hx hb qd_R_anyWaits_42 (by decide) ?_
        refine mk_calli (va_runV (As := [.int (nI a), .int 1]) (rest := []) ⟨hx, hb, hml, hown, hts⟩ (c_Sh_get l dC dI cA H.size h b 12 96 f L hwf (nI a) 1) (cwV 2 hts gc_R_24 rfl rfl rfl (by decide +kernel) ⟨Nat.le_of_ble_eq_true rfl, Nat.le_of_ble_eq_true rfl⟩) (mk_roV hP [1, 2] rfl hK (va_recv hK hP (ci := 4) (q0 := 1) rfl rfl)) rfl rfl hl.1 rfl (lv_room (Nat.le_of_ble_eq_true rfl)) qd_R_anyWaits_43 ⟨(Nat.zero_le _), (Nat.zero_le _)⟩) hS hA hP (fun r_7 H locs hr_7 hP hS => ?_)
        obtain rfl : r_7 = (L[a]'hlt) 1 := Eq.trans hr_7 (sh_get_in (by omega) (by decide) (List.getElem?_eq_getElem hlt) (by decide))
        refine lv_iload_n hx hb qd_R_anyWaits_46 rfl (lv_at hl 2 rfl) ?_
        refine lv_icmp_ne (tgt := 64) hx hb qd_R_anyWaits_47 (by decide) (fun c_8 => ?_) (fun c_8 => ?_)
        · refine lv_iinc (v := nI (a + 1)) (lv' := [(4, .int (nI (a + 1))), (5, .int ((L[a]'hlt) 2)), (0, .ref ro), (1, .int ky), (2, .int fi), (3, .int la)]) hx hb qd_R_anyWaits_64 hl (k := 5) rfl (mk_inc a) (by decide) rfl (fun ls hl => ?_)
          refine lv_goto (tgt := 3) hx hb qd_R_anyWaits_67 (by decide) ?_
          exact ih_1 (a + 1) H locs ls ⟨⟨by omega, fun i r0 q hi => by rcases Nat.lt_or_ge i a with q2 | q2; exact hinv.2 i r0 q q2; obtain rfl : i = a := (by omega); rw [List.getElem?_eq_getElem hlt] at q; obtain rfl := Option.some.inj q; exact fun hh => c_8 hh.2.1⟩, hP, hS, lv_sub hl [2, 3, 4, 5, 0] rfl⟩
        · refine lv_iload hx hb qd_R_anyWaits_50 (lv_at hl 0 rfl) ?_
          refine lv_iload_n hx hb qd_R_anyWaits_52 rfl (lv_at hl 3 rfl) ?_
          refine lv_icmp_lt (tgt := 64) hx hb qd_R_anyWaits_53 (by decide) (fun c_9 => ?_) (fun c_9 => ?_)
          · refine lv_iinc (v := nI (a + 1)) (lv' := [(4, .int (nI (a + 1))), (5, .int ((L[a]'hlt) 2)), (0, .ref ro), (1, .int ky), (2, .int fi), (3, .int la)]) hx hb qd_R_anyWaits_64 hl (k := 5) rfl (mk_inc a) (by decide) rfl (fun ls hl => ?_)
            refine lv_goto (tgt := 3) hx hb qd_R_anyWaits_67 (by decide) ?_
            exact ih_1 (a + 1) H locs ls ⟨⟨by omega, fun i r0 q hi => by rcases Nat.lt_or_ge i a with q2 | q2; exact hinv.2 i r0 q q2; obtain rfl : i = a := (by omega); rw [List.getElem?_eq_getElem hlt] at q; obtain rfl := Option.some.inj q; exact fun hh => sh_nle c_9 hh.2.2.1⟩, hP, hS, lv_sub hl [2, 3, 4, 5, 0] rfl⟩
          · refine lv_iload hx hb qd_R_anyWaits_56 (lv_at hl 0 rfl) ?_
            refine lv_iload_n hx hb qd_R_anyWaits_58 rfl (lv_at hl 4 rfl) ?_
            refine lv_icmp_gt (tgt := 64) hx hb qd_R_anyWaits_59 (by decide) (fun c_10 => ?_) (fun c_10 => ?_)
            · refine lv_iinc (v := nI (a + 1)) (lv' := [(4, .int (nI (a + 1))), (5, .int ((L[a]'hlt) 2)), (0, .ref ro), (1, .int ky), (2, .int fi), (3, .int la)]) hx hb qd_R_anyWaits_64 hl (k := 5) rfl (mk_inc a) (by decide) rfl (fun ls hl => ?_)
              refine lv_goto (tgt := 3) hx hb qd_R_anyWaits_67 (by decide) ?_
              exact ih_1 (a + 1) H locs ls ⟨⟨by omega, fun i r0 q hi => by rcases Nat.lt_or_ge i a with q2 | q2; exact hinv.2 i r0 q q2; obtain rfl : i = a := (by omega); rw [List.getElem?_eq_getElem hlt] at q; obtain rfl := Option.some.inj q; exact fun hh => sh_nle c_10 hh.2.2.2⟩, hP, hS, lv_sub hl [2, 3, 4, 5, 0] rfl⟩
            · refine lv_iconst (v := 1) hx hb qd_R_anyWaits_62 (by decide) ?_
              exact mk_zret hx hb hr hlocks hS qd_R_anyWaits_63 (by decide) (Or.inl ⟨rfl, a, _, List.getElem?_eq_getElem hlt, rs_n2 c_6, c_8, sh_le_of c_9, sh_le_of c_10⟩)
  · obtain ⟨a, rfl⟩ : ∃ z, z = y9 := ⟨_, rfl⟩
    obtain ⟨hinv, hP, hS, hl⟩ := hI
    have hinv : a + 0 = L.length ∧ ∀ (i : Nat) (r0 : Nat → Int32), L[i]? = some r0 → i < a → ¬ rs_any ky fi la r0 := hinv
    have hP : va_P (dC, dI) vwCl (wR ro h b cA L.length f) H := hP
    have hl : lv_has ls 6 [(0, .ref ro), (1, .int ky), (2, .int fi), (3, .int la), (4, .int (nI a))] := hl
    have ea : a = L.length := by omega
    refine lv_iload hx hb qd_R_anyWaits_3 (lv_at hl 4 rfl) ?_
    refine lv_aload_n hx hb qd_R_anyWaits_5 rfl (lv_at hl 0 rfl) ?_
    refine va_get (D := (dC, dI)) (ci := 3) (v := .ref h) (C := qR_R) (T := qT_R) (N := 1) hx hb hts qin_R hown hK hP 0 rfl rfl 0 (by decide) (hts _ mw_92) (fun _ h9 => h9) rfl qd_R_anyWaits_6 ?_
    refine mk_calli (va_runV (As := []) (rest := [.int (nI a)]) ⟨hx, hb, hml, hown, hts⟩ (c_Sh_size l dC dI cA H.size h b 12 96 f L hwf) (cwV 0 hts gc_R_20 rfl rfl rfl (by decide +kernel) ⟨Nat.le_of_ble_eq_true rfl, Nat.le_of_ble_eq_true rfl⟩) (mk_roV hP [1, 2] rfl hK (va_recv hK hP (ci := 4) (q0 := 1) rfl rfl)) rfl rfl hl.1 rfl (lv_room (Nat.le_of_ble_eq_true rfl)) qd_R_anyWaits_9 ⟨(Nat.zero_le _), (Nat.zero_le _)⟩) hS hA hP (fun r_11 H locs hr_11 hP hS => ?_)
    obtain rfl : r_11 = nI L.length := hr_11
    refine lv_icmp_ge (tgt := 70) hx hb qd_R_anyWaits_12 (by decide) (fun c_12 => ?_) (fun c_12 => ?_)
    · refine lv_iconst (v := 0) hx hb qd_R_anyWaits_70 (by decide) ?_
      exact mk_zret hx hb hr hlocks hS qd_R_anyWaits_71 (by decide) (Or.inr ⟨rfl, fun i r0 q => hinv.2 i r0 q (by rw [ea]; exact (List.getElem?_eq_some_iff.mp q).1)⟩)
    · exact absurd (nI_le (by omega) (by omega)) c_12
set_option maxHeartbeats 4000000 in
set_option maxRecDepth 100000 in
/-- dropJoined(horizon) -/
theorem c_R_dropJoined (l : Launch) (dC : Nat → ClassId) (dI : Nat → Nat → Nat) (cA : ClassId) (sz : Nat) (ro h b : Nat) (f : Nat → Int32) (L : List (Nat → Int32)) (hwf : sh_wf 12 96 f L) (hz : Int32) : Met l qy_R_dropJoined qw_R_dropJoined ({ frames := 2, cells := 0, slots := 0, locals := 82 }) (mk_mu [.ref ro, .int hz] sz (dC, dI) vwCl [(cA, .int)] (wR ro h b cA L.length f)) (mk_muQ (S := List (Nat → Int32) × (Nat → Int32)) (fun r u => r = nI (L.length - u.1.length) ∧ u.1 = L.filter (rs_keep hz) ∧ sh_ok 12 u.2 u.1) (fun u => wR ro h b cA u.1.length u.2) (dC, dI) vwCl [(cA, .int)] (va_A (wR ro h b cA L.length f) sz)) 0 0 (va_A (wR ro h b cA L.length f) sz) := by
  refine Met.ofW (cc := qb_R_dropJoined) (maxL := 4) (ret := (some .int)) (by decide) rfl ?_
  intro p e s m args below meth c s₁ B hml hpre
  obtain ⟨rfl, hsz, hP, hK, hD0⟩ := hpre
  have hx := B.exec
  have hb := B.bytes
  have hr := B.returns
  have hts0 := atoms_spec (ws := qw_R_dropJoined) B.pre
  have hts := fun w (h : w ∈ lw_gd) => hts0 w (List.mem_cons_of_mem _ h)
  have hown : s.vm.findClass qR_R = some m.cls := findClass_of_methodNamed B.named
  have hlocks := B.notSynchronized
  subst hsz
  have hD := hD0.self (sz := s.heap.size)
  generalize hAe : va_A (wR ro h b cA L.length f) s.heap.size = A at hD ⊢
  have hA : ∀ q : Nat, s.heap.size ≤ q → A q := fun q h => by rw [← hAe]; exact Or.inr h
  have hS : va_S A s.heap s.heap [] := va_S.rf
  have hl := lv_entry ([.ref ro, .int hz]) (n := 4) (Nat.le_of_ble_eq_true rfl)
  rw [lg_entry_eq]
  generalize (lg_sl ([.ref ro, .int hz]) ++ List.replicate (4 - (lg_sl ([.ref ro, .int hz])).length) Slot.unset).toArray = ls at hl ⊢
  have hl : lv_has ls 4 [(0, .ref ro), (1, .int hz)] := hl
  have hP : va_P (dC, dI) vwCl (wR ro h b cA L.length f) s.heap := hP
  refine mk_start (A := A) hP (fun H locs hP hS => ?_)
  obtain ⟨hok, hlen, -, -, -⟩ := id hwf
  refine lv_aload_n hx hb qd_R_dropJoined_0 rfl (lv_at hl 0 rfl) ?_
  refine va_get (D := (dC, dI)) (ci := 3) (v := .ref h) (C := qR_R) (T := qT_R) (N := 1) hx hb hts qin_R hown hK hP 0 rfl rfl 0 (by decide) (hts _ mw_92) (fun _ h9 => h9) rfl qd_R_dropJoined_1 ?_
  refine mk_calli (va_runV (As := []) (rest := []) ⟨hx, hb, hml, hown, hts⟩ (c_Sh_size l dC dI cA H.size h b 12 96 f L hwf) (cwV 0 hts gc_R_20 rfl rfl rfl (by decide +kernel) ⟨Nat.le_of_ble_eq_true rfl, Nat.le_of_ble_eq_true rfl⟩) (mk_roV hP [1, 2] rfl hK (va_recv hK hP (ci := 4) (q0 := 1) rfl rfl)) rfl rfl hl.1 rfl (lv_room (Nat.le_of_ble_eq_true rfl)) qd_R_dropJoined_4 ⟨(Nat.zero_le _), (Nat.zero_le _)⟩) hS hA hP (fun r_1 H locs hr_1 hP hS => ?_)
  obtain rfl : r_1 = nI L.length := hr_1
  refine lv_istore_n (lv' := [(2, .int (nI L.length)), (0, .ref ro), (1, .int hz)]) hx hb qd_R_dropJoined_7 rfl hl (by decide) rfl (fun ls hl => ?_)
  refine lv_iload_n hx hb qd_R_dropJoined_8 rfl (lv_at hl 0 rfl) ?_
  refine lv_iconst (v := 1) hx hb qd_R_dropJoined_9 (by decide) ?_
  refine lv_isub hx hb qd_R_dropJoined_10 ?_
  refine lv_istore_n (lv' := [(3, .int ((nI L.length) - 1)), (2, .int (nI L.length)), (0, .ref ro), (1, .int hz)]) hx hb qd_R_dropJoined_11 rfl hl (by decide) rfl (fun ls hl => ?_)
  have hP : va_P (dC, dI) vwCl (wR ro h b cA (L.take L.length ++ (L.drop L.length).filter (rs_keep hz)).length f) H := by rw [rs_dj0]; exact hP
  have hD : va_D A (wR ro h b cA (L.take L.length ++ (L.drop L.length).filter (rs_keep hz)).length f) := by rw [rs_dj0]; exact hD
  refine mk_loop (σ := Nat → Int32) (fun n y9 H locs ls => (n ≤ L.length ∧ sh_ok 12 y9 (L.take n ++ (L.drop n).filter (rs_keep hz))) ∧ va_P (dC, dI) vwCl (wR ro h b cA ((L.take n ++ (L.drop n).filter (rs_keep hz)).length) y9) H ∧ va_D A (wR ro h b cA ((L.take n ++ (L.drop n).filter (rs_keep hz)).length) y9) ∧ va_S A s.heap H locs ∧ lv_has ls 4 [(0, .ref ro), (1, .int hz), (2, .int (nI L.length)), (3, .int (nI n - 1))]) (fun ls => F0 m 12 ls []) (fun n y9 H locs ls hI ih_2 => ?_) (fun y9 H locs ls hI => ?_) L.length f H locs ls ⟨⟨Nat.le_refl _, by rw [rs_dj0]; exact hok⟩, hP, hD, hS, lv_sub hl [2, 3, 1, 0] rfl⟩
  · obtain ⟨f1, rfl⟩ : ∃ z, z = y9 := ⟨_, rfl⟩
    obtain ⟨hinv, hP, hD, hS, hl⟩ := hI
    have hinv : (n + 1) ≤ L.length ∧ sh_ok 12 f1 (L.take (n + 1) ++ (L.drop (n + 1)).filter (rs_keep hz)) := hinv
    have hP : va_P (dC, dI) vwCl (wR ro h b cA ((L.take (n + 1) ++ (L.drop (n + 1)).filter (rs_keep hz)).length) f1) H := hP
    have hD : va_D A (wR ro h b cA ((L.take (n + 1) ++ (L.drop (n + 1)).filter (rs_keep hz)).length) f1) := hD
    have hl : lv_has ls 4 [(0, .ref ro), (1, .int hz), (2, .int (nI L.length)), (3, .int (nI (n + 1) - 1))] := hl
    obtain ⟨hn, hok1⟩ := hinv
    have hlt : n < L.length := by omega
    have hat := rs_dj3 (hz := hz) hlt
    have hle := rs_djl L hz (n + 1)
    have hwf1 : sh_wf 12 96 f1 (L.take (n + 1) ++ (L.drop (n + 1)).filter (rs_keep hz)) := ⟨hok1, by omega, by decide, by decide, by decide⟩
    refine lv_iload_n hx hb qd_R_dropJoined_12 rfl (lv_at hl 3 rfl) ?_
    refine lv_if_lt (tgt := 51) hx hb qd_R_dropJoined_13 (by decide) (fun c_3 => ?_) (fun c_3 => ?_)
    · exact absurd c_3 (by rw [nI_pred]; exact nI_pos (by omega))
    · refine lv_aload_n hx hb qd_R_dropJoined_16 rfl (lv_at hl 0 rfl) ?_
      refine lv_iload_n hx hb qd_R_dropJoined_17 rfl (lv_at hl 3 rfl) ?_
      refine mk_rw (y := nI n) (nI_pred n) ?_
      refine mk_calli (va_runV (As := [.int (nI n)]) (rest := []) ⟨hx, hb, hml, hown, hts⟩ (c_R_waits l dC dI cA H.size ro h b f1 (L.take (n + 1) ++ (L.drop (n + 1)).filter (rs_keep hz)) hwf1 (nI n)) (cwV 1 hts gc_R_36 rfl rfl rfl (by decide +kernel) ⟨Nat.le_of_ble_eq_true rfl, Nat.le_of_ble_eq_true rfl⟩) (mk_roV hP [0, 1, 2] rfl hK (va_recv hK hP (ci := 3) (q0 := 0) rfl rfl)) rfl rfl hl.1 rfl (lv_room (Nat.le_of_ble_eq_true rfl)) qd_R_dropJoined_18 ⟨(Nat.zero_le _), (Nat.zero_le _)⟩) hS hA hP (fun r_4 H locs hr_4 hP hS => ?_)
      obtain rfl : r_4 = if (L[n]'hlt) 4 = 1 then 1 else 0 := Eq.trans hr_4 (by rw [show sh_get 12 (L.take (n + 1) ++ (L.drop (n + 1)).filter (rs_keep hz)) (nI n) 4 = (L[n]'hlt) 4 from sh_get_in (by omega) (by decide) hat (by decide)])
      refine lv_if_ne (tgt := 45) hx hb qd_R_dropJoined_21 (by decide) (fun c_5 => ?_) (fun c_5 => ?_)
      · refine lv_iinc (v := nI n - 1) (lv' := [(3, .int (nI n - 1)), (0, .ref ro), (1, .int hz), (2, .int (nI L.length))]) hx hb qd_R_dropJoined_45 hl (k := 3) rfl (mk_dec2 n) (by decide) rfl (fun ls hl => ?_)
        refine lv_goto (tgt := 12) hx hb qd_R_dropJoined_48 (by decide) ?_
        rw [rs_dj2 hlt (rs_kt1 (rs_n2 c_5))] at hok1 hP hD
        exact ih_2 f1 H locs ls ⟨⟨by omega, hok1⟩, hP, hD, hS, lv_sub hl [1, 2, 3, 0] rfl⟩
      · refine lv_aload_n hx hb qd_R_dropJoined_24 rfl (lv_at hl 0 rfl) ?_
        refine va_get (D := (dC, dI)) (ci := 3) (v := .ref h) (C := qR_R) (T := qT_R) (N := 1) hx hb hts qin_R hown hK hP 0 rfl rfl 0 (by decide) (hts _ mw_92) (fun _ h9 => h9) rfl qd_R_dropJoined_25 ?_
        refine lv_iload_n hx hb qd_R_dropJoined_28 rfl (lv_at hl 3 rfl) ?_
        refine mk_rw (y := nI n) (nI_pred n) ?_
        refine lv_iconst (v := 2) hx hb qd_R_dropJoined_29 (by decide) ?_
        refine mk_calli (va_runV (As := [.int (nI n), .int 2]) (rest := []) ⟨hx, hb, hml, hown, hts⟩ (c_Sh_get l dC dI cA H.size h b 12 96 f1 (L.take (n + 1) ++ (L.drop (n + 1)).filter (rs_keep hz)) hwf1 (nI n) 2) (cwV 2 hts gc_R_24 rfl rfl rfl (by decide +kernel) ⟨Nat.le_of_ble_eq_true rfl, Nat.le_of_ble_eq_true rfl⟩) (mk_roV hP [1, 2] rfl hK (va_recv hK hP (ci := 4) (q0 := 1) rfl rfl)) rfl rfl hl.1 rfl (lv_room (Nat.le_of_ble_eq_true rfl)) qd_R_dropJoined_30 ⟨(Nat.zero_le _), (Nat.zero_le _)⟩) hS hA hP (fun r_6 H locs hr_6 hP hS => ?_)
        obtain rfl : r_6 = (L[n]'hlt) 2 := Eq.trans hr_6 (sh_get_in (by omega) (by decide) hat (by decide))
        refine lv_iload_n hx hb qd_R_dropJoined_33 rfl (lv_at hl 1 rfl) ?_
        refine lv_icmp_gt (tgt := 45) hx hb qd_R_dropJoined_34 (by decide) (fun c_7 => ?_) (fun c_7 => ?_)
        · refine lv_iinc (v := nI n - 1) (lv' := [(3, .int (nI n - 1)), (0, .ref ro), (1, .int hz), (2, .int (nI L.length))]) hx hb qd_R_dropJoined_45 hl (k := 3) rfl (mk_dec2 n) (by decide) rfl (fun ls hl => ?_)
          refine lv_goto (tgt := 12) hx hb qd_R_dropJoined_48 (by decide) ?_
          rw [rs_dj2 hlt (rs_kt2 c_7)] at hok1 hP hD
          exact ih_2 f1 H locs ls ⟨⟨by omega, hok1⟩, hP, hD, hS, lv_sub hl [1, 2, 3, 0] rfl⟩
        · refine lv_aload_n hx hb qd_R_dropJoined_37 rfl (lv_at hl 0 rfl) ?_
          refine va_get (D := (dC, dI)) (ci := 3) (v := .ref h) (C := qR_R) (T := qT_R) (N := 1) hx hb hts qin_R hown hK hP 0 rfl rfl 0 (by decide) (hts _ mw_92) (fun _ h9 => h9) rfl qd_R_dropJoined_38 ?_
          refine lv_iload_n hx hb qd_R_dropJoined_41 rfl (lv_at hl 3 rfl) ?_
          refine mk_rw (y := nI n) (nI_pred n) ?_
          refine mk_mcallv (wr := [(ro, .inr (3, [.ref h]))]) (wf := (fun u => wR ro h b cA u.1.length u.2)) (va_runV (As := [.int (nI n)]) (rest := []) ⟨hx, hb, hml, hown, hts⟩ (c_Sh_drop l dC dI cA H.size h b 12 96 f1 (L.take (n + 1) ++ (L.drop (n + 1)).filter (rs_keep hz)) hwf1 n ((List.getElem?_eq_some_iff.mp hat).1)) (cwV 1 hts gc_R_39 rfl rfl rfl (by decide +kernel) ⟨Nat.le_of_ble_eq_true rfl, Nat.le_of_ble_eq_true rfl⟩) (mk_muP hP hD [1, 2] (by decide) rfl hK (va_recv hK hP (ci := 4) (q0 := 1) rfl rfl)) rfl rfl hl.1 rfl (lv_room (Nat.le_of_ble_eq_true rfl)) qd_R_dropJoined_42 ⟨(Nat.zero_le _), (Nat.zero_le _)⟩) hS hA hP hD [1, 2] [0] [0, 1, 2] rfl rfl (by decide) (by decide) (by decide) (fun _ => rfl) (fun u_9 H locs hu_9 hP hD hS => ?_)
          obtain ⟨L1, f2⟩ := u_9
          have hu_9 : L1 = (L.take (n + 1) ++ (L.drop (n + 1)).filter (rs_keep hz)).eraseIdx n ∧ sh_ok 12 f2 L1 := hu_9
          rw [rs_dj1 hlt (rs_kf (rs_n1 c_5) (sh_le_of c_7))] at hu_9
          obtain ⟨rfl, hok2⟩ := hu_9
          have hP : va_P (dC, dI) vwCl (wR ro h b cA ((L.take n ++ (L.drop n).filter (rs_keep hz)).length) f2) H := hP
          have hD : va_D A (wR ro h b cA ((L.take n ++ (L.drop n).filter (rs_keep hz)).length) f2) := hD
          refine lv_iinc (v := nI n - 1) (lv' := [(3, .int (nI n - 1)), (0, .ref ro), (1, .int hz), (2, .int (nI L.length))]) hx hb qd_R_dropJoined_45 hl (k := 3) rfl (mk_dec2 n) (by decide) rfl (fun ls hl => ?_)
          refine lv_goto (tgt := 12) hx hb qd_R_dropJoined_48 (by decide) ?_
          exact ih_2 f2 H locs ls ⟨⟨by omega, hok2⟩, hP, hD, hS, lv_sub hl [1, 2, 3, 0] rfl⟩
  · obtain ⟨f1, rfl⟩ : ∃ z, z = y9 := ⟨_, rfl⟩
    obtain ⟨hinv, hP, hD, hS, hl⟩ := hI
    have hinv : 0 ≤ L.length ∧ sh_ok 12 f1 (L.take 0 ++ (L.drop 0).filter (rs_keep hz)) := hinv
    have hP : va_P (dC, dI) vwCl (wR ro h b cA ((L.take 0 ++ (L.drop 0).filter (rs_keep hz)).length) f1) H := hP
    have hD : va_D A (wR ro h b cA ((L.take 0 ++ (L.drop 0).filter (rs_keep hz)).length) f1) := hD
    have hl : lv_has ls 4 [(0, .ref ro), (1, .int hz), (2, .int (nI L.length)), (3, .int (nI 0 - 1))] := hl
    obtain ⟨hn, hok1⟩ := hinv
    rw [rs_dj9] at hok1 hP hD
    have hle := List.length_filter_le (rs_keep hz) L
    have hwf1 : sh_wf 12 96 f1 (L.filter (rs_keep hz)) := ⟨hok1, by omega, by decide, by decide, by decide⟩
    refine lv_iload_n hx hb qd_R_dropJoined_12 rfl (lv_at hl 3 rfl) ?_
    refine lv_if_lt (tgt := 51) hx hb qd_R_dropJoined_13 (by decide) (fun c_10 => ?_) (fun c_10 => ?_)
    · refine lv_iload_n hx hb qd_R_dropJoined_51 rfl (lv_at hl 2 rfl) ?_
      refine lv_aload_n hx hb qd_R_dropJoined_52 rfl (lv_at hl 0 rfl) ?_
      refine va_get (D := (dC, dI)) (ci := 3) (v := .ref h) (C := qR_R) (T := qT_R) (N := 1) hx hb hts qin_R hown hK hP 0 rfl rfl 0 (by decide) (hts _ mw_92) (fun _ h9 => h9) rfl qd_R_dropJoined_53 ?_
      refine mk_calli (va_runV (As := []) (rest := [.int (nI L.length)]) ⟨hx, hb, hml, hown, hts⟩ (c_Sh_size l dC dI cA H.size h b 12 96 f1 (L.filter (rs_keep hz)) hwf1) (cwV 0 hts gc_R_20 rfl rfl rfl (by decide +kernel) ⟨Nat.le_of_ble_eq_true rfl, Nat.le_of_ble_eq_true rfl⟩) (mk_roV hP [1, 2] rfl hK (va_recv hK hP (ci := 4) (q0 := 1) rfl rfl)) rfl rfl hl.1 rfl (lv_room (Nat.le_of_ble_eq_true rfl)) qd_R_dropJoined_56 ⟨(Nat.zero_le _), (Nat.zero_le _)⟩) hS hA hP (fun r_11 H locs hr_11 hP hS => ?_)
      obtain rfl : r_11 = nI (L.filter (rs_keep hz)).length := hr_11
      refine lv_isub hx hb qd_R_dropJoined_59 ?_
      exact mk_miret (L.filter (rs_keep hz), f1) hx hb hr hlocks hP hK hD hS qd_R_dropJoined_60 (⟨pk_sub hle, rfl, hok1⟩)
    · exact absurd (show nI 0 - 1 < 0 from by decide) c_10
end
section
set_option maxHeartbeats 4000000 in
set_option maxRecDepth 100000 in
/-- size() -/
theorem c_O_size (l : Launch) (dC : Nat → ClassId) (dI : Nat → Nat → Nat) (cA : ClassId) (sz : Nat) (oo h b : Nat) (gv tk : Int32) (f : Nat → Int32) (Lo : List (Nat → Int32)) (hwf : sh_wf 11 192 f Lo) : Met l qy_O_size qw_O_size ({ frames := 1, cells := 0, slots := 0, locals := 20 }) (mk_ro [.ref oo] sz (dC, dI) vwCl [(cA, .int)] (wO oo h b cA gv tk Lo.length f)) (mk_roQ (fun r => r = nI Lo.length) sz) 0 0 (mk_new sz) := by
  refine Met.ofW (cc := qb_O_size) (maxL := 1) (ret := (some .int)) (by decide) rfl ?_
  intro p e s m args below meth c s₁ B hml hpre
  obtain ⟨rfl, hsz, hP, hK⟩ := hpre
  have hx := B.exec
  have hb := B.bytes
  have hr := B.returns
  have hts0 := atoms_spec (ws := qw_O_size) B.pre
  have hts := fun w (h : w ∈ lw_gd) => hts0 w (List.mem_cons_of_mem _ h)
  have hown : s.vm.findClass qR_O = some m.cls := findClass_of_methodNamed B.named
  have hlocks := B.notSynchronized
  subst hsz
  have hA : ∀ q : Nat, s.heap.size ≤ q → mk_new s.heap.size q := fun _ h => h
  have hS : va_S (mk_new s.heap.size) s.heap s.heap [] := va_S.rf
  have hl := lv_entry ([.ref oo]) (n := 1) (Nat.le_of_ble_eq_true rfl)
  rw [lg_entry_eq]
  generalize (lg_sl ([.ref oo]) ++ List.replicate (1 - (lg_sl ([.ref oo])).length) Slot.unset).toArray = ls at hl ⊢
  have hl : lv_has ls 1 [(0, .ref oo)] := hl
  have hP : va_P (dC, dI) vwCl (wO oo h b cA gv tk Lo.length f) s.heap := hP
  refine mk_start (A := (mk_new s.heap.size)) hP (fun H locs hP hS => ?_)
  refine lv_aload_n hx hb qd_O_size_0 rfl (lv_at hl 0 rfl) ?_
  refine va_get (D := (dC, dI)) (ci := 2) (v := .ref h) (C := qR_O) (T := qT_O) (N := 3) hx hb hts qin_O hown hK hP 0 rfl rfl 0 (by decide) (hts _ mw_104) (fun _ h9 => h9) rfl qd_O_size_1 ?_
  refine mk_calli (va_runV (As := []) (rest := []) ⟨hx, hb, hml, hown, hts⟩ (c_Sh_size l dC dI cA H.size h b 11 192 f Lo hwf) (cwV 0 hts gc_O_20 rfl rfl rfl (by decide +kernel) ⟨Nat.le_of_ble_eq_true rfl, Nat.le_of_ble_eq_true rfl⟩) (mk_roV hP [1, 2] rfl hK (va_recv hK hP (ci := 4) (q0 := 1) rfl rfl)) rfl rfl hl.1 rfl (lv_room (Nat.le_of_ble_eq_true rfl)) qd_O_size_4 ⟨(Nat.zero_le _), (Nat.zero_le _)⟩) hS hA hP (fun r_1 H locs hr_1 hP hS => ?_)
  obtain rfl : r_1 = nI Lo.length := hr_1
  exact mk_iret hx hb hr hlocks hS qd_O_size_7 (rfl)
set_option maxHeartbeats 4000000 in
set_option maxRecDepth 100000 in
/-- get(line, column) -/
theorem c_O_get (l : Launch) (dC : Nat → ClassId) (dI : Nat → Nat → Nat) (cA : ClassId) (sz : Nat) (oo h b : Nat) (gv tk : Int32) (f : Nat → Int32) (Lo : List (Nat → Int32)) (hwf : sh_wf 11 192 f Lo) (i j : Int32) : Met l qy_O_get qw_O_get ({ frames := 1, cells := 0, slots := 0, locals := 22 }) (mk_ro [.ref oo, .int i, .int j] sz (dC, dI) vwCl [(cA, .int)] (wO oo h b cA gv tk Lo.length f)) (mk_roQ (fun r => r = sh_get 11 Lo i j) sz) 0 0 (mk_new sz) := by
  refine Met.ofW (cc := qb_O_get) (maxL := 3) (ret := (some .int)) (by decide) rfl ?_
  intro p e s m args below meth c s₁ B hml hpre
  obtain ⟨rfl, hsz, hP, hK⟩ := hpre
  have hx := B.exec
  have hb := B.bytes
  have hr := B.returns
  have hts0 := atoms_spec (ws := qw_O_get) B.pre
  have hts := fun w (h : w ∈ lw_gd) => hts0 w (List.mem_cons_of_mem _ h)
  have hown : s.vm.findClass qR_O = some m.cls := findClass_of_methodNamed B.named
  have hlocks := B.notSynchronized
  subst hsz
  have hA : ∀ q : Nat, s.heap.size ≤ q → mk_new s.heap.size q := fun _ h => h
  have hS : va_S (mk_new s.heap.size) s.heap s.heap [] := va_S.rf
  have hl := lv_entry ([.ref oo, .int i, .int j]) (n := 3) (Nat.le_of_ble_eq_true rfl)
  rw [lg_entry_eq]
  generalize (lg_sl ([.ref oo, .int i, .int j]) ++ List.replicate (3 - (lg_sl ([.ref oo, .int i, .int j])).length) Slot.unset).toArray = ls at hl ⊢
  have hl : lv_has ls 3 [(0, .ref oo), (1, .int i), (2, .int j)] := hl
  have hP : va_P (dC, dI) vwCl (wO oo h b cA gv tk Lo.length f) s.heap := hP
  refine mk_start (A := (mk_new s.heap.size)) hP (fun H locs hP hS => ?_)
  refine lv_aload_n hx hb qd_O_get_0 rfl (lv_at hl 0 rfl) ?_
  refine va_get (D := (dC, dI)) (ci := 2) (v := .ref h) (C := qR_O) (T := qT_O) (N := 3) hx hb hts qin_O hown hK hP 0 rfl rfl 0 (by decide) (hts _ mw_104) (fun _ h9 => h9) rfl qd_O_get_1 ?_
  refine lv_iload_n hx hb qd_O_get_4 rfl (lv_at hl 1 rfl) ?_
  refine lv_iload_n hx hb qd_O_get_5 rfl (lv_at hl 2 rfl) ?_
  refine mk_calli (va_runV (As := [.int i, .int j]) (rest := []) ⟨hx, hb, hml, hown, hts⟩ (c_Sh_get l dC dI cA H.size h b 11 192 f Lo hwf i j) (cwV 2 hts gc_O_24 rfl rfl rfl (by decide +kernel) ⟨Nat.le_of_ble_eq_true rfl, Nat.le_of_ble_eq_true rfl⟩) (mk_roV hP [1, 2] rfl hK (va_recv hK hP (ci := 4) (q0 := 1) rfl rfl)) rfl rfl hl.1 rfl (lv_room (Nat.le_of_ble_eq_true rfl)) qd_O_get_6 ⟨(Nat.zero_le _), (Nat.zero_le _)⟩) hS hA hP (fun r_1 H locs hr_1 hP hS => ?_)
  obtain rfl : r_1 = sh_get 11 Lo i j := hr_1
  exact mk_iret hx hb hr hlocks hS qd_O_get_9 (rfl)
set_option maxHeartbeats 4000000 in
set_option maxRecDepth 100000 in
/-- clear() -/
theorem c_O_clear (l : Launch) (dC : Nat → ClassId) (dI : Nat → Nat → Nat) (cA : ClassId) (sz : Nat) (oo h b : Nat) (gv tk : Int32) (f : Nat → Int32) (Lo : List (Nat → Int32)) (hwf : sh_wf 11 192 f Lo) : Met l qy_O_clear qw_O_clear ({ frames := 1, cells := 0, slots := 0, locals := 20 }) (mk_mu [.ref oo] sz (dC, dI) vwCl [(cA, .int)] (wO oo h b cA gv tk Lo.length f)) (mk_muV (S := List (Nat → Int32) × (Nat → Int32)) (fun u => u.1 = [] ∧ sh_ok 11 u.2 u.1) (fun u => wO oo h b cA gv tk u.1.length u.2) (dC, dI) vwCl [(cA, .int)] (va_A (wO oo h b cA gv tk Lo.length f) sz)) 0 0 (va_A (wO oo h b cA gv tk Lo.length f) sz) := by
  refine Met.ofW (cc := qb_O_clear) (maxL := 1) (ret := none) (by decide) rfl ?_
  intro p e s m args below meth c s₁ B hml hpre
  obtain ⟨rfl, hsz, hP, hK, hD0⟩ := hpre
  have hx := B.exec
  have hb := B.bytes
  have hr := B.returns
  have hts0 := atoms_spec (ws := qw_O_clear) B.pre
  have hts := fun w (h : w ∈ lw_gd) => hts0 w (List.mem_cons_of_mem _ h)
  have hown : s.vm.findClass qR_O = some m.cls := findClass_of_methodNamed B.named
  have hlocks := B.notSynchronized
  subst hsz
  have hD := hD0.self (sz := s.heap.size)
  generalize hAe : va_A (wO oo h b cA gv tk Lo.length f) s.heap.size = A at hD ⊢
  have hA : ∀ q : Nat, s.heap.size ≤ q → A q := fun q h => by rw [← hAe]; exact Or.inr h
  have hS : va_S A s.heap s.heap [] := va_S.rf
  have hl := lv_entry ([.ref oo]) (n := 1) (Nat.le_of_ble_eq_true rfl)
  rw [lg_entry_eq]
  generalize (lg_sl ([.ref oo]) ++ List.replicate (1 - (lg_sl ([.ref oo])).length) Slot.unset).toArray = ls at hl ⊢
  have hl : lv_has ls 1 [(0, .ref oo)] := hl
  have hP : va_P (dC, dI) vwCl (wO oo h b cA gv tk Lo.length f) s.heap := hP
  refine mk_start (A := A) hP (fun H locs hP hS => ?_)
  refine lv_aload_n hx hb qd_O_clear_0 rfl (lv_at hl 0 rfl) ?_
  refine va_get (D := (dC, dI)) (ci := 2) (v := .ref h) (C := qR_O) (T := qT_O) (N := 3) hx hb hts qin_O hown hK hP 0 rfl rfl 0 (by decide) (hts _ mw_104) (fun _ h9 => h9) rfl qd_O_clear_1 ?_
  refine mk_mcallv (wr := [(oo, .inr (2, [.ref h, .int gv, .int tk]))]) (wf := (fun u => wO oo h b cA gv tk u.1.length u.2)) (va_runV (As := []) (rest := []) ⟨hx, hb, hml, hown, hts⟩ (c_Sh_clear l dC dI cA H.size h b 11 192 f Lo hwf) (cwV 0 hts gc_O_28 rfl rfl rfl (by decide +kernel) ⟨Nat.le_of_ble_eq_true rfl, Nat.le_of_ble_eq_true rfl⟩) (mk_muP hP hD [1, 2] (by decide) rfl hK (va_recv hK hP (ci := 4) (q0 := 1) rfl rfl)) rfl rfl hl.1 rfl (lv_room (Nat.le_of_ble_eq_true rfl)) qd_O_clear_4 ⟨(Nat.zero_le _), (Nat.zero_le _)⟩) hS hA hP hD [1, 2] [0] [0, 1, 2] rfl rfl (by decide) (by decide) (by decide) (fun _ => rfl) (fun u_2 H locs hu_2 hP hD hS => ?_)
  obtain ⟨L1, f1⟩ := u_2
  obtain ⟨rfl, hok1⟩ : L1 = [] ∧ sh_ok 11 f1 L1 := hu_2
  have hP : va_P (dC, dI) vwCl (wO oo h b cA gv tk (([] : List (Nat → Int32)).length) f1) H := hP
  have hD : va_D A (wO oo h b cA gv tk (([] : List (Nat → Int32)).length) f1) := hD
  exact mk_mvret ([], f1) hx hb hr hlocks hP hK hD hS qd_O_clear_7 (⟨rfl, hok1⟩)
set_option maxHeartbeats 4000000 in
set_option maxRecDepth 100000 in
/-- add(kind, rows, line), where there is room -/
theorem c_O_add (l : Launch) (dC : Nat → ClassId) (dI : Nat → Nat → Nat) (cA : ClassId) (sz : Nat) (oo h b ro h2 b2 : Nat) (gv tk : Int32) (f fR : Nat → Int32) (Lo L : List (Nat → Int32)) (hwf : sh_wf 11 192 f Lo) (hwfR : sh_wf 12 96 fR L) (hroom : Lo.length < 192) (kd : Int32) (i' : Nat) (r0 : Nat → Int32) (hr0 : L[i']? = some r0) : Met l qy_O_add qw_O_add ({ frames := 2, cells := 0, slots := 0, locals := 82 }) (mk_mu [.ref oo, .int kd, .ref ro, .int (nI i')] sz (dC, dI) vwCl [(cA, .int)] (wOR oo h b cA gv tk Lo.length f ro h2 b2 L.length fR)) (mk_muV (S := List (Nat → Int32) × (Nat → Int32)) (fun u => u.1 = Lo ++ [ot_rec kd r0] ∧ sh_ok 11 u.2 u.1) (fun u => wOR oo h b cA (if kd = 1 then gv + 1 else gv) (if kd = 1 then tk else tk + 1) u.1.length u.2 ro h2 b2 L.length fR) (dC, dI) vwCl [(cA, .int)] (va_A (wOR oo h b cA gv tk Lo.length f ro h2 b2 L.length fR) sz)) 0 0 (va_A (wOR oo h b cA gv tk Lo.length f ro h2 b2 L.length fR) sz) := by
  refine Met.ofW (cc := qb_O_add) (maxL := 6) (ret := none) (by decide) rfl ?_
  intro p e s m args below meth c s₁ B hml hpre
  obtain ⟨rfl, hsz, hP, hK, hD0⟩ := hpre
  have hx := B.exec
  have hb := B.bytes
  have hr := B.returns
  have hts0 := atoms_spec (ws := qw_O_add) B.pre
  have hts := fun w (h : w ∈ lw_gd) => hts0 w (List.mem_cons_of_mem _ h)
  have hown : s.vm.findClass qR_O = some m.cls := findClass_of_methodNamed B.named
  have hlocks := B.notSynchronized
  subst hsz
  have hD := hD0.self (sz := s.heap.size)
  generalize hAe : va_A (wOR oo h b cA gv tk Lo.length f ro h2 b2 L.length fR) s.heap.size = A at hD ⊢
  have hA : ∀ q : Nat, s.heap.size ≤ q → A q := fun q h => by rw [← hAe]; exact Or.inr h
  have hS : va_S A s.heap s.heap [] := va_S.rf
  have hl := lv_entry ([.ref oo, .int kd, .ref ro, .int (nI i')]) (n := 6) (Nat.le_of_ble_eq_true rfl)
  rw [lg_entry_eq]
  generalize (lg_sl ([.ref oo, .int kd, .ref ro, .int (nI i')]) ++ List.replicate (6 - (lg_sl ([.ref oo, .int kd, .ref ro, .int (nI i')])).length) Slot.unset).toArray = ls at hl ⊢
  have hl : lv_has ls 6 [(0, .ref oo), (1, .int kd), (2, .ref ro), (3, .int (nI i'))] := hl
  have hP : va_P (dC, dI) vwCl (wOR oo h b cA gv tk Lo.length f ro h2 b2 L.length fR) s.heap := hP
  refine mk_start (A := A) hP (fun H locs hP hS => ?_)
  obtain ⟨hok, hlen, -, -, -⟩ := id hwf
  obtain ⟨hok2r, hlen2, -, -, -⟩ := id hwfR
  refine lv_aload_n hx hb qd_O_add_0 rfl (lv_at hl 0 rfl) ?_
  refine va_get (D := (dC, dI)) (ci := 2) (v := .ref h) (C := qR_O) (T := qT_O) (N := 3) hx hb hts qin_O hown hK hP 0 rfl rfl 0 (by decide) (hts _ mw_104) (fun _ h9 => h9) rfl qd_O_add_1 ?_
  refine mk_calli (va_runV (As := []) (rest := []) ⟨hx, hb, hml, hown, hts⟩ (c_Sh_size l dC dI cA H.size h b 11 192 f Lo hwf) (cwV 0 hts gc_O_20 rfl rfl rfl (by decide +kernel) ⟨Nat.le_of_ble_eq_true rfl, Nat.le_of_ble_eq_true rfl⟩) (mk_roV hP [1, 2] rfl hK (va_recv hK hP (ci := 4) (q0 := 1) rfl rfl)) rfl rfl hl.1 rfl (lv_room (Nat.le_of_ble_eq_true rfl)) qd_O_add_4 ⟨(Nat.zero_le _), (Nat.zero_le _)⟩) hS hA hP (fun r_1 H locs hr_1 hP hS => ?_)
  obtain rfl : r_1 = nI Lo.length := hr_1
  refine lv_istore (lv' := [(4, .int (nI Lo.length)), (0, .ref oo), (1, .int kd), (2, .ref ro), (3, .int (nI i'))]) hx hb qd_O_add_7 hl (by decide) rfl (fun ls hl => ?_)
  refine lv_aload_n hx hb qd_O_add_9 rfl (lv_at hl 3 rfl) ?_
  refine lv_ifnull hx hb qd_O_add_10 ?_
  refine lv_aload_n hx hb qd_O_add_13 rfl (lv_at hl 1 rfl) ?_
  refine va_get (D := (dC, dI)) (ci := 2) (v := .ref h) (C := qR_O) (T := qT_O) (N := 3) hx hb hts qin_O hown hK hP 0 rfl rfl 0 (by decide) (hts _ mw_104) (fun _ h9 => h9) rfl qd_O_add_14 ?_
  refine lv_iload hx hb qd_O_add_17 (lv_at hl 0 rfl) ?_
  refine mk_mcalli (wr := [(oo, .inr (2, [.ref h, .int gv, .int tk])), (ro, .inr (3, [.ref h2])), (h2, .inr (4, [.int (nI 12), .int (nI 96), .ref b2, .int (nI L.length)])), (b2, .inl (cA, (12 * 96), .inl fR))]) (wf := (fun u => wOR oo h b cA gv tk u.1.length u.2 ro h2 b2 L.length fR)) (va_runV (As := [.int (nI Lo.length)]) (rest := []) ⟨hx, hb, hml, hown, hts⟩ (c_Sh_open l dC dI cA H.size h b 11 192 f Lo hwf Lo.length (Nat.le_refl _) hroom) (cwV 1 hts gc_O_31 rfl rfl rfl (by decide +kernel) ⟨Nat.le_of_ble_eq_true rfl, Nat.le_of_ble_eq_true rfl⟩) (mk_muP hP hD [1, 2] (by decide) rfl hK (va_recv hK hP (ci := 4) (q0 := 1) rfl rfl)) rfl rfl hl.1 rfl (lv_room (Nat.le_of_ble_eq_true rfl)) qd_O_add_19 ⟨(Nat.zero_le _), (Nat.zero_le _)⟩) hS hA hP hD [1, 2] [0, 3, 4, 5] [0, 4, 5, 1, 2, 3] rfl rfl (by decide) (by decide) (by decide) (fun _ => rfl) (fun r_2 u_3 H locs hr_2 hP hD hS => ?_)
  obtain ⟨L1, f1⟩ := u_3
  obtain ⟨rfl, rfl, hok1⟩ : r_2 = 1 ∧ L1 = (Lo.take Lo.length ++ (fun j => f (Lo.length * 11 + j)) :: Lo.drop Lo.length) ∧ sh_ok 11 f1 L1 := hr_2
  generalize (fun j => f (Lo.length * 11 + j)) = r1 at hP hD hok1
  have hP : va_P (dC, dI) vwCl (wOR oo h b cA gv tk ((Lo.take Lo.length ++ r1 :: Lo.drop Lo.length).length) f1 ro h2 b2 L.length fR) H := hP
  have hD : va_D A (wOR oo h b cA gv tk ((Lo.take Lo.length ++ r1 :: Lo.drop Lo.length).length) f1 ro h2 b2 L.length fR) := hD
  refine lv_if_ne (tgt := 26) hx hb qd_O_add_22 (by decide) (fun c_4 => ?_) (fun c_4 => ?_)
  · refine mk_after (σ := Int32 × Int32) (fun y9 H locs ls => (y9.1 = (if kd = 1 then gv + 1 else gv) ∧ y9.2 = (if kd = 1 then tk else tk + 1)) ∧ va_P (dC, dI) vwCl (wOR oo h b cA y9.1 y9.2 ((Lo.take Lo.length ++ r1 :: Lo.drop Lo.length).length) f1 ro h2 b2 L.length fR) H ∧ va_D A (wOR oo h b cA y9.1 y9.2 ((Lo.take Lo.length ++ r1 :: Lo.drop Lo.length).length) f1 ro h2 b2 L.length fR) ∧ va_S A s.heap H locs ∧ lv_has ls 6 [(0, .ref oo), (1, .int kd), (2, .ref ro), (3, .int (nI i')), (4, .int (nI Lo.length))]) (fun ls => F0 m 54 ls []) (fun y9 H locs ls hI => ?_) (fun J_5 => ?_)
    · obtain ⟨g2, t2⟩ := y9
      obtain ⟨hinv, hP, hD, hS, hl⟩ := hI
      have hinv : g2 = (if kd = 1 then gv + 1 else gv) ∧ t2 = (if kd = 1 then tk else tk + 1) := hinv
      have hP : va_P (dC, dI) vwCl (wOR oo h b cA g2 t2 ((Lo.take Lo.length ++ r1 :: Lo.drop Lo.length).length) f1 ro h2 b2 L.length fR) H := hP
      have hD : va_D A (wOR oo h b cA g2 t2 ((Lo.take Lo.length ++ r1 :: Lo.drop Lo.length).length) f1 ro h2 b2 L.length fR) := hD
      have hl : lv_has ls 6 [(0, .ref oo), (1, .int kd), (2, .ref ro), (3, .int (nI i')), (4, .int (nI Lo.length))] := hl
      obtain ⟨rfl, rfl⟩ := hinv
      have hP : va_P (dC, dI) vwCl (wOR oo h b cA (if kd = 1 then gv + 1 else gv) (if kd = 1 then tk else tk + 1) ((Lo.take Lo.length ++ r1 :: Lo.drop Lo.length).length) f1 ro h2 b2 L.length fR) H := hP
      have hD : va_D A (wOR oo h b cA (if kd = 1 then gv + 1 else gv) (if kd = 1 then tk else tk + 1) ((Lo.take Lo.length ++ r1 :: Lo.drop Lo.length).length) f1 ro h2 b2 L.length fR) := hD
      refine lv_aload_n hx hb qd_O_add_54 rfl (lv_at hl 0 rfl) ?_
      refine va_get (D := (dC, dI)) (ci := 2) (v := .ref h) (C := qR_O) (T := qT_O) (N := 3) hx hb hts qin_O hown hK hP 0 rfl rfl 0 (by decide) (hts _ mw_104) (fun _ h9 => h9) rfl qd_O_add_55 ?_
      refine lv_iload hx hb qd_O_add_58 (lv_at hl 4 rfl) ?_
      refine lv_iconst (v := 0) hx hb qd_O_add_60 (by decide) ?_
      refine lv_iload_n hx hb qd_O_add_61 rfl (lv_at hl 1 rfl) ?_
      have hwf1 : sh_wf 11 192 f1 (Lo.take Lo.length ++ r1 :: Lo.drop Lo.length) := ⟨hok1, by rw [ls_ins_len (Nat.le_refl _)]; omega, by decide, by decide, by decide⟩
      refine mk_mcallv (wr := [(oo, .inr (2, [.ref h, .int (if kd = 1 then gv + 1 else gv), .int (if kd = 1 then tk else tk + 1)])), (ro, .inr (3, [.ref h2])), (h2, .inr (4, [.int (nI 12), .int (nI 96), .ref b2, .int (nI L.length)])), (b2, .inl (cA, (12 * 96), .inl fR))]) (wf := (fun u => wOR oo h b cA (if kd = 1 then gv + 1 else gv) (if kd = 1 then tk else tk + 1) u.1.length u.2 ro h2 b2 L.length fR)) (va_runV (As := [.int (nI Lo.length), .int 0, .int kd]) (rest := []) ⟨hx, hb, hml, hown, hts⟩ (c_Sh_set l dC dI cA H.size h b 11 192 f1 (Lo.take Lo.length ++ r1 :: Lo.drop Lo.length) hwf1 Lo.length 0 kd r1 (ls_ins_at (Nat.le_refl _)) (by omega)) (cwV 3 hts gc_O_42 rfl rfl rfl (by decide +kernel) ⟨Nat.le_of_ble_eq_true rfl, Nat.le_of_ble_eq_true rfl⟩) (mk_muP hP hD [1, 2] (by decide) rfl hK (va_recv hK hP (ci := 4) (q0 := 1) rfl rfl)) rfl rfl hl.1 rfl (lv_room (Nat.le_of_ble_eq_true rfl)) qd_O_add_62 ⟨(Nat.zero_le _), (Nat.zero_le _)⟩) hS hA hP hD [1, 2] [0, 3, 4, 5] [0, 4, 5, 1, 2, 3] rfl rfl (by decide) (by decide) (by decide) (fun _ => rfl) (fun u_7 H locs hu_7 hP hD hS => ?_)
      obtain ⟨L1, f2⟩ := u_7
      have hu_7 : L1 = (Lo.take Lo.length ++ r1 :: Lo.drop Lo.length).set Lo.length (upd r1 0 kd) ∧ sh_ok 11 f2 L1 := hu_7
      rw [ls_ins_set (Nat.le_refl _)] at hu_7
      obtain ⟨rfl, hok2⟩ := hu_7
      have hP : va_P (dC, dI) vwCl (wOR oo h b cA (if kd = 1 then gv + 1 else gv) (if kd = 1 then tk else tk + 1) ((Lo.take Lo.length ++ (upd r1 0 kd) :: Lo.drop Lo.length).length) f2 ro h2 b2 L.length fR) H := hP
      have hD : va_D A (wOR oo h b cA (if kd = 1 then gv + 1 else gv) (if kd = 1 then tk else tk + 1) ((Lo.take Lo.length ++ (upd r1 0 kd) :: Lo.drop Lo.length).length) f2 ro h2 b2 L.length fR) := hD
      refine lv_aload_n hx hb qd_O_add_65 rfl (lv_at hl 0 rfl) ?_
      refine va_get (D := (dC, dI)) (ci := 2) (v := .ref h) (C := qR_O) (T := qT_O) (N := 3) hx hb hts qin_O hown hK hP 0 rfl rfl 0 (by decide) (hts _ mw_104) (fun _ h9 => h9) rfl qd_O_add_66 ?_
      refine lv_iload hx hb qd_O_add_69 (lv_at hl 4 rfl) ?_
      refine lv_iconst (v := 1) hx hb qd_O_add_71 (by decide) ?_
      refine lv_aload_n hx hb qd_O_add_72 rfl (lv_at hl 2 rfl) ?_
      refine lv_iload_n hx hb qd_O_add_73 rfl (lv_at hl 3 rfl) ?_
      refine lv_iconst (v := 0) hx hb qd_O_add_74 (by decide) ?_
      refine mk_calli (va_runV (As := [.int (nI i'), .int 0]) (rest := [.int 1, .int (nI Lo.length), .ref h]) ⟨hx, hb, hml, hown, hts⟩ (c_R_get l dC dI cA H.size ro h2 b2 fR L hwfR (nI i') 0) (cwV 2 hts gc_O_48 rfl rfl rfl (by decide +kernel) ⟨Nat.le_of_ble_eq_true rfl, Nat.le_of_ble_eq_true rfl⟩) (mk_roV hP [3, 4, 5] rfl hK (va_recv hK hP (ci := 3) (q0 := 3) rfl rfl)) rfl rfl hl.1 rfl (lv_room (Nat.le_of_ble_eq_true rfl)) qd_O_add_75 ⟨(Nat.zero_le _), (Nat.zero_le _)⟩) hS hA hP (fun r_8 H locs hr_8 hP hS => ?_)
      obtain rfl : r_8 = r0 0 := Eq.trans hr_8 (sh_get_in (by omega) (by decide) hr0 (by first | decide | omega))
      have hwf2 : sh_wf 11 192 f2 (Lo.take Lo.length ++ (upd r1 0 kd) :: Lo.drop Lo.length) := ⟨hok2, by rw [ls_ins_len (Nat.le_refl _)]; omega, by decide, by decide, by decide⟩
      refine mk_mcallv (wr := [(oo, .inr (2, [.ref h, .int (if kd = 1 then gv + 1 else gv), .int (if kd = 1 then tk else tk + 1)])), (ro, .inr (3, [.ref h2])), (h2, .inr (4, [.int (nI 12), .int (nI 96), .ref b2, .int (nI L.length)])), (b2, .inl (cA, (12 * 96), .inl fR))]) (wf := (fun u => wOR oo h b cA (if kd = 1 then gv + 1 else gv) (if kd = 1 then tk else tk + 1) u.1.length u.2 ro h2 b2 L.length fR)) (va_runV (As := [.int (nI Lo.length), .int 1, .int (r0 0)]) (rest := []) ⟨hx, hb, hml, hown, hts⟩ (c_Sh_set l dC dI cA H.size h b 11 192 f2 (Lo.take Lo.length ++ (upd r1 0 kd) :: Lo.drop Lo.length) hwf2 Lo.length 1 (r0 0) (upd r1 0 kd) (ls_ins_at (Nat.le_refl _)) (by omega)) (cwV 3 hts gc_O_42 rfl rfl rfl (by decide +kernel) ⟨Nat.le_of_ble_eq_true rfl, Nat.le_of_ble_eq_true rfl⟩) (mk_muP hP hD [1, 2] (by decide) rfl hK (va_recv hK hP (ci := 4) (q0 := 1) rfl rfl)) rfl rfl hl.1 rfl (lv_room (Nat.le_of_ble_eq_true rfl)) qd_O_add_78 ⟨(Nat.zero_le _), (Nat.zero_le _)⟩) hS hA hP hD [1, 2] [0, 3, 4, 5] [0, 4, 5, 1, 2, 3] rfl rfl (by decide) (by decide) (by decide) (fun _ => rfl) (fun u_10 H locs hu_10 hP hD hS => ?_)
      obtain ⟨L1, f3⟩ := u_10
      have hu_10 : L1 = (Lo.take Lo.length ++ (upd r1 0 kd) :: Lo.drop Lo.length).set Lo.length (upd (upd r1 0 kd) 1 (r0 0)) ∧ sh_ok 11 f3 L1 := hu_10
      rw [ls_ins_set (Nat.le_refl _)] at hu_10
      obtain ⟨rfl, hok3⟩ := hu_10
      have hP : va_P (dC, dI) vwCl (wOR oo h b cA (if kd = 1 then gv + 1 else gv) (if kd = 1 then tk else tk + 1) ((Lo.take Lo.length ++ (upd (upd r1 0 kd) 1 (r0 0)) :: Lo.drop Lo.length).length) f3 ro h2 b2 L.length fR) H := hP
      have hD : va_D A (wOR oo h b cA (if kd = 1 then gv + 1 else gv) (if kd = 1 then tk else tk + 1) ((Lo.take Lo.length ++ (upd (upd r1 0 kd) 1 (r0 0)) :: Lo.drop Lo.length).length) f3 ro h2 b2 L.length fR) := hD
      refine lv_aload_n hx hb qd_O_add_81 rfl (lv_at hl 0 rfl) ?_
      refine va_get (D := (dC, dI)) (ci := 2) (v := .ref h) (C := qR_O) (T := qT_O) (N := 3) hx hb hts qin_O hown hK hP 0 rfl rfl 0 (by decide) (hts _ mw_104) (fun _ h9 => h9) rfl qd_O_add_82 ?_
      refine lv_iload hx hb qd_O_add_85 (lv_at hl 4 rfl) ?_
      refine lv_iconst (v := 2) hx hb qd_O_add_87 (by decide) ?_
      refine lv_aload_n hx hb qd_O_add_88 rfl (lv_at hl 2 rfl) ?_
      refine lv_iload_n hx hb qd_O_add_89 rfl (lv_at hl 3 rfl) ?_
      refine lv_iconst (v := 1) hx hb qd_O_add_90 (by decide) ?_
      refine mk_calli (va_runV (As := [.int (nI i'), .int 1]) (rest := [.int 2, .int (nI Lo.length), .ref h]) ⟨hx, hb, hml, hown, hts⟩ (c_R_get l dC dI cA H.size ro h2 b2 fR L hwfR (nI i') 1) (cwV 2 hts gc_O_48 rfl rfl rfl (by decide +kernel) ⟨Nat.le_of_ble_eq_true rfl, Nat.le_of_ble_eq_true rfl⟩) (mk_roV hP [3, 4, 5] rfl hK (va_recv hK hP (ci := 3) (q0 := 3) rfl rfl)) rfl rfl hl.1 rfl (lv_room (Nat.le_of_ble_eq_true rfl)) qd_O_add_91 ⟨(Nat.zero_le _), (Nat.zero_le _)⟩) hS hA hP (fun r_11 H locs hr_11 hP hS => ?_)
      obtain rfl : r_11 = r0 1 := Eq.trans hr_11 (sh_get_in (by omega) (by decide) hr0 (by first | decide | omega))
      have hwf3 : sh_wf 11 192 f3 (Lo.take Lo.length ++ (upd (upd r1 0 kd) 1 (r0 0)) :: Lo.drop Lo.length) := ⟨hok3, by rw [ls_ins_len (Nat.le_refl _)]; omega, by decide, by decide, by decide⟩
      refine mk_mcallv (wr := [(oo, .inr (2, [.ref h, .int (if kd = 1 then gv + 1 else gv), .int (if kd = 1 then tk else tk + 1)])), (ro, .inr (3, [.ref h2])), (h2, .inr (4, [.int (nI 12), .int (nI 96), .ref b2, .int (nI L.length)])), (b2, .inl (cA, (12 * 96), .inl fR))]) (wf := (fun u => wOR oo h b cA (if kd = 1 then gv + 1 else gv) (if kd = 1 then tk else tk + 1) u.1.length u.2 ro h2 b2 L.length fR)) (va_runV (As := [.int (nI Lo.length), .int 2, .int (r0 1)]) (rest := []) ⟨hx, hb, hml, hown, hts⟩ (c_Sh_set l dC dI cA H.size h b 11 192 f3 (Lo.take Lo.length ++ (upd (upd r1 0 kd) 1 (r0 0)) :: Lo.drop Lo.length) hwf3 Lo.length 2 (r0 1) (upd (upd r1 0 kd) 1 (r0 0)) (ls_ins_at (Nat.le_refl _)) (by omega)) (cwV 3 hts gc_O_42 rfl rfl rfl (by decide +kernel) ⟨Nat.le_of_ble_eq_true rfl, Nat.le_of_ble_eq_true rfl⟩) (mk_muP hP hD [1, 2] (by decide) rfl hK (va_recv hK hP (ci := 4) (q0 := 1) rfl rfl)) rfl rfl hl.1 rfl (lv_room (Nat.le_of_ble_eq_true rfl)) qd_O_add_94 ⟨(Nat.zero_le _), (Nat.zero_le _)⟩) hS hA hP hD [1, 2] [0, 3, 4, 5] [0, 4, 5, 1, 2, 3] rfl rfl (by decide) (by decide) (by decide) (fun _ => rfl) (fun u_13 H locs hu_13 hP hD hS => ?_)
      obtain ⟨L1, f4⟩ := u_13
      have hu_13 : L1 = (Lo.take Lo.length ++ (upd (upd r1 0 kd) 1 (r0 0)) :: Lo.drop Lo.length).set Lo.length (upd (upd (upd r1 0 kd) 1 (r0 0)) 2 (r0 1)) ∧ sh_ok 11 f4 L1 := hu_13
      rw [ls_ins_set (Nat.le_refl _)] at hu_13
      obtain ⟨rfl, hok4⟩ := hu_13
      have hP : va_P (dC, dI) vwCl (wOR oo h b cA (if kd = 1 then gv + 1 else gv) (if kd = 1 then tk else tk + 1) ((Lo.take Lo.length ++ (upd (upd (upd r1 0 kd) 1 (r0 0)) 2 (r0 1)) :: Lo.drop Lo.length).length) f4 ro h2 b2 L.length fR) H := hP
      have hD : va_D A (wOR oo h b cA (if kd = 1 then gv + 1 else gv) (if kd = 1 then tk else tk + 1) ((Lo.take Lo.length ++ (upd (upd (upd r1 0 kd) 1 (r0 0)) 2 (r0 1)) :: Lo.drop Lo.length).length) f4 ro h2 b2 L.length fR) := hD
      refine lv_aload_n hx hb qd_O_add_97 rfl (lv_at hl 0 rfl) ?_
      refine va_get (D := (dC, dI)) (ci := 2) (v := .ref h) (C := qR_O) (T := qT_O) (N := 3) hx hb hts qin_O hown hK hP 0 rfl rfl 0 (by decide) (hts _ mw_104) (fun _ h9 => h9) rfl qd_O_add_98 ?_
      refine lv_iload hx hb qd_O_add_101 (lv_at hl 4 rfl) ?_
      refine lv_iconst (v := 3) hx hb qd_O_add_103 (by decide) ?_
      refine lv_aload_n hx hb qd_O_add_104 rfl (lv_at hl 2 rfl) ?_
      refine lv_iload_n hx hb qd_O_add_105 rfl (lv_at hl 3 rfl) ?_
      refine lv_iconst (v := 2) hx hb qd_O_add_106 (by decide) ?_
      refine mk_calli (va_runV (As := [.int (nI i'), .int 2]) (rest := [.int 3, .int (nI Lo.length), .ref h]) ⟨hx, hb, hml, hown, hts⟩ (c_R_get l dC dI cA H.size ro h2 b2 fR L hwfR (nI i') 2) (cwV 2 hts gc_O_48 rfl rfl rfl (by decide +kernel) ⟨Nat.le_of_ble_eq_true rfl, Nat.le_of_ble_eq_true rfl⟩) (mk_roV hP [3, 4, 5] rfl hK (va_recv hK hP (ci := 3) (q0 := 3) rfl rfl)) rfl rfl hl.1 rfl (lv_room (Nat.le_of_ble_eq_true rfl)) qd_O_add_107 ⟨(Nat.zero_le _), (Nat.zero_le _)⟩) hS hA hP (fun r_14 H locs hr_14 hP hS => ?_)
      obtain rfl : r_14 = r0 2 := Eq.trans hr_14 (sh_get_in (by omega) (by decide) hr0 (by first | decide | omega))
      have hwf4 : sh_wf 11 192 f4 (Lo.take Lo.length ++ (upd (upd (upd r1 0 kd) 1 (r0 0)) 2 (r0 1)) :: Lo.drop Lo.length) := ⟨hok4, by rw [ls_ins_len (Nat.le_refl _)]; omega, by decide, by decide, by decide⟩
      refine mk_mcallv (wr := [(oo, .inr (2, [.ref h, .int (if kd = 1 then gv + 1 else gv), .int (if kd = 1 then tk else tk + 1)])), (ro, .inr (3, [.ref h2])), (h2, .inr (4, [.int (nI 12), .int (nI 96), .ref b2, .int (nI L.length)])), (b2, .inl (cA, (12 * 96), .inl fR))]) (wf := (fun u => wOR oo h b cA (if kd = 1 then gv + 1 else gv) (if kd = 1 then tk else tk + 1) u.1.length u.2 ro h2 b2 L.length fR)) (va_runV (As := [.int (nI Lo.length), .int 3, .int (r0 2)]) (rest := []) ⟨hx, hb, hml, hown, hts⟩ (c_Sh_set l dC dI cA H.size h b 11 192 f4 (Lo.take Lo.length ++ (upd (upd (upd r1 0 kd) 1 (r0 0)) 2 (r0 1)) :: Lo.drop Lo.length) hwf4 Lo.length 3 (r0 2) (upd (upd (upd r1 0 kd) 1 (r0 0)) 2 (r0 1)) (ls_ins_at (Nat.le_refl _)) (by omega)) (cwV 3 hts gc_O_42 rfl rfl rfl (by decide +kernel) ⟨Nat.le_of_ble_eq_true rfl, Nat.le_of_ble_eq_true rfl⟩) (mk_muP hP hD [1, 2] (by decide) rfl hK (va_recv hK hP (ci := 4) (q0 := 1) rfl rfl)) rfl rfl hl.1 rfl (lv_room (Nat.le_of_ble_eq_true rfl)) qd_O_add_110 ⟨(Nat.zero_le _), (Nat.zero_le _)⟩) hS hA hP hD [1, 2] [0, 3, 4, 5] [0, 4, 5, 1, 2, 3] rfl rfl (by decide) (by decide) (by decide) (fun _ => rfl) (fun u_16 H locs hu_16 hP hD hS => ?_)
      obtain ⟨L1, f5⟩ := u_16
      have hu_16 : L1 = (Lo.take Lo.length ++ (upd (upd (upd r1 0 kd) 1 (r0 0)) 2 (r0 1)) :: Lo.drop Lo.length).set Lo.length (upd (upd (upd (upd r1 0 kd) 1 (r0 0)) 2 (r0 1)) 3 (r0 2)) ∧ sh_ok 11 f5 L1 := hu_16
      rw [ls_ins_set (Nat.le_refl _)] at hu_16
      obtain ⟨rfl, hok5⟩ := hu_16
      have hP : va_P (dC, dI) vwCl (wOR oo h b cA (if kd = 1 then gv + 1 else gv) (if kd = 1 then tk else tk + 1) ((Lo.take Lo.length ++ (upd (upd (upd (upd r1 0 kd) 1 (r0 0)) 2 (r0 1)) 3 (r0 2)) :: Lo.drop Lo.length).length) f5 ro h2 b2 L.length fR) H := hP
      have hD : va_D A (wOR oo h b cA (if kd = 1 then gv + 1 else gv) (if kd = 1 then tk else tk + 1) ((Lo.take Lo.length ++ (upd (upd (upd (upd r1 0 kd) 1 (r0 0)) 2 (r0 1)) 3 (r0 2)) :: Lo.drop Lo.length).length) f5 ro h2 b2 L.length fR) := hD
      refine lv_aload_n hx hb qd_O_add_113 rfl (lv_at hl 0 rfl) ?_
      refine va_get (D := (dC, dI)) (ci := 2) (v := .ref h) (C := qR_O) (T := qT_O) (N := 3) hx hb hts qin_O hown hK hP 0 rfl rfl 0 (by decide) (hts _ mw_104) (fun _ h9 => h9) rfl qd_O_add_114 ?_
      refine lv_iload hx hb qd_O_add_117 (lv_at hl 4 rfl) ?_
      refine lv_iconst (v := 4) hx hb qd_O_add_119 (by decide) ?_
      refine lv_aload_n hx hb qd_O_add_120 rfl (lv_at hl 2 rfl) ?_
      refine lv_iload_n hx hb qd_O_add_121 rfl (lv_at hl 3 rfl) ?_
      refine lv_iconst (v := 3) hx hb qd_O_add_122 (by decide) ?_
      refine mk_calli (va_runV (As := [.int (nI i'), .int 3]) (rest := [.int 4, .int (nI Lo.length), .ref h]) ⟨hx, hb, hml, hown, hts⟩ (c_R_get l dC dI cA H.size ro h2 b2 fR L hwfR (nI i') 3) (cwV 2 hts gc_O_48 rfl rfl rfl (by decide +kernel) ⟨Nat.le_of_ble_eq_true rfl, Nat.le_of_ble_eq_true rfl⟩) (mk_roV hP [3, 4, 5] rfl hK (va_recv hK hP (ci := 3) (q0 := 3) rfl rfl)) rfl rfl hl.1 rfl (lv_room (Nat.le_of_ble_eq_true rfl)) qd_O_add_123 ⟨(Nat.zero_le _), (Nat.zero_le _)⟩) hS hA hP (fun r_17 H locs hr_17 hP hS => ?_)
      obtain rfl : r_17 = r0 3 := Eq.trans hr_17 (sh_get_in (by omega) (by decide) hr0 (by first | decide | omega))
      have hwf5 : sh_wf 11 192 f5 (Lo.take Lo.length ++ (upd (upd (upd (upd r1 0 kd) 1 (r0 0)) 2 (r0 1)) 3 (r0 2)) :: Lo.drop Lo.length) := ⟨hok5, by rw [ls_ins_len (Nat.le_refl _)]; omega, by decide, by decide, by decide⟩
      refine mk_mcallv (wr := [(oo, .inr (2, [.ref h, .int (if kd = 1 then gv + 1 else gv), .int (if kd = 1 then tk else tk + 1)])), (ro, .inr (3, [.ref h2])), (h2, .inr (4, [.int (nI 12), .int (nI 96), .ref b2, .int (nI L.length)])), (b2, .inl (cA, (12 * 96), .inl fR))]) (wf := (fun u => wOR oo h b cA (if kd = 1 then gv + 1 else gv) (if kd = 1 then tk else tk + 1) u.1.length u.2 ro h2 b2 L.length fR)) (va_runV (As := [.int (nI Lo.length), .int 4, .int (r0 3)]) (rest := []) ⟨hx, hb, hml, hown, hts⟩ (c_Sh_set l dC dI cA H.size h b 11 192 f5 (Lo.take Lo.length ++ (upd (upd (upd (upd r1 0 kd) 1 (r0 0)) 2 (r0 1)) 3 (r0 2)) :: Lo.drop Lo.length) hwf5 Lo.length 4 (r0 3) (upd (upd (upd (upd r1 0 kd) 1 (r0 0)) 2 (r0 1)) 3 (r0 2)) (ls_ins_at (Nat.le_refl _)) (by omega)) (cwV 3 hts gc_O_42 rfl rfl rfl (by decide +kernel) ⟨Nat.le_of_ble_eq_true rfl, Nat.le_of_ble_eq_true rfl⟩) (mk_muP hP hD [1, 2] (by decide) rfl hK (va_recv hK hP (ci := 4) (q0 := 1) rfl rfl)) rfl rfl hl.1 rfl (lv_room (Nat.le_of_ble_eq_true rfl)) qd_O_add_126 ⟨(Nat.zero_le _), (Nat.zero_le _)⟩) hS hA hP hD [1, 2] [0, 3, 4, 5] [0, 4, 5, 1, 2, 3] rfl rfl (by decide) (by decide) (by decide) (fun _ => rfl) (fun u_19 H locs hu_19 hP hD hS => ?_)
      obtain ⟨L1, f6⟩ := u_19
      have hu_19 : L1 = (Lo.take Lo.length ++ (upd (upd (upd (upd r1 0 kd) 1 (r0 0)) 2 (r0 1)) 3 (r0 2)) :: Lo.drop Lo.length).set Lo.length (upd (upd (upd (upd (upd r1 0 kd) 1 (r0 0)) 2 (r0 1)) 3 (r0 2)) 4 (r0 3)) ∧ sh_ok 11 f6 L1 := hu_19
      rw [ls_ins_set (Nat.le_refl _)] at hu_19
      obtain ⟨rfl, hok6⟩ := hu_19
      have hP : va_P (dC, dI) vwCl (wOR oo h b cA (if kd = 1 then gv + 1 else gv) (if kd = 1 then tk else tk + 1) ((Lo.take Lo.length ++ (upd (upd (upd (upd (upd r1 0 kd) 1 (r0 0)) 2 (r0 1)) 3 (r0 2)) 4 (r0 3)) :: Lo.drop Lo.length).length) f6 ro h2 b2 L.length fR) H := hP
      have hD : va_D A (wOR oo h b cA (if kd = 1 then gv + 1 else gv) (if kd = 1 then tk else tk + 1) ((Lo.take Lo.length ++ (upd (upd (upd (upd (upd r1 0 kd) 1 (r0 0)) 2 (r0 1)) 3 (r0 2)) 4 (r0 3)) :: Lo.drop Lo.length).length) f6 ro h2 b2 L.length fR) := hD
      refine lv_iconst (v := 0) hx hb qd_O_add_129 (by decide) ?_
      refine mk_rw (y := nI 0) (rfl) ?_
      refine lv_istore (lv' := [(5, .int (nI 0)), (0, .ref oo), (1, .int kd), (2, .ref ro), (3, .int (nI i')), (4, .int (nI Lo.length))]) hx hb qd_O_add_130 hl (by decide) rfl (fun ls hl => ?_)
      refine mk_loop (σ := Nat × (Nat → Int32) × (Nat → Int32)) (fun n y9 H locs ls => (y9.1 + n = 6 ∧ (∀ c, c < 5 + y9.1 → y9.2.1 c = ot_rec kd r0 c) ∧ sh_ok 11 y9.2.2 (Lo.take Lo.length ++ y9.2.1 :: Lo.drop Lo.length)) ∧ va_P (dC, dI) vwCl (wOR oo h b cA (if kd = 1 then gv + 1 else gv) (if kd = 1 then tk else tk + 1) ((Lo.take Lo.length ++ y9.2.1 :: Lo.drop Lo.length).length) y9.2.2 ro h2 b2 L.length fR) H ∧ va_D A (wOR oo h b cA (if kd = 1 then gv + 1 else gv) (if kd = 1 then tk else tk + 1) ((Lo.take Lo.length ++ y9.2.1 :: Lo.drop Lo.length).length) y9.2.2 ro h2 b2 L.length fR) ∧ va_S A s.heap H locs ∧ lv_has ls 6 [(0, .ref oo), (1, .int kd), (2, .ref ro), (3, .int (nI i')), (4, .int (nI Lo.length)), (5, .int (nI y9.1))]) (fun ls => F0 m 132 ls []) (fun n y9 H locs ls hI ih_20 => ?_) (fun y9 H locs ls hI => ?_) 6 (0, (upd (upd (upd (upd (upd r1 0 kd) 1 (r0 0)) 2 (r0 1)) 3 (r0 2)) 4 (r0 3)), f6) H locs ls ⟨⟨rfl, fun c hc => by rcases (show c = 0 ∨ c = 1 ∨ c = 2 ∨ c = 3 ∨ c = 4 by omega) with rfl | rfl | rfl | rfl | rfl <;> rfl, hok6⟩, hP, hD, hS, lv_sub hl [1, 2, 3, 4, 5, 0] rfl⟩
      · obtain ⟨a, rr, f9⟩ := y9
        obtain ⟨hinv, hP, hD, hS, hl⟩ := hI
        have hinv : a + (n + 1) = 6 ∧ (∀ c, c < 5 + a → rr c = ot_rec kd r0 c) ∧ sh_ok 11 f9 (Lo.take Lo.length ++ rr :: Lo.drop Lo.length) := hinv
        have hP : va_P (dC, dI) vwCl (wOR oo h b cA (if kd = 1 then gv + 1 else gv) (if kd = 1 then tk else tk + 1) ((Lo.take Lo.length ++ rr :: Lo.drop Lo.length).length) f9 ro h2 b2 L.length fR) H := hP
        have hD : va_D A (wOR oo h b cA (if kd = 1 then gv + 1 else gv) (if kd = 1 then tk else tk + 1) ((Lo.take Lo.length ++ rr :: Lo.drop Lo.length).length) f9 ro h2 b2 L.length fR) := hD
        have hl : lv_has ls 6 [(0, .ref oo), (1, .int kd), (2, .ref ro), (3, .int (nI i')), (4, .int (nI Lo.length)), (5, .int (nI a))] := hl
        obtain ⟨ha, hrr, hok9⟩ := hinv
        refine lv_iload hx hb qd_O_add_132 (lv_at hl 5 rfl) ?_
        refine lv_bipush (v := 6) hx hb qd_O_add_134 (by decide) ?_
        refine lv_icmp_ge (tgt := 168) hx hb qd_O_add_136 (by decide) (fun c_21 => ?_) (fun c_21 => ?_)
        · exact absurd c_21 (nI_ge (a := a) (b := 6) (by omega) (by decide))
        · refine lv_aload_n hx hb qd_O_add_139 rfl (lv_at hl 0 rfl) ?_
          refine va_get (D := (dC, dI)) (ci := 2) (v := .ref h) (C := qR_O) (T := qT_O) (N := 3) hx hb hts qin_O hown hK hP 0 rfl rfl 0 (by decide) (hts _ mw_104) (fun _ h9 => h9) rfl qd_O_add_140 ?_
          refine lv_iload hx hb qd_O_add_143 (lv_at hl 4 rfl) ?_
          refine lv_iconst (v := 5) hx hb qd_O_add_145 (by decide) ?_
          refine lv_iload hx hb qd_O_add_146 (lv_at hl 5 rfl) ?_
          refine lv_iadd hx hb qd_O_add_148 ?_
          refine mk_rw (y := nI (5 + a)) (nI_add 5 a) ?_
          refine lv_aload_n hx hb qd_O_add_149 rfl (lv_at hl 2 rfl) ?_
          refine lv_iload_n hx hb qd_O_add_150 rfl (lv_at hl 3 rfl) ?_
          refine lv_bipush (v := 6) hx hb qd_O_add_151 (by decide) ?_
          refine lv_iload hx hb qd_O_add_153 (lv_at hl 5 rfl) ?_
          refine lv_iadd hx hb qd_O_add_155 ?_
          refine mk_rw (y := nI (6 + a)) (nI_add 6 a) ?_
          refine mk_calli (va_runV (As := [.int (nI i'), .int (nI (6 + a))]) (rest := [.int (nI (5 + a)), .int (nI Lo.length), .ref h]) ⟨hx, hb, hml, hown, hts⟩ (c_R_get l dC dI cA H.size ro h2 b2 fR L hwfR (nI i') (nI (6 + a))) (cwV 2 hts gc_O_48 rfl rfl rfl (by decide +kernel) ⟨Nat.le_of_ble_eq_true rfl, Nat.le_of_ble_eq_true rfl⟩) (mk_roV hP [3, 4, 5] rfl hK (va_recv hK hP (ci := 3) (q0 := 3) rfl rfl)) rfl rfl hl.1 rfl (lv_room (Nat.le_of_ble_eq_true rfl)) qd_O_add_156 ⟨(Nat.zero_le _), (Nat.zero_le _)⟩) hS hA hP (fun r_22 H locs hr_22 hP hS => ?_)
          obtain rfl : r_22 = r0 (6 + a) := Eq.trans hr_22 (sh_get_in (by omega) (by decide) hr0 (by first | decide | omega))
          have hwf9 : sh_wf 11 192 f9 (Lo.take Lo.length ++ rr :: Lo.drop Lo.length) := ⟨hok9, by rw [ls_ins_len (Nat.le_refl _)]; omega, by decide, by decide, by decide⟩
          refine mk_mcallv (wr := [(oo, .inr (2, [.ref h, .int (if kd = 1 then gv + 1 else gv), .int (if kd = 1 then tk else tk + 1)])), (ro, .inr (3, [.ref h2])), (h2, .inr (4, [.int (nI 12), .int (nI 96), .ref b2, .int (nI L.length)])), (b2, .inl (cA, (12 * 96), .inl fR))]) (wf := (fun u => wOR oo h b cA (if kd = 1 then gv + 1 else gv) (if kd = 1 then tk else tk + 1) u.1.length u.2 ro h2 b2 L.length fR)) (va_runV (As := [.int (nI Lo.length), .int (nI (5 + a)), .int (r0 (6 + a))]) (rest := []) ⟨hx, hb, hml, hown, hts⟩ (c_Sh_set l dC dI cA H.size h b 11 192 f9 (Lo.take Lo.length ++ rr :: Lo.drop Lo.length) hwf9 Lo.length (5 + a) (r0 (6 + a)) rr (ls_ins_at (Nat.le_refl _)) (by omega)) (cwV 3 hts gc_O_42 rfl rfl rfl (by decide +kernel) ⟨Nat.le_of_ble_eq_true rfl, Nat.le_of_ble_eq_true rfl⟩) (mk_muP hP hD [1, 2] (by decide) rfl hK (va_recv hK hP (ci := 4) (q0 := 1) rfl rfl)) rfl rfl hl.1 rfl (lv_room (Nat.le_of_ble_eq_true rfl)) qd_O_add_159 ⟨(Nat.zero_le _), (Nat.zero_le _)⟩) hS hA hP hD [1, 2] [0, 3, 4, 5] [0, 4, 5, 1, 2, 3] rfl rfl (by decide) (by decide) (by decide) (fun _ => rfl) (fun u_24 H locs hu_24 hP hD hS => ?_)
          obtain ⟨L1, f10⟩ := u_24
          have hu_24 : L1 = (Lo.take Lo.length ++ rr :: Lo.drop Lo.length).set Lo.length (upd rr (5 + a) (r0 (6 + a))) ∧ sh_ok 11 f10 L1 := hu_24
          rw [ls_ins_set (Nat.le_refl _)] at hu_24
          obtain ⟨rfl, hok10⟩ := hu_24
          have hP : va_P (dC, dI) vwCl (wOR oo h b cA (if kd = 1 then gv + 1 else gv) (if kd = 1 then tk else tk + 1) ((Lo.take Lo.length ++ (upd rr (5 + a) (r0 (6 + a))) :: Lo.drop Lo.length).length) f10 ro h2 b2 L.length fR) H := hP
          have hD : va_D A (wOR oo h b cA (if kd = 1 then gv + 1 else gv) (if kd = 1 then tk else tk + 1) ((Lo.take Lo.length ++ (upd rr (5 + a) (r0 (6 + a))) :: Lo.drop Lo.length).length) f10 ro h2 b2 L.length fR) := hD
          refine lv_iinc (v := nI (a + 1)) (lv' := [(5, .int (nI (a + 1))), (0, .ref oo), (1, .int kd), (2, .ref ro), (3, .int (nI i')), (4, .int (nI Lo.length))]) hx hb qd_O_add_162 hl (k := 5) rfl (mk_inc a) (by decide) rfl (fun ls hl => ?_)
          refine lv_goto (tgt := 132) hx hb qd_O_add_165 (by decide) ?_
          exact ih_20 ((a + 1), (upd rr (5 + a) (r0 (6 + a))), f10) H locs ls ⟨⟨by omega, ot_s hrr, hok10⟩, hP, hD, hS, lv_sub hl [1, 2, 3, 4, 5, 0] rfl⟩
      · obtain ⟨a, rr, f9⟩ := y9
        obtain ⟨hinv, hP, hD, hS, hl⟩ := hI
        have hinv : a + 0 = 6 ∧ (∀ c, c < 5 + a → rr c = ot_rec kd r0 c) ∧ sh_ok 11 f9 (Lo.take Lo.length ++ rr :: Lo.drop Lo.length) := hinv
        have hP : va_P (dC, dI) vwCl (wOR oo h b cA (if kd = 1 then gv + 1 else gv) (if kd = 1 then tk else tk + 1) ((Lo.take Lo.length ++ rr :: Lo.drop Lo.length).length) f9 ro h2 b2 L.length fR) H := hP
        have hD : va_D A (wOR oo h b cA (if kd = 1 then gv + 1 else gv) (if kd = 1 then tk else tk + 1) ((Lo.take Lo.length ++ rr :: Lo.drop Lo.length).length) f9 ro h2 b2 L.length fR) := hD
        have hl : lv_has ls 6 [(0, .ref oo), (1, .int kd), (2, .ref ro), (3, .int (nI i')), (4, .int (nI Lo.length)), (5, .int (nI a))] := hl
        obtain ⟨ha, hrr, hok9⟩ := hinv
        refine lv_iload hx hb qd_O_add_132 (lv_at hl 5 rfl) ?_
        refine lv_bipush (v := 6) hx hb qd_O_add_134 (by decide) ?_
        refine lv_icmp_ge (tgt := 168) hx hb qd_O_add_136 (by decide) (fun c_25 => ?_) (fun c_25 => ?_)
        · have hP : va_P (dC, dI) vwCl (wOR oo h b cA (if kd = 1 then gv + 1 else gv) (if kd = 1 then tk else tk + 1) (Lo ++ [ot_rec kd r0]).length f9 ro h2 b2 L.length fR) H := by rw [ot_len (r := rr)]; exact hP
          have hD : va_D A (wOR oo h b cA (if kd = 1 then gv + 1 else gv) (if kd = 1 then tk else tk + 1) (Lo ++ [ot_rec kd r0]).length f9 ro h2 b2 L.length fR) := by rw [ot_len (r := rr)]; exact hD
          exact mk_mvret (Lo ++ [ot_rec kd r0], f9) hx hb hr hlocks hP hK hD hS qd_O_add_168 ⟨rfl, ot_fin hok9 (fun c hc => hrr c (by omega))⟩
        · exact absurd (show nI 6 ≤ nI a from by rw [show a = 6 by omega]; exact nI_le (Nat.le_refl _) (by decide)) c_25
    · refine lv_iload_n hx hb qd_O_add_26 rfl (lv_at hl 2 rfl) ?_
      refine lv_iconst (v := 1) hx hb qd_O_add_27 (by decide) ?_
      refine lv_icmp_ne (tgt := 44) hx hb qd_O_add_28 (by decide) (fun c_26 => ?_) (fun c_26 => ?_)
      · refine lv_aload_n hx hb qd_O_add_44 rfl (lv_at hl 1 rfl) ?_
        refine lv_dup hx hb qd_O_add_45 rfl ?_
        refine va_get (D := (dC, dI)) (ci := 2) (v := .int tk) (C := qR_O) (T := qT_O) (N := 3) hx hb hts qin_O hown hK hP 0 rfl rfl 2 (by decide) (hts _ mw_107) (fun _ h9 => h9) rfl qd_O_add_46 ?_
        refine lv_iconst (v := 1) hx hb qd_O_add_49 (by decide) ?_
        refine lv_iadd hx hb qd_O_add_50 ?_
        refine va_put (D := (dC, dI)) (ci := 2) (v := .int (tk + 1)) (ty := .int) (C := qR_O) (T := qT_O) (N := 3) hx hb hts qin_O qty_O qtyok_O qnm_O hown hK hP hD hS 0 rfl rfl 2 (by decide) (hts _ mw_107) (fun _ h9 => h9) rfl (by decide +kernel) rfl rfl (Nat.le_of_ble_eq_true rfl) qd_O_add_51 (fun H locs hP hD hS => ?_)
        have hP : va_P (dC, dI) vwCl (wOR oo h b cA gv (tk + 1) ((Lo.take Lo.length ++ r1 :: Lo.drop Lo.length).length) f1 ro h2 b2 L.length fR) H := hP
        have hD : va_D A (wOR oo h b cA gv (tk + 1) ((Lo.take Lo.length ++ r1 :: Lo.drop Lo.length).length) f1 ro h2 b2 L.length fR) := hD
        exact J_5 (gv, (tk + 1)) H locs ls ⟨⟨(if_neg c_26).symm, (if_neg c_26).symm⟩, hP, hD, hS, lv_sub hl [1, 2, 3, 4, 0] rfl⟩
      · refine lv_aload_n hx hb qd_O_add_31 rfl (lv_at hl 1 rfl) ?_
        refine lv_dup hx hb qd_O_add_32 rfl ?_
        refine va_get (D := (dC, dI)) (ci := 2) (v := .int gv) (C := qR_O) (T := qT_O) (N := 3) hx hb hts qin_O hown hK hP 0 rfl rfl 1 (by decide) (hts _ mw_105) (fun _ h9 => h9) rfl qd_O_add_33 ?_
        refine lv_iconst (v := 1) hx hb qd_O_add_36 (by decide) ?_
        refine lv_iadd hx hb qd_O_add_37 ?_
        refine va_put (D := (dC, dI)) (ci := 2) (v := .int (gv + 1)) (ty := .int) (C := qR_O) (T := qT_O) (N := 3) hx hb hts qin_O qty_O qtyok_O qnm_O hown hK hP hD hS 0 rfl rfl 1 (by decide) (hts _ mw_105) (fun _ h9 => h9) rfl (by decide +kernel) rfl rfl (Nat.le_of_ble_eq_true rfl) qd_O_add_38 (fun H locs hP hD hS => ?_)
        have hP : va_P (dC, dI) vwCl (wOR oo h b cA (gv + 1) tk ((Lo.take Lo.length ++ r1 :: Lo.drop Lo.length).length) f1 ro h2 b2 L.length fR) H := hP
        have hD : va_D A (wOR oo h b cA (gv + 1) tk ((Lo.take Lo.length ++ r1 :: Lo.drop Lo.length).length) f1 ro h2 b2 L.length fR) := hD
        refine lv_goto (tgt := 54) hx hb qd_O_add_41 (by decide) ?_
        exact J_5 ((gv + 1), tk) H locs ls ⟨⟨(if_pos c_26).symm, (if_pos c_26).symm⟩, hP, hD, hS, lv_sub hl [1, 2, 3, 4, 0] rfl⟩
  · exact absurd c_4 (by decide)
end
section
set_option maxHeartbeats 4000000 in
set_option maxRecDepth 100000 in
/-- isTable(table) -/
theorem c_X_isTable (l : Launch) (dC : Nat → ClassId) (dI : Nat → Nat → Nat) (cA : ClassId) (sz : Nat) (a : Nat → Nat) (x ru ma jo : Nat → Int32) (gv tk : Int32) (kV : Nat) (fV : Nat → Int32) (kR : Nat) (fR : Nat → Int32) (kO : Nat) (fO : Nat → Int32) (t : Int32) : Met l qy_X_isTable qw_X_isTable ({ frames := 0, cells := 0, slots := 0, locals := 0 }) (mk_ro [.ref (a 0), .int t] sz (dC, dI) vwCl [(cA, .int)] (wX a cA x ru ma jo gv tk kV fV kR fR kO fO)) (mk_roQ (fun r => r = xt_b (x 6) t) sz) 0 0 (mk_new sz) := by
  refine Met.ofW (cc := qb_X_isTable) (maxL := 2) (ret := (some .boolean)) (by decide) rfl ?_
  intro p e s m args below meth c s₁ B hml hpre
  obtain ⟨rfl, hsz, hP, hK⟩ := hpre
  have hx := B.exec
  have hb := B.bytes
  have hr := B.returns
  have hts0 := atoms_spec (ws := qw_X_isTable) B.pre
  have hts := fun w (h : w ∈ lw_gd) => hts0 w (List.mem_cons_of_mem _ h)
  have hown : s.vm.findClass qR_X = some m.cls := findClass_of_methodNamed B.named
  have hlocks := B.notSynchronized
  subst hsz
  have hA : ∀ q : Nat, s.heap.size ≤ q → mk_new s.heap.size q := fun _ h => h
  have hS : va_S (mk_new s.heap.size) s.heap s.heap [] := va_S.rf
  have hl := lv_entry ([.ref (a 0), .int t]) (n := 2) (Nat.le_of_ble_eq_true rfl)
  rw [lg_entry_eq]
  generalize (lg_sl ([.ref (a 0), .int t]) ++ List.replicate (2 - (lg_sl ([.ref (a 0), .int t])).length) Slot.unset).toArray = ls at hl ⊢
  have hl : lv_has ls 2 [(0, .ref (a 0)), (1, .int t)] := hl
  have hP : va_P (dC, dI) vwCl (wX a cA x ru ma jo gv tk kV fV kR fR kO fO) s.heap := hP
  refine mk_start (A := (mk_new s.heap.size)) hP (fun H locs hP hS => ?_)
  refine lv_iload_n hx hb qd_X_isTable_0 rfl (lv_at hl 1 rfl) ?_
  refine lv_if_lt (tgt := 21) hx hb qd_X_isTable_1 (by decide) (fun c_1 => ?_) (fun c_1 => ?_)
  · refine lv_iconst (v := 0) hx hb qd_X_isTable_21 (by decide) ?_
    exact mk_zret hx hb hr hlocks hS qd_X_isTable_22 (by decide) ((if_neg (fun q => q.1 c_1)).symm)
  · refine lv_iload_n hx hb qd_X_isTable_4 rfl (lv_at hl 1 rfl) ?_
    refine lv_aload_n hx hb qd_X_isTable_5 rfl (lv_at hl 0 rfl) ?_
    refine va_get (D := (dC, dI)) (ci := 0) (v := .int (x 6)) (C := qR_X) (T := qT_X) (N := 13) hx hb hts qin_X hown hK hP 0 rfl rfl 6 (by decide) (hts _ mw_122) (fun _ h9 => h9) rfl qd_X_isTable_6 ?_
    refine lv_icmp_ge (tgt := 21) hx hb qd_X_isTable_9 (by decide) (fun c_2 => ?_) (fun c_2 => ?_)
    · refine lv_iconst (v := 0) hx hb qd_X_isTable_21 (by decide) ?_
      exact mk_zret hx hb hr hlocks hS qd_X_isTable_22 (by decide) ((if_neg (fun q => q.2.1 c_2)).symm)
    · refine lv_iload_n hx hb qd_X_isTable_12 rfl (lv_at hl 1 rfl) ?_
      refine lv_iconst (v := 3) hx hb qd_X_isTable_13 (by decide) ?_
      refine lv_icmp_ge (tgt := 21) hx hb qd_X_isTable_14 (by decide) (fun c_3 => ?_) (fun c_3 => ?_)
      · refine lv_iconst (v := 0) hx hb qd_X_isTable_21 (by decide) ?_
        exact mk_zret hx hb hr hlocks hS qd_X_isTable_22 (by decide) ((if_neg (fun q => q.2.2 c_3)).symm)
      · refine lv_iconst (v := 1) hx hb qd_X_isTable_17 (by decide) ?_
        refine lv_goto (tgt := 22) hx hb qd_X_isTable_18 (by decide) ?_
        exact mk_zret hx hb hr hlocks hS qd_X_isTable_22 (by decide) ((if_pos ⟨c_1, c_2, c_3⟩).symm)
set_option maxHeartbeats 4000000 in
set_option maxRecDepth 100000 in
/-- isKey(key) -/
theorem c_X_isKey (l : Launch) (dC : Nat → ClassId) (dI : Nat → Nat → Nat) (cA : ClassId) (sz : Nat) (k : Int32) : Met l qy_X_isKey qw_X_isKey ({ frames := 0, cells := 0, slots := 0, locals := 0 }) (mk_ro [.int k] sz (dC, dI) vwCl [(cA, .int)] wN) (mk_roQ (fun r => r = xk_b k) sz) 0 0 (mk_new sz) := by
  refine Met.ofW (cc := qb_X_isKey) (maxL := 1) (ret := (some .boolean)) (by decide) rfl ?_
  intro p e s m args below meth c s₁ B hml hpre
  obtain ⟨rfl, hsz, hP, hK⟩ := hpre
  have hx := B.exec
  have hb := B.bytes
  have hr := B.returns
  have hts0 := atoms_spec (ws := qw_X_isKey) B.pre
  have hts := fun w (h : w ∈ lw_gd) => hts0 w (List.mem_cons_of_mem _ h)
  have hown : s.vm.findClass qR_X = some m.cls := findClass_of_methodNamed B.named
  have hlocks := B.notSynchronized
  subst hsz
  have hA : ∀ q : Nat, s.heap.size ≤ q → mk_new s.heap.size q := fun _ h => h
  have hS : va_S (mk_new s.heap.size) s.heap s.heap [] := va_S.rf
  have hl := lv_entry ([.int k]) (n := 1) (Nat.le_of_ble_eq_true rfl)
  rw [lg_entry_eq]
  generalize (lg_sl ([.int k]) ++ List.replicate (1 - (lg_sl ([.int k])).length) Slot.unset).toArray = ls at hl ⊢
  have hl : lv_has ls 1 [(0, .int k)] := hl
  have hP : va_P (dC, dI) vwCl wN s.heap := hP
  refine mk_start (A := (mk_new s.heap.size)) hP (fun H locs hP hS => ?_)
  refine lv_iload_n hx hb qd_X_isKey_0 rfl (lv_at hl 0 rfl) ?_
  refine lv_if_lt (tgt := 14) hx hb qd_X_isKey_1 (by decide) (fun c_1 => ?_) (fun c_1 => ?_)
  · refine lv_iconst (v := 0) hx hb qd_X_isKey_14 (by decide) ?_
    exact mk_zret hx hb hr hlocks hS qd_X_isKey_15 (by decide) ((if_neg (fun q => q.1 c_1)).symm)
  · refine lv_iload_n hx hb qd_X_isKey_4 rfl (lv_at hl 0 rfl) ?_
    refine lv_bipush (v := 16) hx hb qd_X_isKey_5 (by decide) ?_
    refine lv_icmp_ge (tgt := 14) hx hb qd_X_isKey_7 (by decide) (fun c_2 => ?_) (fun c_2 => ?_)
    · refine lv_iconst (v := 0) hx hb qd_X_isKey_14 (by decide) ?_
      exact mk_zret hx hb hr hlocks hS qd_X_isKey_15 (by decide) ((if_neg (fun q => q.2 c_2)).symm)
    · refine lv_iconst (v := 1) hx hb qd_X_isKey_10 (by decide) ?_
      refine lv_goto (tgt := 15) hx hb qd_X_isKey_11 (by decide) ?_
      exact mk_zret hx hb hr hlocks hS qd_X_isKey_15 (by decide) ((if_pos ⟨c_1, c_2⟩).symm)
set_option maxHeartbeats 4000000 in
set_option maxRecDepth 100000 in
/-- isTime(time) -/
theorem c_X_isTime (l : Launch) (dC : Nat → ClassId) (dI : Nat → Nat → Nat) (cA : ClassId) (sz : Nat) (k : Int32) : Met l qy_X_isTime qw_X_isTime ({ frames := 0, cells := 0, slots := 0, locals := 0 }) (mk_ro [.int k] sz (dC, dI) vwCl [(cA, .int)] wN) (mk_roQ (fun r => r = xm_b k) sz) 0 0 (mk_new sz) := by
  refine Met.ofW (cc := qb_X_isTime) (maxL := 1) (ret := (some .boolean)) (by decide) rfl ?_
  intro p e s m args below meth c s₁ B hml hpre
  obtain ⟨rfl, hsz, hP, hK⟩ := hpre
  have hx := B.exec
  have hb := B.bytes
  have hr := B.returns
  have hts0 := atoms_spec (ws := qw_X_isTime) B.pre
  have hts := fun w (h : w ∈ lw_gd) => hts0 w (List.mem_cons_of_mem _ h)
  have hown : s.vm.findClass qR_X = some m.cls := findClass_of_methodNamed B.named
  have hlocks := B.notSynchronized
  subst hsz
  have hA : ∀ q : Nat, s.heap.size ≤ q → mk_new s.heap.size q := fun _ h => h
  have hS : va_S (mk_new s.heap.size) s.heap s.heap [] := va_S.rf
  have hl := lv_entry ([.int k]) (n := 1) (Nat.le_of_ble_eq_true rfl)
  rw [lg_entry_eq]
  generalize (lg_sl ([.int k]) ++ List.replicate (1 - (lg_sl ([.int k])).length) Slot.unset).toArray = ls at hl ⊢
  have hl : lv_has ls 1 [(0, .int k)] := hl
  have hP : va_P (dC, dI) vwCl wN s.heap := hP
  refine mk_start (A := (mk_new s.heap.size)) hP (fun H locs hP hS => ?_)
  refine lv_iload_n hx hb qd_X_isTime_0 rfl (lv_at hl 0 rfl) ?_
  refine lv_iconst (v := 1) hx hb qd_X_isTime_1 (by decide) ?_
  refine lv_icmp_lt (tgt := 15) hx hb qd_X_isTime_2 (by decide) (fun c_1 => ?_) (fun c_1 => ?_)
  · refine lv_iconst (v := 0) hx hb qd_X_isTime_15 (by decide) ?_
    exact mk_zret hx hb hr hlocks hS qd_X_isTime_16 (by decide) ((if_neg (fun q => q.1 c_1)).symm)
  · refine lv_iload_n hx hb qd_X_isTime_5 rfl (lv_at hl 0 rfl) ?_
    refine lv_ldc (v := 100000) hx hb hown (hts _ mw_178) qd_X_isTime_6 ?_
    refine lv_icmp_gt (tgt := 15) hx hb qd_X_isTime_8 (by decide) (fun c_2 => ?_) (fun c_2 => ?_)
    · refine lv_iconst (v := 0) hx hb qd_X_isTime_15 (by decide) ?_
      exact mk_zret hx hb hr hlocks hS qd_X_isTime_16 (by decide) ((if_neg (fun q => q.2 c_2)).symm)
    · refine lv_iconst (v := 1) hx hb qd_X_isTime_11 (by decide) ?_
      refine lv_goto (tgt := 16) hx hb qd_X_isTime_12 (by decide) ?_
      exact mk_zret hx hb hr hlocks hS qd_X_isTime_16 (by decide) ((if_pos ⟨c_1, c_2⟩).symm)
set_option maxHeartbeats 4000000 in
set_option maxRecDepth 100000 in
/-- isValue(value) -/
theorem c_X_isValue (l : Launch) (dC : Nat → ClassId) (dI : Nat → Nat → Nat) (cA : ClassId) (sz : Nat) (k : Int32) : Met l qy_X_isValue qw_X_isValue ({ frames := 0, cells := 0, slots := 0, locals := 0 }) (mk_ro [.int k] sz (dC, dI) vwCl [(cA, .int)] wN) (mk_roQ (fun r => r = xv_b k) sz) 0 0 (mk_new sz) := by
  refine Met.ofW (cc := qb_X_isValue) (maxL := 1) (ret := (some .boolean)) (by decide) rfl ?_
  intro p e s m args below meth c s₁ B hml hpre
  obtain ⟨rfl, hsz, hP, hK⟩ := hpre
  have hx := B.exec
  have hb := B.bytes
  have hr := B.returns
  have hts0 := atoms_spec (ws := qw_X_isValue) B.pre
  have hts := fun w (h : w ∈ lw_gd) => hts0 w (List.mem_cons_of_mem _ h)
  have hown : s.vm.findClass qR_X = some m.cls := findClass_of_methodNamed B.named
  have hlocks := B.notSynchronized
  subst hsz
  have hA : ∀ q : Nat, s.heap.size ≤ q → mk_new s.heap.size q := fun _ h => h
  have hS : va_S (mk_new s.heap.size) s.heap s.heap [] := va_S.rf
  have hl := lv_entry ([.int k]) (n := 1) (Nat.le_of_ble_eq_true rfl)
  rw [lg_entry_eq]
  generalize (lg_sl ([.int k]) ++ List.replicate (1 - (lg_sl ([.int k])).length) Slot.unset).toArray = ls at hl ⊢
  have hl : lv_has ls 1 [(0, .int k)] := hl
  have hP : va_P (dC, dI) vwCl wN s.heap := hP
  refine mk_start (A := (mk_new s.heap.size)) hP (fun H locs hP hS => ?_)
  refine lv_iload_n hx hb qd_X_isValue_0 rfl (lv_at hl 0 rfl) ?_
  refine lv_if_lt (tgt := 15) hx hb qd_X_isValue_1 (by decide) (fun c_1 => ?_) (fun c_1 => ?_)
  · refine lv_iconst (v := 0) hx hb qd_X_isValue_15 (by decide) ?_
    exact mk_zret hx hb hr hlocks hS qd_X_isValue_16 (by decide) ((if_neg (fun q => q.1 c_1)).symm)
  · refine lv_iload_n hx hb qd_X_isValue_4 rfl (lv_at hl 0 rfl) ?_
    refine lv_sipush (v := 1000) hx hb qd_X_isValue_5 (by decide) ?_
    refine lv_icmp_gt (tgt := 15) hx hb qd_X_isValue_8 (by decide) (fun c_2 => ?_) (fun c_2 => ?_)
    · refine lv_iconst (v := 0) hx hb qd_X_isValue_15 (by decide) ?_
      exact mk_zret hx hb hr hlocks hS qd_X_isValue_16 (by decide) ((if_neg (fun q => q.2 c_2)).symm)
    · refine lv_iconst (v := 1) hx hb qd_X_isValue_11 (by decide) ?_
      refine lv_goto (tgt := 16) hx hb qd_X_isValue_12 (by decide) ?_
      exact mk_zret hx hb hr hlocks hS qd_X_isValue_16 (by decide) ((if_pos ⟨c_1, c_2⟩).symm)
set_option maxHeartbeats 4000000 in
set_option maxRecDepth 100000 in
/-- placeOf(table, key) -/
theorem c_X_placeOf (l : Launch) (dC : Nat → ClassId) (dI : Nat → Nat → Nat) (cA : ClassId) (sz : Nat) (t k : Int32) : Met l qy_X_placeOf qw_X_placeOf ({ frames := 0, cells := 0, slots := 0, locals := 0 }) (mk_ro [.int t, .int k] sz (dC, dI) vwCl [(cA, .int)] wN) (mk_roQ (fun r => r = t * 16 + k) sz) 0 0 (mk_new sz) := by
  refine Met.ofW (cc := qb_X_placeOf) (maxL := 2) (ret := (some .int)) (by decide) rfl ?_
  intro p e s m args below meth c s₁ B hml hpre
  obtain ⟨rfl, hsz, hP, hK⟩ := hpre
  have hx := B.exec
  have hb := B.bytes
  have hr := B.returns
  have hts0 := atoms_spec (ws := qw_X_placeOf) B.pre
  have hts := fun w (h : w ∈ lw_gd) => hts0 w (List.mem_cons_of_mem _ h)
  have hown : s.vm.findClass qR_X = some m.cls := findClass_of_methodNamed B.named
  have hlocks := B.notSynchronized
  subst hsz
  have hA : ∀ q : Nat, s.heap.size ≤ q → mk_new s.heap.size q := fun _ h => h
  have hS : va_S (mk_new s.heap.size) s.heap s.heap [] := va_S.rf
  have hl := lv_entry ([.int t, .int k]) (n := 2) (Nat.le_of_ble_eq_true rfl)
  rw [lg_entry_eq]
  generalize (lg_sl ([.int t, .int k]) ++ List.replicate (2 - (lg_sl ([.int t, .int k])).length) Slot.unset).toArray = ls at hl ⊢
  have hl : lv_has ls 2 [(0, .int t), (1, .int k)] := hl
  have hP : va_P (dC, dI) vwCl wN s.heap := hP
  refine mk_start (A := (mk_new s.heap.size)) hP (fun H locs hP hS => ?_)
  refine lv_iload_n hx hb qd_X_placeOf_0 rfl (lv_at hl 0 rfl) ?_
  refine lv_bipush (v := 16) hx hb qd_X_placeOf_1 (by decide) ?_
  refine lv_imul hx hb qd_X_placeOf_3 ?_
  refine lv_iload_n hx hb qd_X_placeOf_4 rfl (lv_at hl 1 rfl) ?_
  refine lv_iadd hx hb qd_X_placeOf_5 ?_
  exact mk_iret hx hb hr hlocks hS qd_X_placeOf_6 (rfl)
set_option maxHeartbeats 4000000 in
set_option maxRecDepth 100000 in
/-- horizon() -/
theorem c_X_horizon (l : Launch) (dC : Nat → ClassId) (dI : Nat → Nat → Nat) (cA : ClassId) (sz : Nat) (a : Nat → Nat) (x ru ma jo : Nat → Int32) (gv tk : Int32) (kV : Nat) (fV : Nat → Int32) (kR : Nat) (fR : Nat → Int32) (kO : Nat) (fO : Nat → Int32) : Met l qy_X_horizon qw_X_horizon ({ frames := 0, cells := 0, slots := 0, locals := 0 }) (mk_ro [.ref (a 0)] sz (dC, dI) vwCl [(cA, .int)] (wX a cA x ru ma jo gv tk kV fV kR fR kO fO)) (mk_roQ (fun r => r = x 7 - ru 3) sz) 0 0 (mk_new sz) := by
  refine Met.ofW (cc := qb_X_horizon) (maxL := 1) (ret := (some .int)) (by decide) rfl ?_
  intro p e s m args below meth c s₁ B hml hpre
  obtain ⟨rfl, hsz, hP, hK⟩ := hpre
  have hx := B.exec
  have hb := B.bytes
  have hr := B.returns
  have hts0 := atoms_spec (ws := qw_X_horizon) B.pre
  have hts := fun w (h : w ∈ lw_gd) => hts0 w (List.mem_cons_of_mem _ h)
  have hown : s.vm.findClass qR_X = some m.cls := findClass_of_methodNamed B.named
  have hlocks := B.notSynchronized
  subst hsz
  have hA : ∀ q : Nat, s.heap.size ≤ q → mk_new s.heap.size q := fun _ h => h
  have hS : va_S (mk_new s.heap.size) s.heap s.heap [] := va_S.rf
  have hl := lv_entry ([.ref (a 0)]) (n := 1) (Nat.le_of_ble_eq_true rfl)
  rw [lg_entry_eq]
  generalize (lg_sl ([.ref (a 0)]) ++ List.replicate (1 - (lg_sl ([.ref (a 0)])).length) Slot.unset).toArray = ls at hl ⊢
  have hl : lv_has ls 1 [(0, .ref (a 0))] := hl
  have hP : va_P (dC, dI) vwCl (wX a cA x ru ma jo gv tk kV fV kR fR kO fO) s.heap := hP
  refine mk_start (A := (mk_new s.heap.size)) hP (fun H locs hP hS => ?_)
  refine lv_aload_n hx hb qd_X_horizon_0 rfl (lv_at hl 0 rfl) ?_
  refine va_get (D := (dC, dI)) (ci := 0) (v := .int (x 7)) (C := qR_X) (T := qT_X) (N := 13) hx hb hts qin_X hown hK hP 0 rfl rfl 7 (by decide) (hts _ mw_123) (fun _ h9 => h9) rfl qd_X_horizon_1 ?_
  refine lv_aload_n hx hb qd_X_horizon_4 rfl (lv_at hl 0 rfl) ?_
  refine va_get (D := (dC, dI)) (ci := 0) (v := .ref (a 1)) (C := qR_X) (T := qT_X) (N := 13) hx hb hts qin_X hown hK hP 0 rfl rfl 0 (by decide) (hts _ mw_116) (fun _ h9 => h9) rfl qd_X_horizon_5 ?_
  refine lv_iconst (v := 3) hx hb qd_X_horizon_8 (by decide) ?_
  refine va_iald (i := 3) hx hb hK hP 1 0 rfl rfl (show ¬ ((3 : Int32) < 0 ∨ 4 ≤ (3 : Int32).toNatClampNeg) from by decide) qd_X_horizon_9 ?_
  refine mk_rw (y := ru 3) (rfl) ?_
  refine lv_isub hx hb qd_X_horizon_10 ?_
  exact mk_iret hx hb hr hlocks hS qd_X_horizon_11 (rfl)
set_option maxHeartbeats 4000000 in
set_option maxRecDepth 100000 in
/-- markOrNone(table) -/
theorem c_X_markOrNone (l : Launch) (dC : Nat → ClassId) (dI : Nat → Nat → Nat) (cA : ClassId) (sz : Nat) (a : Nat → Nat) (x ru ma jo : Nat → Int32) (gv tk : Int32) (kV : Nat) (fV : Nat → Int32) (kR : Nat) (fR : Nat → Int32) (kO : Nat) (fO : Nat → Int32) (t : Int32) : Met l qy_X_markOrNone qw_X_markOrNone ({ frames := 1, cells := 0, slots := 0, locals := 21 }) (mk_ro [.ref (a 0), .int t] sz (dC, dI) vwCl [(cA, .int)] (wX a cA x ru ma jo gv tk kV fV kR fR kO fO)) (mk_roQ (fun r => r = xmn (x 6) ma t) sz) 0 0 (mk_new sz) := by
  refine Met.ofW (cc := qb_X_markOrNone) (maxL := 2) (ret := (some .int)) (by decide) rfl ?_
  intro p e s m args below meth c s₁ B hml hpre
  obtain ⟨rfl, hsz, hP, hK⟩ := hpre
  have hx := B.exec
  have hb := B.bytes
  have hr := B.returns
  have hts0 := atoms_spec (ws := qw_X_markOrNone) B.pre
  have hts := fun w (h : w ∈ lw_gd) => hts0 w (List.mem_cons_of_mem _ h)
  have hown : s.vm.findClass qR_X = some m.cls := findClass_of_methodNamed B.named
  have hlocks := B.notSynchronized
  subst hsz
  have hA : ∀ q : Nat, s.heap.size ≤ q → mk_new s.heap.size q := fun _ h => h
  have hS : va_S (mk_new s.heap.size) s.heap s.heap [] := va_S.rf
  have hl := lv_entry ([.ref (a 0), .int t]) (n := 2) (Nat.le_of_ble_eq_true rfl)
  rw [lg_entry_eq]
  generalize (lg_sl ([.ref (a 0), .int t]) ++ List.replicate (2 - (lg_sl ([.ref (a 0), .int t])).length) Slot.unset).toArray = ls at hl ⊢
  have hl : lv_has ls 2 [(0, .ref (a 0)), (1, .int t)] := hl
  have hP : va_P (dC, dI) vwCl (wX a cA x ru ma jo gv tk kV fV kR fR kO fO) s.heap := hP
  refine mk_start (A := (mk_new s.heap.size)) hP (fun H locs hP hS => ?_)
  refine lv_aload_n hx hb qd_X_markOrNone_0 rfl (lv_at hl 0 rfl) ?_
  refine lv_iload_n hx hb qd_X_markOrNone_1 rfl (lv_at hl 1 rfl) ?_
  refine mk_calli (va_runV (As := [.int t]) (rest := []) ⟨hx, hb, hml, hown, hts⟩ (c_X_isTable l dC dI cA H.size a x ru ma jo gv tk kV fV kR fR kO fO t) (cwV 1 hts gc_X_48 rfl rfl rfl (by decide +kernel) ⟨Nat.le_of_ble_eq_true rfl, Nat.le_of_ble_eq_true rfl⟩) (mk_roV hP [0, 1, 2, 3, 4, 5, 6, 7, 8, 9, 10, 11, 12] rfl hK (va_recv hK hP (ci := 0) (q0 := 0) rfl rfl)) rfl rfl hl.1 rfl (lv_room (Nat.le_of_ble_eq_true rfl)) qd_X_markOrNone_2 ⟨(Nat.zero_le _), (Nat.zero_le _)⟩) hS hA hP (fun r_1 H locs hr_1 hP hS => ?_)
  obtain rfl : r_1 = xt_b (x 6) t := hr_1
  refine lv_if_eq (tgt := 17) hx hb qd_X_markOrNone_5 (by decide) (fun c_2 => ?_) (fun c_2 => ?_)
  · refine lv_bipush (v := (-2)) hx hb qd_X_markOrNone_17 (by decide) ?_
    exact mk_iret hx hb hr hlocks hS qd_X_markOrNone_19 ((if_neg (rs_n1 c_2)).symm)
  · refine lv_aload_n hx hb qd_X_markOrNone_8 rfl (lv_at hl 0 rfl) ?_
    refine va_get (D := (dC, dI)) (ci := 0) (v := .ref (a 2)) (C := qR_X) (T := qT_X) (N := 13) hx hb hts qin_X hown hK hP 0 rfl rfl 1 (by decide) (hts _ mw_117) (fun _ h9 => h9) rfl qd_X_markOrNone_9 ?_
    have ht3 : vp_in t 3 := xt_in c_2
    refine lv_iload_n hx hb qd_X_markOrNone_12 rfl (lv_at hl 1 rfl) ?_
    refine va_iald (i := t) hx hb hK hP 2 0 rfl rfl ht3 qd_X_markOrNone_13 ?_
    refine mk_rw (y := ma t.toNatClampNeg) (rfl) ?_
    refine lv_goto (tgt := 19) hx hb qd_X_markOrNone_14 (by decide) ?_
    exact mk_iret hx hb hr hlocks hS qd_X_markOrNone_19 ((if_pos (rs_n2 c_2)).symm)
set_option maxHeartbeats 4000000 in
set_option maxRecDepth 100000 in
/-- isLateChange(table, from), of a table -/
theorem c_X_isLateChange (l : Launch) (dC : Nat → ClassId) (dI : Nat → Nat → Nat) (cA : ClassId) (sz : Nat) (a : Nat → Nat) (x ru ma jo : Nat → Int32) (gv tk : Int32) (kV : Nat) (fV : Nat → Int32) (kR : Nat) (fR : Nat → Int32) (kO : Nat) (fO : Nat → Int32) (t fr : Int32) (ht : xt_b (x 6) t = 1) : Met l qy_X_isLateChange qw_X_isLateChange ({ frames := 1, cells := 0, slots := 0, locals := 21 }) (mk_ro [.ref (a 0), .int t, .int fr] sz (dC, dI) vwCl [(cA, .int)] (wX a cA x ru ma jo gv tk kV fV kR fR kO fO)) (mk_roQ (fun r => r = xl_b ma ru (x 7) t fr) sz) 0 0 (mk_new sz) := by
  refine Met.ofW (cc := qb_X_isLateChange) (maxL := 3) (ret := (some .boolean)) (by decide) rfl ?_
  intro p e s m args below meth c s₁ B hml hpre
  obtain ⟨rfl, hsz, hP, hK⟩ := hpre
  have hx := B.exec
  have hb := B.bytes
  have hr := B.returns
  have hts0 := atoms_spec (ws := qw_X_isLateChange) B.pre
  have hts := fun w (h : w ∈ lw_gd) => hts0 w (List.mem_cons_of_mem _ h)
  have hown : s.vm.findClass qR_X = some m.cls := findClass_of_methodNamed B.named
  have hlocks := B.notSynchronized
  subst hsz
  have hA : ∀ q : Nat, s.heap.size ≤ q → mk_new s.heap.size q := fun _ h => h
  have hS : va_S (mk_new s.heap.size) s.heap s.heap [] := va_S.rf
  have hl := lv_entry ([.ref (a 0), .int t, .int fr]) (n := 3) (Nat.le_of_ble_eq_true rfl)
  rw [lg_entry_eq]
  generalize (lg_sl ([.ref (a 0), .int t, .int fr]) ++ List.replicate (3 - (lg_sl ([.ref (a 0), .int t, .int fr])).length) Slot.unset).toArray = ls at hl ⊢
  have hl : lv_has ls 3 [(0, .ref (a 0)), (1, .int t), (2, .int fr)] := hl
  have hP : va_P (dC, dI) vwCl (wX a cA x ru ma jo gv tk kV fV kR fR kO fO) s.heap := hP
  refine mk_start (A := (mk_new s.heap.size)) hP (fun H locs hP hS => ?_)
  refine lv_aload_n hx hb qd_X_isLateChange_0 rfl (lv_at hl 0 rfl) ?_
  refine lv_iload_n hx hb qd_X_isLateChange_1 rfl (lv_at hl 1 rfl) ?_
  refine mk_calli (va_runV (As := [.int t]) (rest := []) ⟨hx, hb, hml, hown, hts⟩ (c_X_isTable l dC dI cA H.size a x ru ma jo gv tk kV fV kR fR kO fO t) (cwV 1 hts gc_X_48 rfl rfl rfl (by decide +kernel) ⟨Nat.le_of_ble_eq_true rfl, Nat.le_of_ble_eq_true rfl⟩) (mk_roV hP [0, 1, 2, 3, 4, 5, 6, 7, 8, 9, 10, 11, 12] rfl hK (va_recv hK hP (ci := 0) (q0 := 0) rfl rfl)) rfl rfl hl.1 rfl (lv_room (Nat.le_of_ble_eq_true rfl)) qd_X_isLateChange_2 ⟨(Nat.zero_le _), (Nat.zero_le _)⟩) hS hA hP (fun r_1 H locs hr_1 hP hS => ?_)
  obtain rfl : r_1 = xt_b (x 6) t := hr_1
  refine lv_if_eq (tgt := 18) hx hb qd_X_isLateChange_5 (by decide) (fun c_2 => ?_) (fun c_2 => ?_)
  · exact absurd (c_2.symm.trans ht) (by decide)
  · refine lv_iload_n hx hb qd_X_isLateChange_8 rfl (lv_at hl 2 rfl) ?_
    refine lv_aload_n hx hb qd_X_isLateChange_9 rfl (lv_at hl 0 rfl) ?_
    refine va_get (D := (dC, dI)) (ci := 0) (v := .ref (a 2)) (C := qR_X) (T := qT_X) (N := 13) hx hb hts qin_X hown hK hP 0 rfl rfl 1 (by decide) (hts _ mw_117) (fun _ h9 => h9) rfl qd_X_isLateChange_10 ?_
    have ht3 : vp_in t 3 := xt_in c_2
    refine lv_iload_n hx hb qd_X_isLateChange_13 rfl (lv_at hl 1 rfl) ?_
    refine va_iald (i := t) hx hb hK hP 2 0 rfl rfl ht3 qd_X_isLateChange_14 ?_
    refine mk_rw (y := ma t.toNatClampNeg) (rfl) ?_
    refine lv_icmp_le (tgt := 20) hx hb qd_X_isLateChange_15 (by decide) (fun c_3 => ?_) (fun c_3 => ?_)
    · refine lv_aload_n hx hb qd_X_isLateChange_20 rfl (lv_at hl 0 rfl) ?_
      refine va_get (D := (dC, dI)) (ci := 0) (v := .ref (a 1)) (C := qR_X) (T := qT_X) (N := 13) hx hb hts qin_X hown hK hP 0 rfl rfl 0 (by decide) (hts _ mw_116) (fun _ h9 => h9) rfl qd_X_isLateChange_21 ?_
      refine lv_iconst (v := 1) hx hb qd_X_isLateChange_24 (by decide) ?_
      refine va_iald (i := 1) hx hb hK hP 1 0 rfl rfl (show ¬ ((1 : Int32) < 0 ∨ 4 ≤ (1 : Int32).toNatClampNeg) from by decide) qd_X_isLateChange_25 ?_
      refine mk_rw (y := ru 1) (rfl) ?_
      refine lv_if_eq (tgt := 37) hx hb qd_X_isLateChange_26 (by decide) (fun c_4 => ?_) (fun c_4 => ?_)
      · refine lv_iconst (v := 1) hx hb qd_X_isLateChange_37 (by decide) ?_
        refine lv_goto (tgt := 42) hx hb qd_X_isLateChange_38 (by decide) ?_
        exact mk_zret hx hb hr hlocks hS qd_X_isLateChange_42 (by decide) ((if_pos ⟨c_3, Or.inl c_4⟩).symm)
      · refine lv_iload_n hx hb qd_X_isLateChange_29 rfl (lv_at hl 2 rfl) ?_
        refine lv_aload_n hx hb qd_X_isLateChange_30 rfl (lv_at hl 0 rfl) ?_
        refine mk_calli (va_runV (As := []) (rest := [.int fr]) ⟨hx, hb, hml, hown, hts⟩ (c_X_horizon l dC dI cA H.size a x ru ma jo gv tk kV fV kR fR kO fO) (cwV 0 hts gc_X_109 rfl rfl rfl (by decide +kernel) ⟨Nat.le_of_ble_eq_true rfl, Nat.le_of_ble_eq_true rfl⟩) (mk_roV hP [0, 1, 2, 3, 4, 5, 6, 7, 8, 9, 10, 11, 12] rfl hK (va_recv hK hP (ci := 0) (q0 := 0) rfl rfl)) rfl rfl hl.1 rfl (lv_room (Nat.le_of_ble_eq_true rfl)) qd_X_isLateChange_31 ⟨(Nat.zero_le _), (Nat.zero_le _)⟩) hS hA hP (fun r_5 H locs hr_5 hP hS => ?_)
        obtain rfl : r_5 = (x 7) - ru 3 := hr_5
        refine lv_icmp_gt (tgt := 41) hx hb qd_X_isLateChange_34 (by decide) (fun c_6 => ?_) (fun c_6 => ?_)
        · refine lv_iconst (v := 0) hx hb qd_X_isLateChange_41 (by decide) ?_
          exact mk_zret hx hb hr hlocks hS qd_X_isLateChange_42 (by decide) ((if_neg (fun q => q.2.elim c_4 (fun q2 => sh_nle c_6 q2))).symm)
        · refine lv_iconst (v := 1) hx hb qd_X_isLateChange_37 (by decide) ?_
          refine lv_goto (tgt := 42) hx hb qd_X_isLateChange_38 (by decide) ?_
          exact mk_zret hx hb hr hlocks hS qd_X_isLateChange_42 (by decide) ((if_pos ⟨c_3, Or.inr (sh_le_of c_6)⟩).symm)
    · refine lv_iconst (v := 0) hx hb qd_X_isLateChange_18 (by decide) ?_
      exact mk_zret hx hb hr hlocks hS qd_X_isLateChange_19 (by decide) ((if_neg (fun q => c_3 q.1)).symm)
set_option maxHeartbeats 4000000 in
set_option maxRecDepth 100000 in
/-- lowestMark() -/
theorem c_X_lowestMark (l : Launch) (dC : Nat → ClassId) (dI : Nat → Nat → Nat) (cA : ClassId) (sz : Nat) (a : Nat → Nat) (x ru ma jo : Nat → Int32) (gv tk : Int32) (kV : Nat) (fV : Nat → Int32) (kR : Nat) (fR : Nat → Int32) (kO : Nat) (fO : Nat → Int32) (n3 : Nat) (hn3 : x 6 = nI n3) (h3 : n3 ≤ 3) : Met l qy_X_lowestMark qw_X_lowestMark ({ frames := 1, cells := 0, slots := 0, locals := 13 }) (mk_ro [.ref (a 0)] sz (dC, dI) vwCl [(cA, .int)] (wX a cA x ru ma jo gv tk kV fV kR fR kO fO)) (mk_roQ (fun r => r = xt_low ma n3) sz) 0 0 (mk_new sz) := by
  refine Met.ofW (cc := qb_X_lowestMark) (maxL := 3) (ret := (some .int)) (by decide) rfl ?_
  intro p e s m args below meth c s₁ B hml hpre
  obtain ⟨rfl, hsz, hP, hK⟩ := hpre
  have hx := B.exec
  have hb := B.bytes
  have hr := B.returns
  have hts0 := atoms_spec (ws := qw_X_lowestMark) B.pre
  have hts := fun w (h : w ∈ lw_gd) => hts0 w (List.mem_cons_of_mem _ h)
  have hown : s.vm.findClass qR_X = some m.cls := findClass_of_methodNamed B.named
  have hlocks := B.notSynchronized
  subst hsz
  have hA : ∀ q : Nat, s.heap.size ≤ q → mk_new s.heap.size q := fun _ h => h
  have hS : va_S (mk_new s.heap.size) s.heap s.heap [] := va_S.rf
  have hl := lv_entry ([.ref (a 0)]) (n := 3) (Nat.le_of_ble_eq_true rfl)
  rw [lg_entry_eq]
  generalize (lg_sl ([.ref (a 0)]) ++ List.replicate (3 - (lg_sl ([.ref (a 0)])).length) Slot.unset).toArray = ls at hl ⊢
  have hl : lv_has ls 3 [(0, .ref (a 0))] := hl
  have hP : va_P (dC, dI) vwCl (wX a cA x ru ma jo gv tk kV fV kR fR kO fO) s.heap := hP
  refine mk_start (A := (mk_new s.heap.size)) hP (fun H locs hP hS => ?_)
  refine lv_ldc (v := 100000) hx hb hown (hts _ mw_178) qd_X_lowestMark_0 ?_
  refine mk_rw (y := xt_low ma 0) (rfl) ?_
  refine lv_istore_n (lv' := [(1, .int (xt_low ma 0)), (0, .ref (a 0))]) hx hb qd_X_lowestMark_2 rfl hl (by decide) rfl (fun ls hl => ?_)
  refine lv_iconst (v := 0) hx hb qd_X_lowestMark_3 (by decide) ?_
  refine mk_rw (y := nI 0) (rfl) ?_
  refine lv_istore_n (lv' := [(2, .int (nI 0)), (1, .int (xt_low ma 0)), (0, .ref (a 0))]) hx hb qd_X_lowestMark_4 rfl hl (by decide) rfl (fun ls hl => ?_)
  refine mk_loop (σ := Nat) (fun n y9 H locs ls => (y9 + n = n3) ∧ va_P (dC, dI) vwCl (wX a cA x ru ma jo gv tk kV fV kR fR kO fO) H ∧ va_S (mk_new s.heap.size) s.heap H locs ∧ lv_has ls 3 [(0, .ref (a 0)), (1, .int (xt_low ma y9)), (2, .int (nI y9))]) (fun ls => F0 m 5 ls []) (fun n y9 H locs ls hI ih_1 => ?_) (fun y9 H locs ls hI => ?_) n3 0 H locs ls ⟨Nat.zero_add _, hP, hS, lv_sub hl [2, 1, 0] rfl⟩
  · obtain ⟨t, rfl⟩ : ∃ z, z = y9 := ⟨_, rfl⟩
    obtain ⟨hinv, hP, hS, hl⟩ := hI
    have hinv : t + (n + 1) = n3 := hinv
    have hP : va_P (dC, dI) vwCl (wX a cA x ru ma jo gv tk kV fV kR fR kO fO) H := hP
    have hl : lv_has ls 3 [(0, .ref (a 0)), (1, .int (xt_low ma t)), (2, .int (nI t))] := hl
    refine lv_iload_n hx hb qd_X_lowestMark_5 rfl (lv_at hl 2 rfl) ?_
    refine lv_aload_n hx hb qd_X_lowestMark_6 rfl (lv_at hl 0 rfl) ?_
    refine va_get (D := (dC, dI)) (ci := 0) (v := .int (x 6)) (C := qR_X) (T := qT_X) (N := 13) hx hb hts qin_X hown hK hP 0 rfl rfl 6 (by decide) (hts _ mw_122) (fun _ h9 => h9) rfl qd_X_lowestMark_7 ?_
    refine mk_rw (y := nI n3) (hn3) ?_
    refine lv_icmp_ge (tgt := 35) hx hb qd_X_lowestMark_10 (by decide) (fun c_2 => ?_) (fun c_2 => ?_)
    · exact absurd c_2 (nI_ge (by omega) (by omega))
    · refine lv_iload_n hx hb qd_X_lowestMark_13 rfl (lv_at hl 2 rfl) ?_
      refine lv_iconst (v := 3) hx hb qd_X_lowestMark_14 (by decide) ?_
      refine lv_icmp_ge (tgt := 35) hx hb qd_X_lowestMark_15 (by decide) (fun c_3 => ?_) (fun c_3 => ?_)
      · exact absurd c_3 (nI_ge (a := t) (b := 3) (by omega) (by decide))
      · refine lv_iload_n hx hb qd_X_lowestMark_18 rfl (lv_at hl 1 rfl) ?_
        refine lv_aload_n hx hb qd_X_lowestMark_19 rfl (lv_at hl 0 rfl) ?_
        refine va_get (D := (dC, dI)) (ci := 0) (v := .ref (a 2)) (C := qR_X) (T := qT_X) (N := 13) hx hb hts qin_X hown hK hP 0 rfl rfl 1 (by decide) (hts _ mw_117) (fun _ h9 => h9) rfl qd_X_lowestMark_20 ?_
        refine lv_iload_n hx hb qd_X_lowestMark_23 rfl (lv_at hl 2 rfl) ?_
        refine va_iald (i := (nI t)) hx hb hK hP 2 0 rfl rfl (vp_in_nI (by omega) (by omega)) qd_X_lowestMark_24 ?_
        refine mk_rw (y := ma t) (congrArg _ (nI_clamp (by omega))) ?_
        refine va_mmin hx hb (hml.trans hl.1.symm) hown (hts _ mw_325) (hts _ mw_326) (hts _ mw_38) (hts _ mw_327) (Nat.le_of_ble_eq_true rfl) (Nat.le_of_ble_eq_true rfl) (Nat.zero_le _) (Nat.zero_le _) qd_X_lowestMark_25 ?_
        refine mk_rw (y := xt_low ma (t + 1)) (rfl) ?_
        refine lv_istore_n (lv' := [(1, .int (xt_low ma (t + 1))), (0, .ref (a 0)), (2, .int (nI t))]) hx hb qd_X_lowestMark_28 rfl hl (by decide) rfl (fun ls hl => ?_)
        refine lv_iinc (v := nI (t + 1)) (lv' := [(2, .int (nI (t + 1))), (1, .int (xt_low ma (t + 1))), (0, .ref (a 0))]) hx hb qd_X_lowestMark_29 hl (k := 2) rfl (mk_inc t) (by decide) rfl (fun ls hl => ?_)
        refine lv_goto (tgt := 5) hx hb qd_X_lowestMark_32 (by decide) ?_
        exact ih_1 (t + 1) H locs ls ⟨by omega, hP, hS, lv_sub hl [2, 1, 0] rfl⟩
  · obtain ⟨t, rfl⟩ : ∃ z, z = y9 := ⟨_, rfl⟩
    obtain ⟨hinv, hP, hS, hl⟩ := hI
    have hinv : t + 0 = n3 := hinv
    have hP : va_P (dC, dI) vwCl (wX a cA x ru ma jo gv tk kV fV kR fR kO fO) H := hP
    have hl : lv_has ls 3 [(0, .ref (a 0)), (1, .int (xt_low ma t)), (2, .int (nI t))] := hl
    have et : t = n3 := by omega
    refine lv_iload_n hx hb qd_X_lowestMark_5 rfl (lv_at hl 2 rfl) ?_
    refine lv_aload_n hx hb qd_X_lowestMark_6 rfl (lv_at hl 0 rfl) ?_
    refine va_get (D := (dC, dI)) (ci := 0) (v := .int (x 6)) (C := qR_X) (T := qT_X) (N := 13) hx hb hts qin_X hown hK hP 0 rfl rfl 6 (by decide) (hts _ mw_122) (fun _ h9 => h9) rfl qd_X_lowestMark_7 ?_
    refine mk_rw (y := nI n3) (hn3) ?_
    refine lv_icmp_ge (tgt := 35) hx hb qd_X_lowestMark_10 (by decide) (fun c_4 => ?_) (fun c_4 => ?_)
    · refine lv_iload_n hx hb qd_X_lowestMark_35 rfl (lv_at hl 1 rfl) ?_
      exact mk_iret hx hb hr hlocks hS qd_X_lowestMark_36 (by rw [et])
    · exact absurd (nI_le (by omega) (by omega)) c_4
set_option maxHeartbeats 4000000 in
set_option maxRecDepth 100000 in
/-- isGivenByJoin() -/
theorem c_X_isGivenByJoin (l : Launch) (dC : Nat → ClassId) (dI : Nat → Nat → Nat) (cA : ClassId) (sz : Nat) (a : Nat → Nat) (x ru ma jo : Nat → Int32) (gv tk : Int32) (kV : Nat) (fV : Nat → Int32) (kR : Nat) (fR : Nat → Int32) (kO : Nat) (fO : Nat → Int32) (n3 : Nat) (hn3 : x 6 = nI n3) (h3 : n3 ≤ 3) : Met l qy_X_isGivenByJoin qw_X_isGivenByJoin ({ frames := 0, cells := 0, slots := 0, locals := 0 }) (mk_ro [.ref (a 0)] sz (dC, dI) vwCl [(cA, .int)] (wX a cA x ru ma jo gv tk kV fV kR fR kO fO)) (mk_roQ (fun r => r = xg_b (ru 2) n3 jo) sz) 0 0 (mk_new sz) := by
  refine Met.ofW (cc := qb_X_isGivenByJoin) (maxL := 2) (ret := (some .boolean)) (by decide) rfl ?_
  intro p e s m args below meth c s₁ B hml hpre
  obtain ⟨rfl, hsz, hP, hK⟩ := hpre
  have hx := B.exec
  have hb := B.bytes
  have hr := B.returns
  have hts0 := atoms_spec (ws := qw_X_isGivenByJoin) B.pre
  have hts := fun w (h : w ∈ lw_gd) => hts0 w (List.mem_cons_of_mem _ h)
  have hown : s.vm.findClass qR_X = some m.cls := findClass_of_methodNamed B.named
  have hlocks := B.notSynchronized
  subst hsz
  have hA : ∀ q : Nat, s.heap.size ≤ q → mk_new s.heap.size q := fun _ h => h
  have hS : va_S (mk_new s.heap.size) s.heap s.heap [] := va_S.rf
  have hl := lv_entry ([.ref (a 0)]) (n := 2) (Nat.le_of_ble_eq_true rfl)
  rw [lg_entry_eq]
  generalize (lg_sl ([.ref (a 0)]) ++ List.replicate (2 - (lg_sl ([.ref (a 0)])).length) Slot.unset).toArray = ls at hl ⊢
  have hl : lv_has ls 2 [(0, .ref (a 0))] := hl
  have hP : va_P (dC, dI) vwCl (wX a cA x ru ma jo gv tk kV fV kR fR kO fO) s.heap := hP
  refine mk_start (A := (mk_new s.heap.size)) hP (fun H locs hP hS => ?_)
  refine lv_aload_n hx hb qd_X_isGivenByJoin_0 rfl (lv_at hl 0 rfl) ?_
  refine va_get (D := (dC, dI)) (ci := 0) (v := .ref (a 1)) (C := qR_X) (T := qT_X) (N := 13) hx hb hts qin_X hown hK hP 0 rfl rfl 0 (by decide) (hts _ mw_116) (fun _ h9 => h9) rfl qd_X_isGivenByJoin_1 ?_
  refine lv_iconst (v := 2) hx hb qd_X_isGivenByJoin_4 (by decide) ?_
  refine va_iald (i := 2) hx hb hK hP 1 0 rfl rfl (show ¬ ((2 : Int32) < 0 ∨ 4 ≤ (2 : Int32).toNatClampNeg) from by decide) qd_X_isGivenByJoin_5 ?_
  refine mk_rw (y := ru 2) (rfl) ?_
  refine lv_if_ne (tgt := 11) hx hb qd_X_isGivenByJoin_6 (by decide) (fun c_1 => ?_) (fun c_1 => ?_)
  · refine lv_iconst (v := 0) hx hb qd_X_isGivenByJoin_11 (by decide) ?_
    refine mk_rw (y := nI 0) (rfl) ?_
    refine lv_istore_n (lv' := [(1, .int (nI 0)), (0, .ref (a 0))]) hx hb qd_X_isGivenByJoin_12 rfl hl (by decide) rfl (fun ls hl => ?_)
    refine mk_loop (σ := Nat) (fun n y9 H locs ls => (y9 + n = n3 ∧ ∀ c, c < y9 → ¬ jo (2 * c) = -2) ∧ va_P (dC, dI) vwCl (wX a cA x ru ma jo gv tk kV fV kR fR kO fO) H ∧ va_S (mk_new s.heap.size) s.heap H locs ∧ lv_has ls 2 [(0, .ref (a 0)), (1, .int (nI y9))]) (fun ls => F0 m 13 ls []) (fun n y9 H locs ls hI ih_2 => ?_) (fun y9 H locs ls hI => ?_) n3 0 H locs ls ⟨⟨Nat.zero_add _, fun _ q => absurd q (Nat.not_lt_zero _)⟩, hP, hS, lv_sub hl [1, 0] rfl⟩
    · obtain ⟨t, rfl⟩ : ∃ z, z = y9 := ⟨_, rfl⟩
      obtain ⟨hinv, hP, hS, hl⟩ := hI
      have hinv : t + (n + 1) = n3 ∧ ∀ c, c < t → ¬ jo (2 * c) = -2 := hinv
      have hP : va_P (dC, dI) vwCl (wX a cA x ru ma jo gv tk kV fV kR fR kO fO) H := hP
      have hl : lv_has ls 2 [(0, .ref (a 0)), (1, .int (nI t))] := hl
      refine lv_iload_n hx hb qd_X_isGivenByJoin_13 rfl (lv_at hl 1 rfl) ?_
      refine lv_aload_n hx hb qd_X_isGivenByJoin_14 rfl (lv_at hl 0 rfl) ?_
      refine va_get (D := (dC, dI)) (ci := 0) (v := .int (x 6)) (C := qR_X) (T := qT_X) (N := 13) hx hb hts qin_X hown hK hP 0 rfl rfl 6 (by decide) (hts _ mw_122) (fun _ h9 => h9) rfl qd_X_isGivenByJoin_15 ?_
      refine mk_rw (y := nI n3) (hn3) ?_
      refine lv_icmp_ge (tgt := 47) hx hb qd_X_isGivenByJoin_18 (by decide) (fun c_3 => ?_) (fun c_3 => ?_)
      · exact absurd c_3 (nI_ge (by omega) (by omega))
      · refine lv_iload_n hx hb qd_X_isGivenByJoin_21 rfl (lv_at hl 1 rfl) ?_
        refine lv_iconst (v := 3) hx hb qd_X_isGivenByJoin_22 (by decide) ?_
        refine lv_icmp_ge (tgt := 47) hx hb qd_X_isGivenByJoin_23 (by decide) (fun c_4 => ?_) (fun c_4 => ?_)
        · exact absurd c_4 (nI_ge (a := t) (b := 3) (by omega) (by decide))
        · refine lv_aload_n hx hb qd_X_isGivenByJoin_26 rfl (lv_at hl 0 rfl) ?_
          refine va_get (D := (dC, dI)) (ci := 0) (v := .ref (a 3)) (C := qR_X) (T := qT_X) (N := 13) hx hb hts qin_X hown hK hP 0 rfl rfl 5 (by decide) (hts _ mw_121) (fun _ h9 => h9) rfl qd_X_isGivenByJoin_27 ?_
          refine lv_iconst (v := 2) hx hb qd_X_isGivenByJoin_30 (by decide) ?_
          refine lv_iload_n hx hb qd_X_isGivenByJoin_31 rfl (lv_at hl 1 rfl) ?_
          refine lv_imul hx hb qd_X_isGivenByJoin_32 ?_
          refine mk_rw (y := nI (2 * t)) (pk_mul 2 t) ?_
          refine va_iald (i := (nI (2 * t))) hx hb hK hP 3 0 rfl rfl (vp_in_nI (by omega) (by omega)) qd_X_isGivenByJoin_33 ?_
          refine mk_rw (y := jo (2 * t)) (congrArg _ (nI_clamp (by omega))) ?_
          refine lv_bipush (v := (-2)) hx hb qd_X_isGivenByJoin_34 (by decide) ?_
          refine lv_icmp_ne (tgt := 41) hx hb qd_X_isGivenByJoin_36 (by decide) (fun c_5 => ?_) (fun c_5 => ?_)
          · refine lv_iinc (v := nI (t + 1)) (lv' := [(1, .int (nI (t + 1))), (0, .ref (a 0))]) hx hb qd_X_isGivenByJoin_41 hl (k := 1) rfl (mk_inc t) (by decide) rfl (fun ls hl => ?_)
            refine lv_goto (tgt := 13) hx hb qd_X_isGivenByJoin_44 (by decide) ?_
            exact ih_2 (t + 1) H locs ls ⟨⟨by omega, fun c q => by rcases Nat.lt_or_ge c t with q2 | q2; exact hinv.2 c q2; obtain rfl : c = t := (by omega); exact c_5⟩, hP, hS, lv_sub hl [1, 0] rfl⟩
          · refine lv_iconst (v := 0) hx hb qd_X_isGivenByJoin_39 (by decide) ?_
            exact mk_zret hx hb hr hlocks hS qd_X_isGivenByJoin_40 (by decide) ((if_neg (fun q => q.elim c_1 (fun q2 => q2 t (by omega) c_5))).symm)
    · obtain ⟨t, rfl⟩ : ∃ z, z = y9 := ⟨_, rfl⟩
      obtain ⟨hinv, hP, hS, hl⟩ := hI
      have hinv : t + 0 = n3 ∧ ∀ c, c < t → ¬ jo (2 * c) = -2 := hinv
      have hP : va_P (dC, dI) vwCl (wX a cA x ru ma jo gv tk kV fV kR fR kO fO) H := hP
      have hl : lv_has ls 2 [(0, .ref (a 0)), (1, .int (nI t))] := hl
      refine lv_iload_n hx hb qd_X_isGivenByJoin_13 rfl (lv_at hl 1 rfl) ?_
      refine lv_aload_n hx hb qd_X_isGivenByJoin_14 rfl (lv_at hl 0 rfl) ?_
      refine va_get (D := (dC, dI)) (ci := 0) (v := .int (x 6)) (C := qR_X) (T := qT_X) (N := 13) hx hb hts qin_X hown hK hP 0 rfl rfl 6 (by decide) (hts _ mw_122) (fun _ h9 => h9) rfl qd_X_isGivenByJoin_15 ?_
      refine mk_rw (y := nI n3) (hn3) ?_
      refine lv_icmp_ge (tgt := 47) hx hb qd_X_isGivenByJoin_18 (by decide) (fun c_6 => ?_) (fun c_6 => ?_)
      · refine lv_iconst (v := 1) hx hb qd_X_isGivenByJoin_47 (by decide) ?_
        exact mk_zret hx hb hr hlocks hS qd_X_isGivenByJoin_48 (by decide) ((if_pos (Or.inr (fun c q => hinv.2 c (by omega)))).symm)
      · exact absurd (nI_le (by omega) (by omega)) c_6
  · refine lv_iconst (v := 1) hx hb qd_X_isGivenByJoin_9 (by decide) ?_
    exact mk_zret hx hb hr hlocks hS qd_X_isGivenByJoin_10 (by decide) ((if_pos (Or.inl c_1)).symm)
end
section
set_option maxHeartbeats 4000000 in
set_option maxRecDepth 100000 in
/-- findJoin(key, time) -/
theorem c_X_findJoin (l : Launch) (dC : Nat → ClassId) (dI : Nat → Nat → Nat) (cA : ClassId) (sz : Nat) (a : Nat → Nat) (x ru ma jo : Nat → Int32) (gv tk : Int32) (fV : Nat → Int32) (kR : Nat) (fR : Nat → Int32) (kO : Nat) (fO : Nat → Int32) (V : List (Nat → Int32)) (hV : sh_wf 3 160 fV V) (hcuts : ∀ pl fr, ∃ k, vs_cut V pl fr k) (kn : Nat) (hkn : kn < 16) (tm : Int32) : Met l qy_X_findJoin qw_X_findJoin ({ frames := 3, cells := 0, slots := 0, locals := 74 }) (mk_mu [.ref (a 0), .int (nI kn), .int tm] sz (dC, dI) vwCl [(cA, .int)] (wX a cA x ru ma jo gv tk V.length fV kR fR kO fO)) (mk_muV (S := Nat → Int32) (fun u => u = xjt V (ru 0) kn tm jo 3) (fun u => (wX a cA x ru ma u gv tk V.length fV kR fR kO fO)) (dC, dI) vwCl [(cA, .int)] (va_A (wX a cA x ru ma jo gv tk V.length fV kR fR kO fO) sz)) 0 0 (va_A (wX a cA x ru ma jo gv tk V.length fV kR fR kO fO) sz) := by
  refine Met.ofW (cc := qb_X_findJoin) (maxL := 5) (ret := none) (by decide) rfl ?_
  intro p e s m args below meth c s₁ B hml hpre
  obtain ⟨rfl, hsz, hP, hK, hD0⟩ := hpre
  have hx := B.exec
  have hb := B.bytes
  have hr := B.returns
  have hts0 := atoms_spec (ws := qw_X_findJoin) B.pre
  have hts := fun w (h : w ∈ lw_gd) => hts0 w (List.mem_cons_of_mem _ h)
  have hown : s.vm.findClass qR_X = some m.cls := findClass_of_methodNamed B.named
  have hlocks := B.notSynchronized
  subst hsz
  have hD := hD0.self (sz := s.heap.size)
  generalize hAe : va_A (wX a cA x ru ma jo gv tk V.length fV kR fR kO fO) s.heap.size = A at hD ⊢
  have hA : ∀ q : Nat, s.heap.size ≤ q → A q := fun q h => by rw [← hAe]; exact Or.inr h
  have hS : va_S A s.heap s.heap [] := va_S.rf
  have hl := lv_entry ([.ref (a 0), .int (nI kn), .int tm]) (n := 5) (Nat.le_of_ble_eq_true rfl)
  rw [lg_entry_eq]
  generalize (lg_sl ([.ref (a 0), .int (nI kn), .int tm]) ++ List.replicate (5 - (lg_sl ([.ref (a 0), .int (nI kn), .int tm])).length) Slot.unset).toArray = ls at hl ⊢
  have hl : lv_has ls 5 [(0, .ref (a 0)), (1, .int (nI kn)), (2, .int tm)] := hl
  have hP : va_P (dC, dI) vwCl (wX a cA x ru ma jo gv tk V.length fV kR fR kO fO) s.heap := hP
  refine mk_start (A := A) hP (fun H locs hP hS => ?_)
  obtain ⟨hok, hlen, -, -, -⟩ := id hV
  refine lv_iconst (v := 0) hx hb qd_X_findJoin_0 (by decide) ?_
  refine mk_rw (y := nI 0) (rfl) ?_
  refine lv_istore_n (lv' := [(3, .int (nI 0)), (0, .ref (a 0)), (1, .int (nI kn)), (2, .int tm)]) hx hb qd_X_findJoin_1 rfl hl (by decide) rfl (fun ls hl => ?_)
  have hP : va_P (dC, dI) vwCl (wX a cA x ru ma (xjt V (ru 0) kn tm jo 0) gv tk V.length fV kR fR kO fO) H := by rw [xjt_0]; exact hP
  have hD : va_D A (wX a cA x ru ma (xjt V (ru 0) kn tm jo 0) gv tk V.length fV kR fR kO fO) := by rw [xjt_0]; exact hD
  refine mk_loop (σ := Nat) (fun n y9 H locs ls => (y9 + n = 3) ∧ va_P (dC, dI) vwCl (wX a cA x ru ma (xjt V (ru 0) kn tm jo y9) gv tk V.length fV kR fR kO fO) H ∧ va_D A (wX a cA x ru ma (xjt V (ru 0) kn tm jo y9) gv tk V.length fV kR fR kO fO) ∧ va_S A s.heap H locs ∧ lv_has ls 5 [(0, .ref (a 0)), (1, .int (nI kn)), (2, .int tm), (3, .int (nI y9))]) (fun ls => F0 m 2 ls []) (fun n y9 H locs ls hI ih_1 => ?_) (fun y9 H locs ls hI => ?_) 3 0 H locs ls ⟨rfl, hP, hD, hS, lv_sub hl [1, 2, 3, 0] rfl⟩
  · obtain ⟨t, rfl⟩ : ∃ z, z = y9 := ⟨_, rfl⟩
    obtain ⟨hinv, hP, hD, hS, hl⟩ := hI
    have hinv : t + (n + 1) = 3 := hinv
    have hP : va_P (dC, dI) vwCl (wX a cA x ru ma (xjt V (ru 0) kn tm jo t) gv tk V.length fV kR fR kO fO) H := hP
    have hD : va_D A (wX a cA x ru ma (xjt V (ru 0) kn tm jo t) gv tk V.length fV kR fR kO fO) := hD
    have hl : lv_has ls 5 [(0, .ref (a 0)), (1, .int (nI kn)), (2, .int tm), (3, .int (nI t))] := hl
    refine lv_iload_n hx hb qd_X_findJoin_2 rfl (lv_at hl 3 rfl) ?_
    refine lv_iconst (v := 3) hx hb qd_X_findJoin_3 (by decide) ?_
    refine lv_icmp_ge (tgt := 93) hx hb qd_X_findJoin_4 (by decide) (fun c_2 => ?_) (fun c_2 => ?_)
    · exact absurd c_2 (nI_ge (a := t) (b := 3) (by omega) (by decide))
    · refine lv_aload_n hx hb qd_X_findJoin_7 rfl (lv_at hl 0 rfl) ?_
      refine va_get (D := (dC, dI)) (ci := 0) (v := .ref (a 4)) (C := qR_X) (T := qT_X) (N := 13) hx hb hts qin_X hown hK hP 0 rfl rfl 2 (by decide) (hts _ mw_118) (fun _ h9 => h9) rfl qd_X_findJoin_8 ?_
      refine lv_iload_n hx hb qd_X_findJoin_11 rfl (lv_at hl 3 rfl) ?_
      refine lv_iload_n hx hb qd_X_findJoin_12 rfl (lv_at hl 1 rfl) ?_
      refine mk_calli (va_runS (As := [.int (nI t), .int (nI kn)]) (rest := [.ref (a 4)]) ⟨hx, hb, hml, hown, hts⟩ (c_X_placeOf l dC dI cA H.size (nI t) (nI kn)) (va_cwS 2 hts gc_X_75 rfl rfl rfl (by decide +kernel) ⟨Nat.le_of_ble_eq_true rfl, Nat.le_of_ble_eq_true rfl⟩) (mk_roS hP [] rfl hK) rfl rfl hl.1 rfl (lv_room (Nat.le_of_ble_eq_true rfl)) qd_X_findJoin_13 ⟨(Nat.zero_le _), (Nat.zero_le _)⟩) hS hA hP (fun r_3 H locs hr_3 hP hS => ?_)
      obtain rfl : r_3 = (nI t) * 16 + (nI kn) := hr_3
      refine mk_rw (y := nI (t * 16 + kn)) (by rw [show (16 : Int32) = nI 16 from rfl, pk_mul, nI_add]) ?_
      refine lv_iload_n hx hb qd_X_findJoin_16 rfl (lv_at hl 2 rfl) ?_
      refine lv_aload_n hx hb qd_X_findJoin_17 rfl (lv_at hl 0 rfl) ?_
      refine va_get (D := (dC, dI)) (ci := 0) (v := .ref (a 1)) (C := qR_X) (T := qT_X) (N := 13) hx hb hts qin_X hown hK hP 0 rfl rfl 0 (by decide) (hts _ mw_116) (fun _ h9 => h9) rfl qd_X_findJoin_18 ?_
      refine lv_iconst (v := 0) hx hb qd_X_findJoin_21 (by decide) ?_
      refine va_iald (i := 0) hx hb hK hP 1 0 rfl rfl (show ¬ ((0 : Int32) < 0 ∨ 4 ≤ (0 : Int32).toNatClampNeg) from by decide) qd_X_findJoin_22 ?_
      refine mk_rw (y := ru 0) (rfl) ?_
      refine lv_isub hx hb qd_X_findJoin_23 ?_
      obtain ⟨k, hk⟩ := hcuts (nI (t * 16 + kn)) (tm - ru 0)
      refine mk_calli (va_runV (As := [.int (nI (t * 16 + kn)), .int (tm - (ru 0))]) (rest := []) ⟨hx, hb, hml, hown, hts⟩ (c_V_lineAsOf l dC dI cA H.size (a 4) (a 5) (a 6) fV V hV (nI (t * 16 + kn)) (tm - (ru 0)) k hk (nI_nm2 (by omega))) (cwV 2 hts gc_X_122 rfl rfl rfl (by decide +kernel) ⟨Nat.le_of_ble_eq_true rfl, Nat.le_of_ble_eq_true rfl⟩) (mk_roV hP [4, 5, 6] rfl hK (va_recv hK hP (ci := 5) (q0 := 4) rfl rfl)) rfl rfl hl.1 rfl (lv_room (Nat.le_of_ble_eq_true rfl)) qd_X_findJoin_24 ⟨(Nat.zero_le _), (Nat.zero_le _)⟩) hS hA hP (fun r_4 H locs hr_4 hP hS => ?_)
      have hr_4 : vs_asof V (nI (t * 16 + kn)) k r_4 := hr_4
      refine lv_istore (lv' := [(4, .int r_4), (0, .ref (a 0)), (1, .int (nI kn)), (2, .int tm), (3, .int (nI t))]) hx hb qd_X_findJoin_27 hl (by decide) rfl (fun ls hl => ?_)
      refine lv_aload_n hx hb qd_X_findJoin_29 rfl (lv_at hl 1 rfl) ?_
      refine va_get (D := (dC, dI)) (ci := 0) (v := .ref (a 3)) (C := qR_X) (T := qT_X) (N := 13) hx hb hts qin_X hown hK hP 0 rfl rfl 5 (by decide) (hts _ mw_121) (fun _ h9 => h9) rfl qd_X_findJoin_30 ?_
      refine lv_iconst (v := 2) hx hb qd_X_findJoin_33 (by decide) ?_
      refine lv_iload_n hx hb qd_X_findJoin_34 rfl (lv_at hl 4 rfl) ?_
      refine lv_imul hx hb qd_X_findJoin_35 ?_
      refine mk_rw (y := nI (2 * t)) (pk_mul 2 t) ?_
      refine mk_meetH (D := (dC, dI)) (cl := vwCl) (ws := (wX a cA x ru ma (xjt V (ru 0) kn tm jo t) gv tk V.length fV kR fR kO fO)) (A0 := A) (H0 := s.heap) (fun v => v = xj V (ru 0) kn tm (2 * t)) (fun v => F0 m 56 ls (.int v :: .int (nI (2 * t)) :: .ref (a 3) :: [])) (fun v_6 H locs hv_6 hP hS => ?_) (fun J_5 => ?_)
      · have hv_6 : v_6 = xj V (ru 0) kn tm (2 * t) := hv_6
        refine mk_rw (y := xj V (ru 0) kn tm (2 * t)) (hv_6) ?_
        refine va_iast (i := (nI (2 * t))) (x := (xj V (ru 0) kn tm (2 * t))) hx hb hK hP hD hS 3 0 rfl rfl (vp_in_nI (by omega) (by omega)) qd_X_findJoin_56 (fun H locs hP hD hS => ?_)
        rw [show Int32.toNatClampNeg (nI (2 * t)) = (2 * t) from (nI_clamp (by omega))] at hP hD
        have hP : va_P (dC, dI) vwCl (wX a cA x ru ma (upd (xjt V (ru 0) kn tm jo t) (2 * t) (xj V (ru 0) kn tm (2 * t))) gv tk V.length fV kR fR kO fO) H := hP
        have hD : va_D A (wX a cA x ru ma (upd (xjt V (ru 0) kn tm jo t) (2 * t) (xj V (ru 0) kn tm (2 * t))) gv tk V.length fV kR fR kO fO) := hD
        refine lv_aload_n hx hb qd_X_findJoin_57 rfl (lv_at hl 1 rfl) ?_
        refine va_get (D := (dC, dI)) (ci := 0) (v := .ref (a 3)) (C := qR_X) (T := qT_X) (N := 13) hx hb hts qin_X hown hK hP 0 rfl rfl 5 (by decide) (hts _ mw_121) (fun _ h9 => h9) rfl qd_X_findJoin_58 ?_
        refine lv_iconst (v := 2) hx hb qd_X_findJoin_61 (by decide) ?_
        refine lv_iload_n hx hb qd_X_findJoin_62 rfl (lv_at hl 4 rfl) ?_
        refine lv_imul hx hb qd_X_findJoin_63 ?_
        refine lv_iconst (v := 1) hx hb qd_X_findJoin_64 (by decide) ?_
        refine lv_iadd hx hb qd_X_findJoin_65 ?_
        refine mk_rw (y := nI (2 * t + 1)) (by rw [show (2 : Int32) = nI 2 from rfl, pk_mul, nI_1]) ?_
        refine mk_meetH (D := (dC, dI)) (cl := vwCl) (ws := (wX a cA x ru ma (upd (xjt V (ru 0) kn tm jo t) (2 * t) (xj V (ru 0) kn tm (2 * t))) gv tk V.length fV kR fR kO fO)) (A0 := A) (H0 := s.heap) (fun v => v = xj V (ru 0) kn tm (2 * t + 1)) (fun v => F0 m 86 ls (.int v :: .int (nI (2 * t + 1)) :: .ref (a 3) :: [])) (fun v_8 H locs hv_8 hP hS => ?_) (fun J_7 => ?_)
        · have hv_8 : v_8 = xj V (ru 0) kn tm (2 * t + 1) := hv_8
          refine mk_rw (y := xj V (ru 0) kn tm (2 * t + 1)) (hv_8) ?_
          refine va_iast (i := (nI (2 * t + 1))) (x := (xj V (ru 0) kn tm (2 * t + 1))) hx hb hK hP hD hS 3 0 rfl rfl (vp_in_nI (by omega) (by omega)) qd_X_findJoin_86 (fun H locs hP hD hS => ?_)
          rw [show Int32.toNatClampNeg (nI (2 * t + 1)) = (2 * t + 1) from (nI_clamp (by omega))] at hP hD
          have hP : va_P (dC, dI) vwCl (wX a cA x ru ma (upd (upd (xjt V (ru 0) kn tm jo t) (2 * t) (xj V (ru 0) kn tm (2 * t))) (2 * t + 1) (xj V (ru 0) kn tm (2 * t + 1))) gv tk V.length fV kR fR kO fO) H := hP
          have hD : va_D A (wX a cA x ru ma (upd (upd (xjt V (ru 0) kn tm jo t) (2 * t) (xj V (ru 0) kn tm (2 * t))) (2 * t + 1) (xj V (ru 0) kn tm (2 * t + 1))) gv tk V.length fV kR fR kO fO) := hD
          refine lv_iinc (v := nI (t + 1)) (lv' := [(3, .int (nI (t + 1))), (4, .int r_4), (0, .ref (a 0)), (1, .int (nI kn)), (2, .int tm)]) hx hb qd_X_findJoin_87 hl (k := 4) rfl (mk_inc t) (by decide) rfl (fun ls hl => ?_)
          refine lv_goto (tgt := 2) hx hb qd_X_findJoin_90 (by decide) ?_
          rw [xjt_s] at hP hD
          exact ih_1 (t + 1) H locs ls ⟨by omega, hP, hD, hS, lv_sub hl [2, 3, 4, 0] rfl⟩
        · refine lv_iload hx hb qd_X_findJoin_66 (lv_at hl 0 rfl) ?_
          refine lv_if_ge (tgt := 76) hx hb qd_X_findJoin_68 (by decide) (fun c_9 => ?_) (fun c_9 => ?_)
          · refine lv_aload_n hx hb qd_X_findJoin_76 rfl (lv_at hl 1 rfl) ?_
            refine va_get (D := (dC, dI)) (ci := 0) (v := .ref (a 4)) (C := qR_X) (T := qT_X) (N := 13) hx hb hts qin_X hown hK hP 0 rfl rfl 2 (by decide) (hts _ mw_118) (fun _ h9 => h9) rfl qd_X_findJoin_77 ?_
            refine lv_iload hx hb qd_X_findJoin_80 (lv_at hl 0 rfl) ?_
            refine lv_iconst (v := 1) hx hb qd_X_findJoin_82 (by decide) ?_
            refine mk_calli (va_runV (As := [.int r_4, .int 1]) (rest := [.int (nI (2 * t + 1)), .ref (a 3)]) ⟨hx, hb, hml, hown, hts⟩ (c_V_get l dC dI cA H.size (a 4) (a 5) (a 6) fV V hV r_4 1) (cwV 2 hts gc_X_125 rfl rfl rfl (by decide +kernel) ⟨Nat.le_of_ble_eq_true rfl, Nat.le_of_ble_eq_true rfl⟩) (mk_roV hP [4, 5, 6] rfl hK (va_recv hK hP (ci := 5) (q0 := 4) rfl rfl)) rfl rfl hl.1 rfl (lv_room (Nat.le_of_ble_eq_true rfl)) qd_X_findJoin_83 ⟨(Nat.zero_le _), (Nat.zero_le _)⟩) hS hA hP (fun r_10 H locs hr_10 hP hS => ?_)
            have hr_10 : r_10 = sh_get 3 V r_4 (nI 1) := hr_10
            exact J_7 _ H locs (xj_get (by omega) (by omega) hk hr_4 (by omega) c_9 hr_10) hP hS
          · refine lv_bipush (v := (-2)) hx hb qd_X_findJoin_71 (by decide) ?_
            refine lv_goto (tgt := 86) hx hb qd_X_findJoin_73 (by decide) ?_
            exact J_7 _ H locs (xj_neg (by omega) hk hr_4 (by omega) c_9) hP hS
      · refine lv_iload hx hb qd_X_findJoin_36 (lv_at hl 0 rfl) ?_
        refine lv_if_ge (tgt := 46) hx hb qd_X_findJoin_38 (by decide) (fun c_11 => ?_) (fun c_11 => ?_)
        · refine lv_aload_n hx hb qd_X_findJoin_46 rfl (lv_at hl 1 rfl) ?_
          refine va_get (D := (dC, dI)) (ci := 0) (v := .ref (a 4)) (C := qR_X) (T := qT_X) (N := 13) hx hb hts qin_X hown hK hP 0 rfl rfl 2 (by decide) (hts _ mw_118) (fun _ h9 => h9) rfl qd_X_findJoin_47 ?_
          refine lv_iload hx hb qd_X_findJoin_50 (lv_at hl 0 rfl) ?_
          refine lv_iconst (v := 0) hx hb qd_X_findJoin_52 (by decide) ?_
          refine mk_calli (va_runV (As := [.int r_4, .int 0]) (rest := [.int (nI (2 * t)), .ref (a 3)]) ⟨hx, hb, hml, hown, hts⟩ (c_V_get l dC dI cA H.size (a 4) (a 5) (a 6) fV V hV r_4 0) (cwV 2 hts gc_X_125 rfl rfl rfl (by decide +kernel) ⟨Nat.le_of_ble_eq_true rfl, Nat.le_of_ble_eq_true rfl⟩) (mk_roV hP [4, 5, 6] rfl hK (va_recv hK hP (ci := 5) (q0 := 4) rfl rfl)) rfl rfl hl.1 rfl (lv_room (Nat.le_of_ble_eq_true rfl)) qd_X_findJoin_53 ⟨(Nat.zero_le _), (Nat.zero_le _)⟩) hS hA hP (fun r_12 H locs hr_12 hP hS => ?_)
          have hr_12 : r_12 = sh_get 3 V r_4 (nI 0) := hr_12
          exact J_5 _ H locs (xj_get (by omega) (by omega) hk hr_4 (by omega) c_11 hr_12) hP hS
        · refine lv_bipush (v := (-2)) hx hb qd_X_findJoin_41 (by decide) ?_
          refine lv_goto (tgt := 56) hx hb qd_X_findJoin_43 (by decide) ?_
          exact J_5 _ H locs (xj_neg (by omega) hk hr_4 (by omega) c_11) hP hS
  · obtain ⟨t, rfl⟩ : ∃ z, z = y9 := ⟨_, rfl⟩
    obtain ⟨hinv, hP, hD, hS, hl⟩ := hI
    have hinv : t + 0 = 3 := hinv
    have hP : va_P (dC, dI) vwCl (wX a cA x ru ma (xjt V (ru 0) kn tm jo t) gv tk V.length fV kR fR kO fO) H := hP
    have hD : va_D A (wX a cA x ru ma (xjt V (ru 0) kn tm jo t) gv tk V.length fV kR fR kO fO) := hD
    have hl : lv_has ls 5 [(0, .ref (a 0)), (1, .int (nI kn)), (2, .int tm), (3, .int (nI t))] := hl
    obtain rfl : t = 3 := by omega
    refine lv_iload_n hx hb qd_X_findJoin_2 rfl (lv_at hl 3 rfl) ?_
    refine lv_iconst (v := 3) hx hb qd_X_findJoin_3 (by decide) ?_
    refine lv_icmp_ge (tgt := 93) hx hb qd_X_findJoin_4 (by decide) (fun c_13 => ?_) (fun c_13 => ?_)
    · exact mk_mvret (xjt V (ru 0) kn tm jo 3) hx hb hr hlocks hP hK hD hS qd_X_findJoin_93 (rfl)
    · exact absurd (show (3 : Int32) ≤ nI 3 from by decide) c_13
set_option maxHeartbeats 4000000 in
set_option maxRecDepth 100000 in
/-- takeJoin(line) -/
theorem c_X_takeJoin (l : Launch) (dC : Nat → ClassId) (dI : Nat → Nat → Nat) (cA : ClassId) (sz : Nat) (a : Nat → Nat) (x ru ma jo : Nat → Int32) (gv tk : Int32) (kV : Nat) (fV : Nat → Int32) (fR : Nat → Int32) (fO : Nat → Int32) (R Lo : List (Nat → Int32)) (hR : sh_wf 12 96 fR R) (hO : sh_wf 11 192 fO Lo) (hroom : Lo.length < 192) (n3 : Nat) (hn3 : x 6 = nI n3) (h3 : n3 ≤ 3) (i' : Nat) (r0 : Nat → Int32) (hr0 : R[i']? = some r0) : Met l qy_X_takeJoin qw_X_takeJoin ({ frames := 3, cells := 0, slots := 0, locals := 107 }) (mk_mu [.ref (a 0), .int (nI i')] sz (dC, dI) vwCl [(cA, .int)] (wX a cA x ru ma jo gv tk kV fV R.length fR Lo.length fO)) (mk_muV (S := (List (Nat → Int32) × (Nat → Int32)) × (List (Nat → Int32) × (Nat → Int32)) × Int32) (fun u => u.1.1 = R.set i' (rs_jn r0 (xg_b (ru 2) n3 jo) jo 6) ∧ sh_ok 12 u.1.2 u.1.1 ∧ u.2.1.1 = Lo ++ (if (xg_b (ru 2) n3 jo) = 1 then [ot_rec 1 (rs_jn r0 (xg_b (ru 2) n3 jo) jo 6)] else []) ∧ sh_ok 11 u.2.1.2 u.2.1.1 ∧ u.2.2 = (if (xg_b (ru 2) n3 jo) = 1 then gv + 1 else gv)) (fun u => (wX a cA x ru ma jo u.2.2 tk kV fV u.1.1.length u.1.2 u.2.1.1.length u.2.1.2)) (dC, dI) vwCl [(cA, .int)] (va_A (wX a cA x ru ma jo gv tk kV fV R.length fR Lo.length fO) sz)) 0 0 (va_A (wX a cA x ru ma jo gv tk kV fV R.length fR Lo.length fO) sz) := by
  refine Met.ofW (cc := qb_X_takeJoin) (maxL := 3) (ret := none) (by decide) rfl ?_
  intro p e s m args below meth c s₁ B hml hpre
  obtain ⟨rfl, hsz, hP, hK, hD0⟩ := hpre
  have hx := B.exec
  have hb := B.bytes
  have hr := B.returns
  have hts0 := atoms_spec (ws := qw_X_takeJoin) B.pre
  have hts := fun w (h : w ∈ lw_gd) => hts0 w (List.mem_cons_of_mem _ h)
  have hown : s.vm.findClass qR_X = some m.cls := findClass_of_methodNamed B.named
  have hlocks := B.notSynchronized
  subst hsz
  have hD := hD0.self (sz := s.heap.size)
  generalize hAe : va_A (wX a cA x ru ma jo gv tk kV fV R.length fR Lo.length fO) s.heap.size = A at hD ⊢
  have hA : ∀ q : Nat, s.heap.size ≤ q → A q := fun q h => by rw [← hAe]; exact Or.inr h
  have hS : va_S A s.heap s.heap [] := va_S.rf
  have hl := lv_entry ([.ref (a 0), .int (nI i')]) (n := 3) (Nat.le_of_ble_eq_true rfl)
  rw [lg_entry_eq]
  generalize (lg_sl ([.ref (a 0), .int (nI i')]) ++ List.replicate (3 - (lg_sl ([.ref (a 0), .int (nI i')])).length) Slot.unset).toArray = ls at hl ⊢
  have hl : lv_has ls 3 [(0, .ref (a 0)), (1, .int (nI i'))] := hl
  have hP : va_P (dC, dI) vwCl (wX a cA x ru ma jo gv tk kV fV R.length fR Lo.length fO) s.heap := hP
  refine mk_start (A := A) hP (fun H locs hP hS => ?_)
  obtain ⟨hok, hlen, -, -, -⟩ := id hR
  refine lv_aload_n hx hb qd_X_takeJoin_0 rfl (lv_at hl 0 rfl) ?_
  refine mk_calli (va_runV (As := []) (rest := []) ⟨hx, hb, hml, hown, hts⟩ (c_X_isGivenByJoin l dC dI cA H.size a x ru ma jo gv tk kV fV R.length fR Lo.length fO n3 hn3 h3) (cwV 0 hts gc_X_166 rfl rfl rfl (by decide +kernel) ⟨Nat.le_of_ble_eq_true rfl, Nat.le_of_ble_eq_true rfl⟩) (mk_roV hP [0, 1, 2, 3, 4, 5, 6, 7, 8, 9, 10, 11, 12] rfl hK (va_recv hK hP (ci := 0) (q0 := 0) rfl rfl)) rfl rfl hl.1 rfl (lv_room (Nat.le_of_ble_eq_true rfl)) qd_X_takeJoin_1 ⟨(Nat.zero_le _), (Nat.zero_le _)⟩) hS hA hP (fun r_1 H locs hr_1 hP hS => ?_)
  obtain rfl : r_1 = (xg_b (ru 2) n3 jo) := hr_1
  refine lv_istore_n (lv' := [(2, .int (xg_b (ru 2) n3 jo)), (0, .ref (a 0)), (1, .int (nI i'))]) hx hb qd_X_takeJoin_4 rfl hl (by decide) rfl (fun ls hl => ?_)
  refine lv_aload_n hx hb qd_X_takeJoin_5 rfl (lv_at hl 1 rfl) ?_
  refine va_get (D := (dC, dI)) (ci := 0) (v := .ref (a 7)) (C := qR_X) (T := qT_X) (N := 13) hx hb hts qin_X hown hK hP 0 rfl rfl 3 (by decide) (hts _ mw_119) (fun _ h9 => h9) rfl qd_X_takeJoin_6 ?_
  refine lv_iload_n hx hb qd_X_takeJoin_9 rfl (lv_at hl 2 rfl) ?_
  refine lv_aload_n hx hb qd_X_takeJoin_10 rfl (lv_at hl 1 rfl) ?_
  refine va_get (D := (dC, dI)) (ci := 0) (v := .ref (a 3)) (C := qR_X) (T := qT_X) (N := 13) hx hb hts qin_X hown hK hP 0 rfl rfl 5 (by decide) (hts _ mw_121) (fun _ h9 => h9) rfl qd_X_takeJoin_11 ?_
  refine lv_iload_n hx hb qd_X_takeJoin_14 rfl (lv_at hl 0 rfl) ?_
  refine mk_mcallv (wr := [((a 0), .inr (0, [.ref (a 1), .ref (a 2), .ref (a 4), .ref (a 7), .ref (a 10), .ref (a 3), .int (x 6), .int (x 7), .int (x 8), .int (x 9), .int (x 10), .int (x 11), .int (x 12)])), ((a 1), .inl (cA, 4, .inl ru)), ((a 2), .inl (cA, 3, .inl ma)), ((a 4), .inr (5, [.ref (a 5)])), ((a 5), .inr (4, [.int (nI 3), .int (nI 160), .ref (a 6), .int (nI kV)])), ((a 6), .inl (cA, (3 * 160), .inl fV)), ((a 10), .inr (2, [.ref (a 11), .int gv, .int tk])), ((a 11), .inr (4, [.int (nI 11), .int (nI 192), .ref (a 12), .int (nI Lo.length)])), ((a 12), .inl (cA, (11 * 192), .inl fO))]) (wf := (fun u => (wX a cA x ru ma jo gv tk kV fV u.1.length u.2 Lo.length fO))) (va_runV (As := [.int (nI i'), .ref (a 3), .int (xg_b (ru 2) n3 jo)]) (rest := []) ⟨hx, hb, hml, hown, hts⟩ (c_R_setJoin l dC dI cA H.size (a 7) (a 8) (a 9) (a 3) fR jo R hR i' r0 hr0 (xg_b (ru 2) n3 jo) (xg_01 _ _ _)) (cwV 3 hts gc_X_170 rfl rfl rfl (by decide +kernel) ⟨Nat.le_of_ble_eq_true rfl, Nat.le_of_ble_eq_true rfl⟩) (mk_muP hP hD [7, 8, 9, 3] (by decide) rfl hK (va_recv hK hP (ci := 3) (q0 := 7) rfl rfl)) rfl rfl hl.1 rfl (lv_room (Nat.le_of_ble_eq_true rfl)) qd_X_takeJoin_15 ⟨(Nat.zero_le _), (Nat.zero_le _)⟩) hS hA hP hD [7, 8, 9, 3] [0, 1, 2, 4, 5, 6, 10, 11, 12] [0, 1, 2, 12, 3, 4, 5, 9, 10, 11, 6, 7, 8] rfl rfl (by decide) (by decide) (by decide) (fun _ => rfl) (fun u_3 H locs hu_3 hP hD hS => ?_)
  obtain ⟨R1, fR1⟩ := u_3
  obtain ⟨rfl, hokR⟩ : R1 = R.set i' (rs_jn r0 (xg_b (ru 2) n3 jo) jo 6) ∧ sh_ok 12 fR1 R1 := hu_3
  have hP : va_P (dC, dI) vwCl (wX a cA x ru ma jo gv tk kV fV ((R.set i' (rs_jn r0 (xg_b (ru 2) n3 jo) jo 6)).length) fR1 Lo.length fO) H := hP
  have hD : va_D A (wX a cA x ru ma jo gv tk kV fV ((R.set i' (rs_jn r0 (xg_b (ru 2) n3 jo) jo 6)).length) fR1 Lo.length fO) := hD
  refine lv_iload_n hx hb qd_X_takeJoin_18 rfl (lv_at hl 0 rfl) ?_
  refine lv_if_eq (tgt := 35) hx hb qd_X_takeJoin_19 (by decide) (fun c_4 => ?_) (fun c_4 => ?_)
  · have hg : ¬ (xg_b (ru 2) n3 jo) = 1 := by rw [c_4]; decide
    have hP : va_P (dC, dI) vwCl (wX a cA x ru ma jo (if (xg_b (ru 2) n3 jo) = 1 then gv + 1 else gv) tk kV fV ((R.set i' (rs_jn r0 (xg_b (ru 2) n3 jo) jo 6)).length) fR1 ((Lo ++ (if (xg_b (ru 2) n3 jo) = 1 then [ot_rec 1 (rs_jn r0 (xg_b (ru 2) n3 jo) jo 6)] else [])).length) fO) H := by rw [if_neg hg, if_neg hg, List.append_nil]; exact hP
    have hD : va_D A (wX a cA x ru ma jo (if (xg_b (ru 2) n3 jo) = 1 then gv + 1 else gv) tk kV fV ((R.set i' (rs_jn r0 (xg_b (ru 2) n3 jo) jo 6)).length) fR1 ((Lo ++ (if (xg_b (ru 2) n3 jo) = 1 then [ot_rec 1 (rs_jn r0 (xg_b (ru 2) n3 jo) jo 6)] else [])).length) fO) := by rw [if_neg hg, if_neg hg, List.append_nil]; exact hD
    exact mk_mvret (((R.set i' (rs_jn r0 (xg_b (ru 2) n3 jo) jo 6)), fR1), (Lo ++ (if (xg_b (ru 2) n3 jo) = 1 then [ot_rec 1 (rs_jn r0 (xg_b (ru 2) n3 jo) jo 6)] else []), fO), (if (xg_b (ru 2) n3 jo) = 1 then gv + 1 else gv)) hx hb hr hlocks hP hK hD hS qd_X_takeJoin_35 ⟨rfl, hokR, rfl, by rw [if_neg hg, List.append_nil]; exact hO.1, rfl⟩
  · refine lv_aload_n hx hb qd_X_takeJoin_22 rfl (lv_at hl 1 rfl) ?_
    refine va_get (D := (dC, dI)) (ci := 0) (v := .ref (a 10)) (C := qR_X) (T := qT_X) (N := 13) hx hb hts qin_X hown hK hP 0 rfl rfl 4 (by decide) (hts _ mw_120) (fun _ h9 => h9) rfl qd_X_takeJoin_23 ?_
    refine lv_iconst (v := 1) hx hb qd_X_takeJoin_26 (by decide) ?_
    refine lv_aload_n hx hb qd_X_takeJoin_27 rfl (lv_at hl 1 rfl) ?_
    refine va_get (D := (dC, dI)) (ci := 0) (v := .ref (a 7)) (C := qR_X) (T := qT_X) (N := 13) hx hb hts qin_X hown hK hP 0 rfl rfl 3 (by decide) (hts _ mw_119) (fun _ h9 => h9) rfl qd_X_takeJoin_28 ?_
    refine lv_iload_n hx hb qd_X_takeJoin_31 rfl (lv_at hl 2 rfl) ?_
    refine mk_mcallv (wr := [((a 0), .inr (0, [.ref (a 1), .ref (a 2), .ref (a 4), .ref (a 7), .ref (a 10), .ref (a 3), .int (x 6), .int (x 7), .int (x 8), .int (x 9), .int (x 10), .int (x 11), .int (x 12)])), ((a 1), .inl (cA, 4, .inl ru)), ((a 2), .inl (cA, 3, .inl ma)), ((a 3), .inl (cA, 6, .inl jo)), ((a 4), .inr (5, [.ref (a 5)])), ((a 5), .inr (4, [.int (nI 3), .int (nI 160), .ref (a 6), .int (nI kV)])), ((a 6), .inl (cA, (3 * 160), .inl fV))]) (wf := (fun u => (wX a cA x ru ma jo (if (1 : Int32) = 1 then gv + 1 else gv) (if (1 : Int32) = 1 then tk else tk + 1) kV fV ((R.set i' (rs_jn r0 (xg_b (ru 2) n3 jo) jo 6)).length) fR1 u.1.length u.2))) (va_runV (As := [.int 1, .ref (a 7), .int (nI i')]) (rest := []) ⟨hx, hb, hml, hown, hts⟩ (c_O_add l dC dI cA H.size (a 10) (a 11) (a 12) (a 7) (a 8) (a 9) gv tk fO fR1 Lo (R.set i' (rs_jn r0 (xg_b (ru 2) n3 jo) jo 6)) hO (⟨hokR, by rw [List.length_set]; exact hlen, by decide, by decide, by decide⟩) hroom 1 i' (rs_jn r0 (xg_b (ru 2) n3 jo) jo 6) (rs_set_at hr0)) (cwV 3 hts gc_X_174 rfl rfl rfl (by decide +kernel) ⟨Nat.le_of_ble_eq_true rfl, Nat.le_of_ble_eq_true rfl⟩) (mk_muP hP hD [10, 11, 12, 7, 8, 9] (by decide) rfl hK (va_recv hK hP (ci := 2) (q0 := 10) rfl rfl)) rfl rfl hl.1 rfl (lv_room (Nat.le_of_ble_eq_true rfl)) qd_X_takeJoin_32 ⟨(Nat.zero_le _), (Nat.zero_le _)⟩) hS hA hP hD [10, 11, 12, 7, 8, 9] [0, 1, 2, 3, 4, 5, 6] [0, 1, 2, 3, 4, 5, 6, 10, 11, 12, 7, 8, 9] rfl rfl (by decide) (by decide) (by decide) (fun _ => rfl) (fun u_6 H locs hu_6 hP hD hS => ?_)
    obtain ⟨O1, fO1⟩ := u_6
    obtain ⟨rfl, hokO⟩ : O1 = Lo ++ [ot_rec 1 (rs_jn r0 (xg_b (ru 2) n3 jo) jo 6)] ∧ sh_ok 11 fO1 O1 := hu_6
    rw [if_pos rfl, if_pos rfl] at hP hD
    have hP : va_P (dC, dI) vwCl (wX a cA x ru ma jo (gv + 1) tk kV fV ((R.set i' (rs_jn r0 (xg_b (ru 2) n3 jo) jo 6)).length) fR1 ((Lo ++ [ot_rec 1 (rs_jn r0 (xg_b (ru 2) n3 jo) jo 6)]).length) fO1) H := hP
    have hD : va_D A (wX a cA x ru ma jo (gv + 1) tk kV fV ((R.set i' (rs_jn r0 (xg_b (ru 2) n3 jo) jo 6)).length) fR1 ((Lo ++ [ot_rec 1 (rs_jn r0 (xg_b (ru 2) n3 jo) jo 6)]).length) fO1) := hD
    have hg : (xg_b (ru 2) n3 jo) = 1 := (xg_01 _ _ _).resolve_left c_4
    have hP : va_P (dC, dI) vwCl (wX a cA x ru ma jo (if (xg_b (ru 2) n3 jo) = 1 then gv + 1 else gv) tk kV fV ((R.set i' (rs_jn r0 (xg_b (ru 2) n3 jo) jo 6)).length) fR1 ((Lo ++ (if (xg_b (ru 2) n3 jo) = 1 then [ot_rec 1 (rs_jn r0 (xg_b (ru 2) n3 jo) jo 6)] else [])).length) fO1) H := by rw [if_pos hg, if_pos hg]; exact hP
    have hD : va_D A (wX a cA x ru ma jo (if (xg_b (ru 2) n3 jo) = 1 then gv + 1 else gv) tk kV fV ((R.set i' (rs_jn r0 (xg_b (ru 2) n3 jo) jo 6)).length) fR1 ((Lo ++ (if (xg_b (ru 2) n3 jo) = 1 then [ot_rec 1 (rs_jn r0 (xg_b (ru 2) n3 jo) jo 6)] else [])).length) fO1) := by rw [if_pos hg, if_pos hg]; exact hD
    exact mk_mvret (((R.set i' (rs_jn r0 (xg_b (ru 2) n3 jo) jo 6)), fR1), (Lo ++ (if (xg_b (ru 2) n3 jo) = 1 then [ot_rec 1 (rs_jn r0 (xg_b (ru 2) n3 jo) jo 6)] else []), fO1), (if (xg_b (ru 2) n3 jo) = 1 then gv + 1 else gv)) hx hb hr hlocks hP hK hD hS qd_X_takeJoin_35 ⟨rfl, hokR, rfl, by rw [if_pos hg]; exact hokO, rfl⟩
end
section
set_option maxHeartbeats 4000000 in
set_option maxRecDepth 100000 in
/-- joinRows() -/
theorem c_X_joinRows (l : Launch) (dC : Nat → ClassId) (dI : Nat → Nat → Nat) (cA : ClassId) (sz : Nat) (a : Nat → Nat) (x ru ma jo : Nat → Int32) (gv tk : Int32) (fV : Nat → Int32) (fR : Nat → Int32) (fO : Nat → Int32) (V R Lo : List (Nat → Int32)) (hV : sh_wf 3 160 fV V) (hR : sh_wf 12 96 fR R) (hO : sh_wf 11 192 fO Lo) (hcuts : ∀ pl fr, ∃ k, vs_cut V pl fr k) (n3 : Nat) (hn3 : x 6 = nI n3) (h3 : n3 ≤ 3) (hkeys : ∀ (i : Nat) (r : Nat → Int32), R[i]? = some r → ∃ kn, kn < 16 ∧ r 1 = nI kn) (hroom : Lo.length + R.length ≤ 192) : Met l qy_X_joinRows qw_X_joinRows ({ frames := 4, cells := 0, slots := 0, locals := 129 }) (mk_mu [.ref (a 0)] sz (dC, dI) vwCl [(cA, .int)] (wX a cA x ru ma jo gv tk V.length fV R.length fR Lo.length fO)) (mk_muV (S := (Nat → Int32) × (List (Nat → Int32) × (Nat → Int32)) × (List (Nat → Int32) × (Nat → Int32)) × Int32) (fun u => u.2.1.1 = R.map (jr_row V ru n3 (xt_low ma n3)) ∧ sh_ok 12 u.2.1.2 u.2.1.1 ∧ u.2.2.1.1 = Lo ++ R.flatMap (jr_out V ru n3 (xt_low ma n3)) ∧ sh_ok 11 u.2.2.1.2 u.2.2.1.1 ∧ u.2.2.2 = gv + nI (sw_n (jr_d V ru n3 (xt_low ma n3)) R R.length)) (fun u => (wX a cA x ru ma u.1 u.2.2.2 tk V.length fV u.2.1.1.length u.2.1.2 u.2.2.1.1.length u.2.2.1.2)) (dC, dI) vwCl [(cA, .int)] (va_A (wX a cA x ru ma jo gv tk V.length fV R.length fR Lo.length fO) sz)) 0 0 (va_A (wX a cA x ru ma jo gv tk V.length fV R.length fR Lo.length fO) sz) := by
  refine Met.ofW (cc := qb_X_joinRows) (maxL := 4) (ret := none) (by decide) rfl ?_
  intro p e s m args below meth c s₁ B hml hpre
  obtain ⟨rfl, hsz, hP, hK, hD0⟩ := hpre
  have hx := B.exec
  have hb := B.bytes
  have hr := B.returns
  have hts0 := atoms_spec (ws := qw_X_joinRows) B.pre
  have hts := fun w (h : w ∈ lw_gd) => hts0 w (List.mem_cons_of_mem _ h)
  have hown : s.vm.findClass qR_X = some m.cls := findClass_of_methodNamed B.named
  have hlocks := B.notSynchronized
  subst hsz
  have hD := hD0.self (sz := s.heap.size)
  generalize hAe : va_A (wX a cA x ru ma jo gv tk V.length fV R.length fR Lo.length fO) s.heap.size = A at hD ⊢
  have hA : ∀ q : Nat, s.heap.size ≤ q → A q := fun q h => by rw [← hAe]; exact Or.inr h
  have hS : va_S A s.heap s.heap [] := va_S.rf
  have hl := lv_entry ([.ref (a 0)]) (n := 4) (Nat.le_of_ble_eq_true rfl)
  rw [lg_entry_eq]
  generalize (lg_sl ([.ref (a 0)]) ++ List.replicate (4 - (lg_sl ([.ref (a 0)])).length) Slot.unset).toArray = ls at hl ⊢
  have hl : lv_has ls 4 [(0, .ref (a 0))] := hl
  have hP : va_P (dC, dI) vwCl (wX a cA x ru ma jo gv tk V.length fV R.length fR Lo.length fO) s.heap := hP
  refine mk_start (A := A) hP (fun H locs hP hS => ?_)
  obtain ⟨hok, hlen, -, -, -⟩ := id hR
  obtain ⟨hokO0, hlenO, -, -, -⟩ := id hO
  refine lv_aload_n hx hb qd_X_joinRows_0 rfl (lv_at hl 0 rfl) ?_
  refine mk_calli (va_runV (As := []) (rest := []) ⟨hx, hb, hml, hown, hts⟩ (c_X_lowestMark l dC dI cA H.size a x ru ma jo gv tk V.length fV R.length fR Lo.length fO n3 hn3 h3) (cwV 0 hts gc_X_153 rfl rfl rfl (by decide +kernel) ⟨Nat.le_of_ble_eq_true rfl, Nat.le_of_ble_eq_true rfl⟩) (mk_roV hP [0, 1, 2, 3, 4, 5, 6, 7, 8, 9, 10, 11, 12] rfl hK (va_recv hK hP (ci := 0) (q0 := 0) rfl rfl)) rfl rfl hl.1 rfl (lv_room (Nat.le_of_ble_eq_true rfl)) qd_X_joinRows_1 ⟨(Nat.zero_le _), (Nat.zero_le _)⟩) hS hA hP (fun r_1 H locs hr_1 hP hS => ?_)
  obtain rfl : r_1 = (xt_low ma n3) := hr_1
  refine lv_istore_n (lv' := [(1, .int (xt_low ma n3)), (0, .ref (a 0))]) hx hb qd_X_joinRows_4 rfl hl (by decide) rfl (fun ls hl => ?_)
  refine lv_iconst (v := 0) hx hb qd_X_joinRows_5 (by decide) ?_
  refine mk_rw (y := nI 0) (rfl) ?_
  refine lv_istore_n (lv' := [(2, .int (nI 0)), (1, .int (xt_low ma n3)), (0, .ref (a 0))]) hx hb qd_X_joinRows_6 rfl hl (by decide) rfl (fun ls hl => ?_)
  have hP : va_P (dC, dI) vwCl (wX a cA x ru ma jo (gv + nI (sw_n (jr_d V ru n3 (xt_low ma n3)) R 0)) tk V.length fV ((sw_r (jr_row V ru n3 (xt_low ma n3)) R 0).length) fR ((sw_o (jr_out V ru n3 (xt_low ma n3)) Lo R 0).length) fO) H := by rw [sw_r_0, sw_o_0, sw_n_0, show gv + nI 0 = gv from Int32.add_zero gv]; exact hP
  have hD : va_D A (wX a cA x ru ma jo (gv + nI (sw_n (jr_d V ru n3 (xt_low ma n3)) R 0)) tk V.length fV ((sw_r (jr_row V ru n3 (xt_low ma n3)) R 0).length) fR ((sw_o (jr_out V ru n3 (xt_low ma n3)) Lo R 0).length) fO) := by rw [sw_r_0, sw_o_0, sw_n_0, show gv + nI 0 = gv from Int32.add_zero gv]; exact hD
  refine mk_loop (σ := Nat × (Nat → Int32) × (Nat → Int32) × (Nat → Int32)) (fun n y9 H locs ls => (y9.1 + n = R.length ∧ sh_ok 12 y9.2.2.1 (sw_r (jr_row V ru n3 (xt_low ma n3)) R y9.1) ∧ sh_ok 11 y9.2.2.2 (sw_o (jr_out V ru n3 (xt_low ma n3)) Lo R y9.1)) ∧ va_P (dC, dI) vwCl (wX a cA x ru ma y9.2.1 (gv + nI (sw_n (jr_d V ru n3 (xt_low ma n3)) R y9.1)) tk V.length fV ((sw_r (jr_row V ru n3 (xt_low ma n3)) R y9.1).length) y9.2.2.1 ((sw_o (jr_out V ru n3 (xt_low ma n3)) Lo R y9.1).length) y9.2.2.2) H ∧ va_D A (wX a cA x ru ma y9.2.1 (gv + nI (sw_n (jr_d V ru n3 (xt_low ma n3)) R y9.1)) tk V.length fV ((sw_r (jr_row V ru n3 (xt_low ma n3)) R y9.1).length) y9.2.2.1 ((sw_o (jr_out V ru n3 (xt_low ma n3)) Lo R y9.1).length) y9.2.2.2) ∧ va_S A s.heap H locs ∧ lv_has ls 4 [(0, .ref (a 0)), (1, .int (xt_low ma n3)), (2, .int (nI y9.1))]) (fun ls => F0 m 7 ls []) (fun n y9 H locs ls hI ih_2 => ?_) (fun y9 H locs ls hI => ?_) R.length (0, jo, fR, fO) H locs ls ⟨⟨Nat.zero_add _, by rw [sw_r_0]; exact hR.1, by rw [sw_o_0]; exact hO.1⟩, hP, hD, hS, lv_sub hl [2, 1, 0] rfl⟩
  · obtain ⟨i, j1, f1, f2⟩ := y9
    obtain ⟨hinv, hP, hD, hS, hl⟩ := hI
    have hinv : i + (n + 1) = R.length ∧ sh_ok 12 f1 (sw_r (jr_row V ru n3 (xt_low ma n3)) R i) ∧ sh_ok 11 f2 (sw_o (jr_out V ru n3 (xt_low ma n3)) Lo R i) := hinv
    have hP : va_P (dC, dI) vwCl (wX a cA x ru ma j1 (gv + nI (sw_n (jr_d V ru n3 (xt_low ma n3)) R i)) tk V.length fV ((sw_r (jr_row V ru n3 (xt_low ma n3)) R i).length) f1 ((sw_o (jr_out V ru n3 (xt_low ma n3)) Lo R i).length) f2) H := hP
    have hD : va_D A (wX a cA x ru ma j1 (gv + nI (sw_n (jr_d V ru n3 (xt_low ma n3)) R i)) tk V.length fV ((sw_r (jr_row V ru n3 (xt_low ma n3)) R i).length) f1 ((sw_o (jr_out V ru n3 (xt_low ma n3)) Lo R i).length) f2) := hD
    have hl : lv_has ls 4 [(0, .ref (a 0)), (1, .int (xt_low ma n3)), (2, .int (nI i))] := hl
    obtain ⟨ha, hok1, hok2⟩ := hinv
    have hlt : i < R.length := by omega
    have hlr : (sw_r (jr_row V ru n3 (xt_low ma n3)) R i).length = R.length := sw_r_len (Nat.le_of_lt hlt)
    have hwr : sh_wf 12 96 f1 (sw_r (jr_row V ru n3 (xt_low ma n3)) R i) := ⟨hok1, by omega, by decide, by decide, by decide⟩
    have hat := sw_r_at (F := (jr_row V ru n3 (xt_low ma n3))) hlt
    have hol := sw_o_len (Gx := (jr_out V ru n3 (xt_low ma n3))) (Lo := Lo) (R := R) (k := 1) (jr_out_len V ru n3 (xt_low ma n3)) i (Nat.le_of_lt hlt)
    have hwo : sh_wf 11 192 f2 (sw_o (jr_out V ru n3 (xt_low ma n3)) Lo R i) := ⟨hok2, by omega, by decide, by decide, by decide⟩
    refine lv_iload_n hx hb qd_X_joinRows_7 rfl (lv_at hl 2 rfl) ?_
    refine lv_aload_n hx hb qd_X_joinRows_8 rfl (lv_at hl 0 rfl) ?_
    refine va_get (D := (dC, dI)) (ci := 0) (v := .ref (a 7)) (C := qR_X) (T := qT_X) (N := 13) hx hb hts qin_X hown hK hP 0 rfl rfl 3 (by decide) (hts _ mw_119) (fun _ h9 => h9) rfl qd_X_joinRows_9 ?_
    refine mk_calli (va_runV (As := []) (rest := [.int (nI i)]) ⟨hx, hb, hml, hown, hts⟩ (c_R_size l dC dI cA H.size (a 7) (a 8) (a 9) f1 (sw_r (jr_row V ru n3 (xt_low ma n3)) R i) hwr) (cwV 0 hts gc_X_94 rfl rfl rfl (by decide +kernel) ⟨Nat.le_of_ble_eq_true rfl, Nat.le_of_ble_eq_true rfl⟩) (mk_roV hP [7, 8, 9] rfl hK (va_recv hK hP (ci := 3) (q0 := 7) rfl rfl)) rfl rfl hl.1 rfl (lv_room (Nat.le_of_ble_eq_true rfl)) qd_X_joinRows_12 ⟨(Nat.zero_le _), (Nat.zero_le _)⟩) hS hA hP (fun r_3 H locs hr_3 hP hS => ?_)
    obtain rfl : r_3 = nI R.length := Eq.trans hr_3 (congrArg nI hlr)
    refine lv_icmp_ge (tgt := 69) hx hb qd_X_joinRows_15 (by decide) (fun c_4 => ?_) (fun c_4 => ?_)
    · exact absurd c_4 (nI_ge hlt (by omega))
    · refine lv_aload_n hx hb qd_X_joinRows_18 rfl (lv_at hl 0 rfl) ?_
      refine va_get (D := (dC, dI)) (ci := 0) (v := .ref (a 7)) (C := qR_X) (T := qT_X) (N := 13) hx hb hts qin_X hown hK hP 0 rfl rfl 3 (by decide) (hts _ mw_119) (fun _ h9 => h9) rfl qd_X_joinRows_19 ?_
      refine lv_iload_n hx hb qd_X_joinRows_22 rfl (lv_at hl 2 rfl) ?_
      refine lv_iconst (v := 2) hx hb qd_X_joinRows_23 (by decide) ?_
      refine mk_calli (va_runV (As := [.int (nI i), .int 2]) (rest := []) ⟨hx, hb, hml, hown, hts⟩ (c_R_get l dC dI cA H.size (a 7) (a 8) (a 9) f1 (sw_r (jr_row V ru n3 (xt_low ma n3)) R i) hwr (nI i) 2) (cwV 2 hts gc_X_129 rfl rfl rfl (by decide +kernel) ⟨Nat.le_of_ble_eq_true rfl, Nat.le_of_ble_eq_true rfl⟩) (mk_roV hP [7, 8, 9] rfl hK (va_recv hK hP (ci := 3) (q0 := 7) rfl rfl)) rfl rfl hl.1 rfl (lv_room (Nat.le_of_ble_eq_true rfl)) qd_X_joinRows_24 ⟨(Nat.zero_le _), (Nat.zero_le _)⟩) hS hA hP (fun r_5 H locs hr_5 hP hS => ?_)
      obtain rfl : r_5 = (R[i]'hlt) 2 := Eq.trans hr_5 (sh_get_in (by omega) (by decide) hat (by decide))
      refine lv_istore_n (lv' := [(3, .int ((R[i]'hlt) 2)), (0, .ref (a 0)), (1, .int (xt_low ma n3)), (2, .int (nI i))]) hx hb qd_X_joinRows_27 rfl hl (by decide) rfl (fun ls hl => ?_)
      refine lv_aload_n hx hb qd_X_joinRows_28 rfl (lv_at hl 1 rfl) ?_
      refine va_get (D := (dC, dI)) (ci := 0) (v := .ref (a 7)) (C := qR_X) (T := qT_X) (N := 13) hx hb hts qin_X hown hK hP 0 rfl rfl 3 (by decide) (hts _ mw_119) (fun _ h9 => h9) rfl qd_X_joinRows_29 ?_
      refine lv_iload_n hx hb qd_X_joinRows_32 rfl (lv_at hl 3 rfl) ?_
      refine mk_calli (va_runV (As := [.int (nI i)]) (rest := []) ⟨hx, hb, hml, hown, hts⟩ (c_R_waits l dC dI cA H.size (a 7) (a 8) (a 9) f1 (sw_r (jr_row V ru n3 (xt_low ma n3)) R i) hwr (nI i)) (cwV 1 hts gc_X_156 rfl rfl rfl (by decide +kernel) ⟨Nat.le_of_ble_eq_true rfl, Nat.le_of_ble_eq_true rfl⟩) (mk_roV hP [7, 8, 9] rfl hK (va_recv hK hP (ci := 3) (q0 := 7) rfl rfl)) rfl rfl hl.1 rfl (lv_room (Nat.le_of_ble_eq_true rfl)) qd_X_joinRows_33 ⟨(Nat.zero_le _), (Nat.zero_le _)⟩) hS hA hP (fun r_6 H locs hr_6 hP hS => ?_)
      obtain rfl : r_6 = if (R[i]'hlt) 4 = 1 then 1 else 0 := Eq.trans hr_6 (by rw [show sh_get 12 (sw_r (jr_row V ru n3 (xt_low ma n3)) R i) (nI i) 4 = (R[i]'hlt) 4 from sh_get_in (by omega) (by decide) hat (by decide)])
      refine lv_if_eq (tgt := 63) hx hb qd_X_joinRows_36 (by decide) (fun c_7 => ?_) (fun c_7 => ?_)
      · refine lv_iinc (v := nI (i + 1)) (lv' := [(2, .int (nI (i + 1))), (3, .int ((R[i]'hlt) 2)), (0, .ref (a 0)), (1, .int (xt_low ma n3))]) hx hb qd_X_joinRows_63 hl (k := 3) rfl (mk_inc i) (by decide) rfl (fun ls hl => ?_)
        refine lv_goto (tgt := 7) hx hb qd_X_joinRows_66 (by decide) ?_
        have hcn : ¬ ((R[i]'hlt) 4 = 1 ∧ (R[i]'hlt) 2 ≤ (xt_low ma n3)) := (fun q => rs_n1 c_7 q.1)
        have eR : sw_r (jr_row V ru n3 (xt_low ma n3)) R (i + 1) = sw_r (jr_row V ru n3 (xt_low ma n3)) R i := sw_r_skip hlt (if_neg hcn)
        have eO : sw_o (jr_out V ru n3 (xt_low ma n3)) Lo R (i + 1) = sw_o (jr_out V ru n3 (xt_low ma n3)) Lo R i := by rw [sw_o_s hlt, show (jr_out V ru n3 (xt_low ma n3)) (R[i]'hlt) = [] from if_neg hcn, List.append_nil]
        have eN : sw_n (jr_d V ru n3 (xt_low ma n3)) R (i + 1) = sw_n (jr_d V ru n3 (xt_low ma n3)) R i := by rw [sw_n_s hlt, show (jr_d V ru n3 (xt_low ma n3)) (R[i]'hlt) = 0 from if_neg hcn, Nat.add_zero]
        rw [← eR] at hok1
        rw [← eO] at hok2
        rw [← eR, ← eO, ← eN] at hP hD
        exact ih_2 ((i + 1), j1, f1, f2) H locs ls ⟨⟨by omega, hok1, hok2⟩, hP, hD, hS, lv_sub hl [2, 3, 0] rfl⟩
      · refine lv_iload_n hx hb qd_X_joinRows_39 rfl (lv_at hl 0 rfl) ?_
        refine lv_iload_n hx hb qd_X_joinRows_40 rfl (lv_at hl 2 rfl) ?_
        refine lv_icmp_gt (tgt := 63) hx hb qd_X_joinRows_41 (by decide) (fun c_8 => ?_) (fun c_8 => ?_)
        · refine lv_iinc (v := nI (i + 1)) (lv' := [(2, .int (nI (i + 1))), (3, .int ((R[i]'hlt) 2)), (0, .ref (a 0)), (1, .int (xt_low ma n3))]) hx hb qd_X_joinRows_63 hl (k := 3) rfl (mk_inc i) (by decide) rfl (fun ls hl => ?_)
          refine lv_goto (tgt := 7) hx hb qd_X_joinRows_66 (by decide) ?_
          have hcn : ¬ ((R[i]'hlt) 4 = 1 ∧ (R[i]'hlt) 2 ≤ (xt_low ma n3)) := (fun q => sh_nle c_8 q.2)
          have eR : sw_r (jr_row V ru n3 (xt_low ma n3)) R (i + 1) = sw_r (jr_row V ru n3 (xt_low ma n3)) R i := sw_r_skip hlt (if_neg hcn)
          have eO : sw_o (jr_out V ru n3 (xt_low ma n3)) Lo R (i + 1) = sw_o (jr_out V ru n3 (xt_low ma n3)) Lo R i := by rw [sw_o_s hlt, show (jr_out V ru n3 (xt_low ma n3)) (R[i]'hlt) = [] from if_neg hcn, List.append_nil]
          have eN : sw_n (jr_d V ru n3 (xt_low ma n3)) R (i + 1) = sw_n (jr_d V ru n3 (xt_low ma n3)) R i := by rw [sw_n_s hlt, show (jr_d V ru n3 (xt_low ma n3)) (R[i]'hlt) = 0 from if_neg hcn, Nat.add_zero]
          rw [← eR] at hok1
          rw [← eO] at hok2
          rw [← eR, ← eO, ← eN] at hP hD
          exact ih_2 ((i + 1), j1, f1, f2) H locs ls ⟨⟨by omega, hok1, hok2⟩, hP, hD, hS, lv_sub hl [2, 3, 0] rfl⟩
        · refine lv_aload_n hx hb qd_X_joinRows_44 rfl (lv_at hl 1 rfl) ?_
          refine lv_aload_n hx hb qd_X_joinRows_45 rfl (lv_at hl 1 rfl) ?_
          refine va_get (D := (dC, dI)) (ci := 0) (v := .ref (a 7)) (C := qR_X) (T := qT_X) (N := 13) hx hb hts qin_X hown hK hP 0 rfl rfl 3 (by decide) (hts _ mw_119) (fun _ h9 => h9) rfl qd_X_joinRows_46 ?_
          refine lv_iload_n hx hb qd_X_joinRows_49 rfl (lv_at hl 3 rfl) ?_
          refine lv_iconst (v := 1) hx hb qd_X_joinRows_50 (by decide) ?_
          refine mk_calli (va_runV (As := [.int (nI i), .int 1]) (rest := [.ref (a 0)]) ⟨hx, hb, hml, hown, hts⟩ (c_R_get l dC dI cA H.size (a 7) (a 8) (a 9) f1 (sw_r (jr_row V ru n3 (xt_low ma n3)) R i) hwr (nI i) 1) (cwV 2 hts gc_X_129 rfl rfl rfl (by decide +kernel) ⟨Nat.le_of_ble_eq_true rfl, Nat.le_of_ble_eq_true rfl⟩) (mk_roV hP [7, 8, 9] rfl hK (va_recv hK hP (ci := 3) (q0 := 7) rfl rfl)) rfl rfl hl.1 rfl (lv_room (Nat.le_of_ble_eq_true rfl)) qd_X_joinRows_51 ⟨(Nat.zero_le _), (Nat.zero_le _)⟩) hS hA hP (fun r_9 H locs hr_9 hP hS => ?_)
          obtain rfl : r_9 = (R[i]'hlt) 1 := Eq.trans hr_9 (sh_get_in (by omega) (by decide) hat (by decide))
          obtain ⟨kn, hkn, ekn⟩ := hkeys i (R[i]'hlt) (List.getElem?_eq_getElem hlt)
          refine mk_rw (y := nI kn) (ekn) ?_
          refine lv_iload_n hx hb qd_X_joinRows_54 rfl (lv_at hl 0 rfl) ?_
          refine mk_mcallv (wr := []) (wf := (fun u => (wX a cA x ru ma u (gv + nI (sw_n (jr_d V ru n3 (xt_low ma n3)) R i)) tk V.length fV ((sw_r (jr_row V ru n3 (xt_low ma n3)) R i).length) f1 ((sw_o (jr_out V ru n3 (xt_low ma n3)) Lo R i).length) f2))) (va_runV (As := [.int (nI kn), .int ((R[i]'hlt) 2)]) (rest := []) ⟨hx, hb, hml, hown, hts⟩ (c_X_findJoin l dC dI cA H.size a x ru ma j1 (gv + nI (sw_n (jr_d V ru n3 (xt_low ma n3)) R i)) tk fV ((sw_r (jr_row V ru n3 (xt_low ma n3)) R i).length) f1 ((sw_o (jr_out V ru n3 (xt_low ma n3)) Lo R i).length) f2 V hV hcuts kn hkn ((R[i]'hlt) 2)) (cwV 2 hts gc_X_159 rfl rfl rfl (by decide +kernel) ⟨Nat.le_of_ble_eq_true rfl, Nat.le_of_ble_eq_true rfl⟩) (mk_muP hP hD [0, 1, 2, 3, 4, 5, 6, 7, 8, 9, 10, 11, 12] (by decide) rfl hK (va_recv hK hP (ci := 0) (q0 := 0) rfl rfl)) rfl rfl hl.1 rfl (lv_room (Nat.le_of_ble_eq_true rfl)) qd_X_joinRows_55 ⟨(Nat.zero_le _), (Nat.zero_le _)⟩) hS hA hP hD [0, 1, 2, 3, 4, 5, 6, 7, 8, 9, 10, 11, 12] [] [0, 1, 2, 3, 4, 5, 6, 7, 8, 9, 10, 11, 12] rfl rfl (by decide) (by decide) (by decide) (fun _ => rfl) (fun u_11 H locs hu_11 hP hD hS => ?_)
          obtain rfl : u_11 = (xjt V (ru 0) kn ((R[i]'hlt) 2) j1 3) := hu_11
          have hP : va_P (dC, dI) vwCl (wX a cA x ru ma (xjt V (ru 0) kn ((R[i]'hlt) 2) j1 3) (gv + nI (sw_n (jr_d V ru n3 (xt_low ma n3)) R i)) tk V.length fV ((sw_r (jr_row V ru n3 (xt_low ma n3)) R i).length) f1 ((sw_o (jr_out V ru n3 (xt_low ma n3)) Lo R i).length) f2) H := hP
          have hD : va_D A (wX a cA x ru ma (xjt V (ru 0) kn ((R[i]'hlt) 2) j1 3) (gv + nI (sw_n (jr_d V ru n3 (xt_low ma n3)) R i)) tk V.length fV ((sw_r (jr_row V ru n3 (xt_low ma n3)) R i).length) f1 ((sw_o (jr_out V ru n3 (xt_low ma n3)) Lo R i).length) f2) := hD
          refine lv_aload_n hx hb qd_X_joinRows_58 rfl (lv_at hl 1 rfl) ?_
          refine lv_iload_n hx hb qd_X_joinRows_59 rfl (lv_at hl 3 rfl) ?_
          refine mk_mcallv (wr := []) (wf := (fun u => (wX a cA x ru ma (xjt V (ru 0) kn ((R[i]'hlt) 2) j1 3) u.2.2 tk V.length fV u.1.1.length u.1.2 u.2.1.1.length u.2.1.2))) (va_runV (As := [.int (nI i)]) (rest := []) ⟨hx, hb, hml, hown, hts⟩ (c_X_takeJoin l dC dI cA H.size a x ru ma (xjt V (ru 0) kn ((R[i]'hlt) 2) j1 3) (gv + nI (sw_n (jr_d V ru n3 (xt_low ma n3)) R i)) tk V.length fV f1 f2 (sw_r (jr_row V ru n3 (xt_low ma n3)) R i) (sw_o (jr_out V ru n3 (xt_low ma n3)) Lo R i) hwr hwo (by omega) n3 hn3 h3 i (R[i]'hlt) hat) (cwV 1 hts gc_X_163 rfl rfl rfl (by decide +kernel) ⟨Nat.le_of_ble_eq_true rfl, Nat.le_of_ble_eq_true rfl⟩) (mk_muP hP hD [0, 1, 2, 3, 4, 5, 6, 7, 8, 9, 10, 11, 12] (by decide) rfl hK (va_recv hK hP (ci := 0) (q0 := 0) rfl rfl)) rfl rfl hl.1 rfl (lv_room (Nat.le_of_ble_eq_true rfl)) qd_X_joinRows_60 ⟨(Nat.zero_le _), (Nat.zero_le _)⟩) hS hA hP hD [0, 1, 2, 3, 4, 5, 6, 7, 8, 9, 10, 11, 12] [] [0, 1, 2, 3, 4, 5, 6, 7, 8, 9, 10, 11, 12] rfl rfl (by decide) (by decide) (by decide) (fun _ => rfl) (fun u_13 H locs hu_13 hP hD hS => ?_)
          obtain ⟨⟨R1, f3⟩, ⟨O1, f4⟩, g1⟩ := u_13
          obtain ⟨eR, hok3, eO, hok4, eg⟩ : R1 = (sw_r (jr_row V ru n3 (xt_low ma n3)) R i).set i (rs_jn (R[i]'hlt) (xg_b (ru 2) n3 (xjt V (ru 0) kn ((R[i]'hlt) 2) j1 3)) (xjt V (ru 0) kn ((R[i]'hlt) 2) j1 3) 6) ∧ sh_ok 12 f3 R1 ∧ O1 = sw_o (jr_out V ru n3 (xt_low ma n3)) Lo R i ++ (if (xg_b (ru 2) n3 (xjt V (ru 0) kn ((R[i]'hlt) 2) j1 3)) = 1 then [ot_rec 1 (rs_jn (R[i]'hlt) (xg_b (ru 2) n3 (xjt V (ru 0) kn ((R[i]'hlt) 2) j1 3)) (xjt V (ru 0) kn ((R[i]'hlt) 2) j1 3) 6)] else []) ∧ sh_ok 11 f4 O1 ∧ g1 = (if (xg_b (ru 2) n3 (xjt V (ru 0) kn ((R[i]'hlt) 2) j1 3)) = 1 then (gv + nI (sw_n (jr_d V ru n3 (xt_low ma n3)) R i)) + 1 else (gv + nI (sw_n (jr_d V ru n3 (xt_low ma n3)) R i))) := hu_13
          have hcy : (R[i]'hlt) 4 = 1 ∧ (R[i]'hlt) 2 ≤ (xt_low ma n3) := ⟨rs_n2 c_7, sh_le_of c_8⟩
          obtain ⟨t1, t2⟩ := jr_take (V := V) (ru := ru) (j0 := j1) h3 hkn ekn
          rw [t2, ← show (jr_row V ru n3 (xt_low ma n3)) (R[i]'hlt) = jr_t V ru n3 (R[i]'hlt) from if_pos hcy, sw_r_set hlt] at eR
          rw [t2, t1, ← show (jr_out V ru n3 (xt_low ma n3)) (R[i]'hlt) = (if jr_g V ru n3 (R[i]'hlt) = 1 then [ot_rec 1 (jr_t V ru n3 (R[i]'hlt))] else []) from if_pos hcy, ← sw_o_s hlt] at eO
          rw [t1, nI_ite_add, ← show (jr_d V ru n3 (xt_low ma n3)) (R[i]'hlt) = (if jr_g V ru n3 (R[i]'hlt) = 1 then 1 else 0) from if_pos hcy, ← sw_n_s hlt] at eg
          subst eR; subst eO; subst eg
          generalize (xjt V (ru 0) kn ((R[i]'hlt) 2) j1 3) = j2 at hP hD
          have hP : va_P (dC, dI) vwCl (wX a cA x ru ma j2 (gv + nI (sw_n (jr_d V ru n3 (xt_low ma n3)) R (i + 1))) tk V.length fV ((sw_r (jr_row V ru n3 (xt_low ma n3)) R (i + 1)).length) f3 ((sw_o (jr_out V ru n3 (xt_low ma n3)) Lo R (i + 1)).length) f4) H := hP
          have hD : va_D A (wX a cA x ru ma j2 (gv + nI (sw_n (jr_d V ru n3 (xt_low ma n3)) R (i + 1))) tk V.length fV ((sw_r (jr_row V ru n3 (xt_low ma n3)) R (i + 1)).length) f3 ((sw_o (jr_out V ru n3 (xt_low ma n3)) Lo R (i + 1)).length) f4) := hD
          refine lv_iinc (v := nI (i + 1)) (lv' := [(2, .int (nI (i + 1))), (3, .int ((R[i]'hlt) 2)), (0, .ref (a 0)), (1, .int (xt_low ma n3))]) hx hb qd_X_joinRows_63 hl (k := 3) rfl (mk_inc i) (by decide) rfl (fun ls hl => ?_)
          refine lv_goto (tgt := 7) hx hb qd_X_joinRows_66 (by decide) ?_
          exact ih_2 ((i + 1), j2, f3, f4) H locs ls ⟨⟨by omega, hok3, hok4⟩, hP, hD, hS, lv_sub hl [2, 3, 0] rfl⟩
  · obtain ⟨i, j1, f1, f2⟩ := y9
    obtain ⟨hinv, hP, hD, hS, hl⟩ := hI
    have hinv : i + 0 = R.length ∧ sh_ok 12 f1 (sw_r (jr_row V ru n3 (xt_low ma n3)) R i) ∧ sh_ok 11 f2 (sw_o (jr_out V ru n3 (xt_low ma n3)) Lo R i) := hinv
    have hP : va_P (dC, dI) vwCl (wX a cA x ru ma j1 (gv + nI (sw_n (jr_d V ru n3 (xt_low ma n3)) R i)) tk V.length fV ((sw_r (jr_row V ru n3 (xt_low ma n3)) R i).length) f1 ((sw_o (jr_out V ru n3 (xt_low ma n3)) Lo R i).length) f2) H := hP
    have hD : va_D A (wX a cA x ru ma j1 (gv + nI (sw_n (jr_d V ru n3 (xt_low ma n3)) R i)) tk V.length fV ((sw_r (jr_row V ru n3 (xt_low ma n3)) R i).length) f1 ((sw_o (jr_out V ru n3 (xt_low ma n3)) Lo R i).length) f2) := hD
    have hl : lv_has ls 4 [(0, .ref (a 0)), (1, .int (xt_low ma n3)), (2, .int (nI i))] := hl
    obtain ⟨ha, hok1, hok2⟩ := hinv
    have ei : i = R.length := by omega
    have hlr : (sw_r (jr_row V ru n3 (xt_low ma n3)) R i).length = R.length := sw_r_len (by omega)
    have hwr : sh_wf 12 96 f1 (sw_r (jr_row V ru n3 (xt_low ma n3)) R i) := ⟨hok1, by omega, by decide, by decide, by decide⟩
    refine lv_iload_n hx hb qd_X_joinRows_7 rfl (lv_at hl 2 rfl) ?_
    refine lv_aload_n hx hb qd_X_joinRows_8 rfl (lv_at hl 0 rfl) ?_
    refine va_get (D := (dC, dI)) (ci := 0) (v := .ref (a 7)) (C := qR_X) (T := qT_X) (N := 13) hx hb hts qin_X hown hK hP 0 rfl rfl 3 (by decide) (hts _ mw_119) (fun _ h9 => h9) rfl qd_X_joinRows_9 ?_
    refine mk_calli (va_runV (As := []) (rest := [.int (nI i)]) ⟨hx, hb, hml, hown, hts⟩ (c_R_size l dC dI cA H.size (a 7) (a 8) (a 9) f1 (sw_r (jr_row V ru n3 (xt_low ma n3)) R i) hwr) (cwV 0 hts gc_X_94 rfl rfl rfl (by decide +kernel) ⟨Nat.le_of_ble_eq_true rfl, Nat.le_of_ble_eq_true rfl⟩) (mk_roV hP [7, 8, 9] rfl hK (va_recv hK hP (ci := 3) (q0 := 7) rfl rfl)) rfl rfl hl.1 rfl (lv_room (Nat.le_of_ble_eq_true rfl)) qd_X_joinRows_12 ⟨(Nat.zero_le _), (Nat.zero_le _)⟩) hS hA hP (fun r_14 H locs hr_14 hP hS => ?_)
    obtain rfl : r_14 = nI R.length := Eq.trans hr_14 (congrArg nI hlr)
    refine lv_icmp_ge (tgt := 69) hx hb qd_X_joinRows_15 (by decide) (fun c_15 => ?_) (fun c_15 => ?_)
    · subst ei
      rw [sw_r_all, sw_o_all] at hP hD
      rw [sw_r_all] at hok1
      rw [sw_o_all] at hok2
      exact mk_mvret (j1, (R.map (jr_row V ru n3 (xt_low ma n3)), f1), (Lo ++ R.flatMap (jr_out V ru n3 (xt_low ma n3)), f2), (gv + nI (sw_n (jr_d V ru n3 (xt_low ma n3)) R R.length))) hx hb hr hlocks hP hK hD hS qd_X_joinRows_69 ⟨rfl, hok1, rfl, hok2, rfl⟩
    · exact absurd (nI_le (by omega) (by omega)) c_15
end
section
set_option maxHeartbeats 4000000 in
set_option maxRecDepth 100000 in
/-- correctRow(line) -/
theorem c_X_correctRow (l : Launch) (dC : Nat → ClassId) (dI : Nat → Nat → Nat) (cA : ClassId) (sz : Nat) (a : Nat → Nat) (x ru ma jo : Nat → Int32) (gv tk : Int32) (fV : Nat → Int32) (fR : Nat → Int32) (fO : Nat → Int32) (V R Lo : List (Nat → Int32)) (hV : sh_wf 3 160 fV V) (hR : sh_wf 12 96 fR R) (hO : sh_wf 11 192 fO Lo) (hcuts : ∀ pl fr, ∃ k, vs_cut V pl fr k) (n3 : Nat) (hn3 : x 6 = nI n3) (h3 : n3 ≤ 3) (i' : Nat) (r0 : Nat → Int32) (hr0 : R[i']? = some r0) (kn : Nat) (hkn : kn < 16) (ekn : r0 1 = nI kn) (hroom : Lo.length + 2 ≤ 192) : Met l qy_X_correctRow qw_X_correctRow ({ frames := 4, cells := 0, slots := 0, locals := 129 }) (mk_mu [.ref (a 0), .int (nI i')] sz (dC, dI) vwCl [(cA, .int)] (wX a cA x ru ma jo gv tk V.length fV R.length fR Lo.length fO)) (mk_muV (S := (Nat → Int32) × (List (Nat → Int32) × (Nat → Int32)) × (List (Nat → Int32) × (Nat → Int32)) × Int32 × Int32) (fun u => u.2.1.1 = R.set i' (cr_new V ru n3 r0) ∧ sh_ok 12 u.2.1.2 u.2.1.1 ∧ u.2.2.1.1 = Lo ++ (cr_o V ru n3 r0) ∧ sh_ok 11 u.2.2.1.2 u.2.2.1.1 ∧ u.2.2.2.1 = gv + nI (cr_dg V ru n3 r0) ∧ u.2.2.2.2 = tk + nI (cr_dt V ru r0)) (fun u => (wX a cA x ru ma u.1 u.2.2.2.1 u.2.2.2.2 V.length fV u.2.1.1.length u.2.1.2 u.2.2.1.1.length u.2.2.1.2)) (dC, dI) vwCl [(cA, .int)] (va_A (wX a cA x ru ma jo gv tk V.length fV R.length fR Lo.length fO) sz)) 0 0 (va_A (wX a cA x ru ma jo gv tk V.length fV R.length fR Lo.length fO) sz) := by
  refine Met.ofW (cc := qb_X_correctRow) (maxL := 2) (ret := none) (by decide) rfl ?_
  intro p e s m args below meth c s₁ B hml hpre
  obtain ⟨rfl, hsz, hP, hK, hD0⟩ := hpre
  have hx := B.exec
  have hb := B.bytes
  have hr := B.returns
  have hts0 := atoms_spec (ws := qw_X_correctRow) B.pre
  have hts := fun w (h : w ∈ lw_gd) => hts0 w (List.mem_cons_of_mem _ h)
  have hown : s.vm.findClass qR_X = some m.cls := findClass_of_methodNamed B.named
  have hlocks := B.notSynchronized
  subst hsz
  have hD := hD0.self (sz := s.heap.size)
  generalize hAe : va_A (wX a cA x ru ma jo gv tk V.length fV R.length fR Lo.length fO) s.heap.size = A at hD ⊢
  have hA : ∀ q : Nat, s.heap.size ≤ q → A q := fun q h => by rw [← hAe]; exact Or.inr h
  have hS : va_S A s.heap s.heap [] := va_S.rf
  have hl := lv_entry ([.ref (a 0), .int (nI i')]) (n := 2) (Nat.le_of_ble_eq_true rfl)
  rw [lg_entry_eq]
  generalize (lg_sl ([.ref (a 0), .int (nI i')]) ++ List.replicate (2 - (lg_sl ([.ref (a 0), .int (nI i')])).length) Slot.unset).toArray = ls at hl ⊢
  have hl : lv_has ls 2 [(0, .ref (a 0)), (1, .int (nI i'))] := hl
  have hP : va_P (dC, dI) vwCl (wX a cA x ru ma jo gv tk V.length fV R.length fR Lo.length fO) s.heap := hP
  refine mk_start (A := A) hP (fun H locs hP hS => ?_)
  obtain ⟨hok, hlen, -, -, -⟩ := id hR
  obtain ⟨hokO0, hlenO, -, -, -⟩ := id hO
  refine lv_aload_n hx hb qd_X_correctRow_0 rfl (lv_at hl 0 rfl) ?_
  refine lv_aload_n hx hb qd_X_correctRow_1 rfl (lv_at hl 0 rfl) ?_
  refine va_get (D := (dC, dI)) (ci := 0) (v := .ref (a 7)) (C := qR_X) (T := qT_X) (N := 13) hx hb hts qin_X hown hK hP 0 rfl rfl 3 (by decide) (hts _ mw_119) (fun _ h9 => h9) rfl qd_X_correctRow_2 ?_
  refine lv_iload_n hx hb qd_X_correctRow_5 rfl (lv_at hl 1 rfl) ?_
  refine lv_iconst (v := 1) hx hb qd_X_correctRow_6 (by decide) ?_
  refine mk_calli (va_runV (As := [.int (nI i'), .int 1]) (rest := [.ref (a 0)]) ⟨hx, hb, hml, hown, hts⟩ (c_R_get l dC dI cA H.size (a 7) (a 8) (a 9) fR R hR (nI i') 1) (cwV 2 hts gc_X_129 rfl rfl rfl (by decide +kernel) ⟨Nat.le_of_ble_eq_true rfl, Nat.le_of_ble_eq_true rfl⟩) (mk_roV hP [7, 8, 9] rfl hK (va_recv hK hP (ci := 3) (q0 := 7) rfl rfl)) rfl rfl hl.1 rfl (lv_room (Nat.le_of_ble_eq_true rfl)) qd_X_correctRow_7 ⟨(Nat.zero_le _), (Nat.zero_le _)⟩) hS hA hP (fun r_1 H locs hr_1 hP hS => ?_)
  obtain rfl : r_1 = r0 1 := Eq.trans hr_1 (sh_get_in (by omega) (by decide) hr0 (by decide))
  refine mk_rw (y := nI kn) (ekn) ?_
  refine lv_aload_n hx hb qd_X_correctRow_10 rfl (lv_at hl 0 rfl) ?_
  refine va_get (D := (dC, dI)) (ci := 0) (v := .ref (a 7)) (C := qR_X) (T := qT_X) (N := 13) hx hb hts qin_X hown hK hP 0 rfl rfl 3 (by decide) (hts _ mw_119) (fun _ h9 => h9) rfl qd_X_correctRow_11 ?_
  refine lv_iload_n hx hb qd_X_correctRow_14 rfl (lv_at hl 1 rfl) ?_
  refine lv_iconst (v := 2) hx hb qd_X_correctRow_15 (by decide) ?_
  refine mk_calli (va_runV (As := [.int (nI i'), .int 2]) (rest := [.int (nI kn), .ref (a 0)]) ⟨hx, hb, hml, hown, hts⟩ (c_R_get l dC dI cA H.size (a 7) (a 8) (a 9) fR R hR (nI i') 2) (cwV 2 hts gc_X_129 rfl rfl rfl (by decide +kernel) ⟨Nat.le_of_ble_eq_true rfl, Nat.le_of_ble_eq_true rfl⟩) (mk_roV hP [7, 8, 9] rfl hK (va_recv hK hP (ci := 3) (q0 := 7) rfl rfl)) rfl rfl hl.1 rfl (lv_room (Nat.le_of_ble_eq_true rfl)) qd_X_correctRow_16 ⟨(Nat.zero_le _), (Nat.zero_le _)⟩) hS hA hP (fun r_2 H locs hr_2 hP hS => ?_)
  obtain rfl : r_2 = r0 2 := Eq.trans hr_2 (sh_get_in (by omega) (by decide) hr0 (by decide))
  refine mk_mcallv (wr := []) (wf := (fun u => (wX a cA x ru ma u gv tk V.length fV R.length fR Lo.length fO))) (va_runV (As := [.int (nI kn), .int (r0 2)]) (rest := []) ⟨hx, hb, hml, hown, hts⟩ (c_X_findJoin l dC dI cA H.size a x ru ma jo gv tk fV R.length fR Lo.length fO V hV hcuts kn hkn (r0 2)) (cwV 2 hts gc_X_159 rfl rfl rfl (by decide +kernel) ⟨Nat.le_of_ble_eq_true rfl, Nat.le_of_ble_eq_true rfl⟩) (mk_muP hP hD [0, 1, 2, 3, 4, 5, 6, 7, 8, 9, 10, 11, 12] (by decide) rfl hK (va_recv hK hP (ci := 0) (q0 := 0) rfl rfl)) rfl rfl hl.1 rfl (lv_room (Nat.le_of_ble_eq_true rfl)) qd_X_correctRow_19 ⟨(Nat.zero_le _), (Nat.zero_le _)⟩) hS hA hP hD [0, 1, 2, 3, 4, 5, 6, 7, 8, 9, 10, 11, 12] [] [0, 1, 2, 3, 4, 5, 6, 7, 8, 9, 10, 11, 12] rfl rfl (by decide) (by decide) (by decide) (fun _ => rfl) (fun u_4 H locs hu_4 hP hD hS => ?_)
  obtain rfl : u_4 = (xjt V (ru 0) kn (r0 2) jo 3) := hu_4
  have hsame := cr_eq (V := V) (ru := ru) (j0 := jo) hkn ekn
  obtain ⟨t1, t2⟩ := jr_take (V := V) (ru := ru) (j0 := jo) h3 hkn ekn
  generalize (xjt V (ru 0) kn (r0 2) jo 3) = j1 at hP hD hsame t1 t2
  have hP : va_P (dC, dI) vwCl (wX a cA x ru ma j1 gv tk V.length fV R.length fR Lo.length fO) H := hP
  have hD : va_D A (wX a cA x ru ma j1 gv tk V.length fV R.length fR Lo.length fO) := hD
  refine lv_aload_n hx hb qd_X_correctRow_22 rfl (lv_at hl 0 rfl) ?_
  refine va_get (D := (dC, dI)) (ci := 0) (v := .ref (a 7)) (C := qR_X) (T := qT_X) (N := 13) hx hb hts qin_X hown hK hP 0 rfl rfl 3 (by decide) (hts _ mw_119) (fun _ h9 => h9) rfl qd_X_correctRow_23 ?_
  refine lv_iload_n hx hb qd_X_correctRow_26 rfl (lv_at hl 1 rfl) ?_
  refine lv_aload_n hx hb qd_X_correctRow_27 rfl (lv_at hl 0 rfl) ?_
  refine va_get (D := (dC, dI)) (ci := 0) (v := .ref (a 3)) (C := qR_X) (T := qT_X) (N := 13) hx hb hts qin_X hown hK hP 0 rfl rfl 5 (by decide) (hts _ mw_121) (fun _ h9 => h9) rfl qd_X_correctRow_28 ?_
  refine mk_calli (va_runV (As := [.int (nI i'), .ref (a 3)]) (rest := []) ⟨hx, hb, hml, hown, hts⟩ (c_R_hasJoin l dC dI cA H.size (a 7) (a 8) (a 9) (a 3) fR j1 R hR i' r0 hr0) (cwV 2 hts gc_X_180 rfl rfl rfl (by decide +kernel) ⟨Nat.le_of_ble_eq_true rfl, Nat.le_of_ble_eq_true rfl⟩) (mk_roV hP [7, 8, 9, 3] rfl hK (va_recv hK hP (ci := 3) (q0 := 7) rfl rfl)) rfl rfl hl.1 rfl (lv_room (Nat.le_of_ble_eq_true rfl)) qd_X_correctRow_31 ⟨(Nat.zero_le _), (Nat.zero_le _)⟩) hS hA hP (fun r_5 H locs hr_5 hP hS => ?_)
  have hr_5 : (r_5 = 1 ∧ ∀ c, c < 6 → r0 (6 + c) = j1 c) ∨ (r_5 = 0 ∧ ¬ ∀ c, c < 6 → r0 (6 + c) = j1 c) := hr_5
  refine lv_if_eq (tgt := 38) hx hb qd_X_correctRow_34 (by decide) (fun c_6 => ?_) (fun c_6 => ?_)
  · refine mk_after (σ := Nat → Int32) (fun y9 H locs ls => (sh_ok 11 y9 (Lo ++ (if r0 5 = 1 then [ot_rec 0 r0] else []))) ∧ va_P (dC, dI) vwCl (wX a cA x ru ma j1 gv (tk + nI (if r0 5 = 1 then 1 else 0)) V.length fV R.length fR ((Lo ++ (if r0 5 = 1 then [ot_rec 0 r0] else [])).length) y9) H ∧ va_D A (wX a cA x ru ma j1 gv (tk + nI (if r0 5 = 1 then 1 else 0)) V.length fV R.length fR ((Lo ++ (if r0 5 = 1 then [ot_rec 0 r0] else [])).length) y9) ∧ va_S A s.heap H locs ∧ lv_has ls 2 [(0, .ref (a 0)), (1, .int (nI i'))]) (fun ls => F0 m 62 ls []) (fun y9 H locs ls hI => ?_) (fun J_7 => ?_)
    · obtain ⟨f4, rfl⟩ : ∃ z, z = y9 := ⟨_, rfl⟩
      obtain ⟨hinv, hP, hD, hS, hl⟩ := hI
      have hinv : sh_ok 11 f4 (Lo ++ (if r0 5 = 1 then [ot_rec 0 r0] else [])) := hinv
      have hP : va_P (dC, dI) vwCl (wX a cA x ru ma j1 gv (tk + nI (if r0 5 = 1 then 1 else 0)) V.length fV R.length fR ((Lo ++ (if r0 5 = 1 then [ot_rec 0 r0] else [])).length) f4) H := hP
      have hD : va_D A (wX a cA x ru ma j1 gv (tk + nI (if r0 5 = 1 then 1 else 0)) V.length fV R.length fR ((Lo ++ (if r0 5 = 1 then [ot_rec 0 r0] else [])).length) f4) := hD
      have hl : lv_has ls 2 [(0, .ref (a 0)), (1, .int (nI i'))] := hl
      refine lv_aload_n hx hb qd_X_correctRow_62 rfl (lv_at hl 0 rfl) ?_
      refine lv_iload_n hx hb qd_X_correctRow_63 rfl (lv_at hl 1 rfl) ?_
      have hwo : sh_wf 11 192 f4 (Lo ++ (if r0 5 = 1 then [ot_rec 0 r0] else [])) := ⟨hinv, by rw [List.length_append]; have := cr_l1 r0; omega, by decide, by decide, by decide⟩
      have hwl : (Lo ++ (if r0 5 = 1 then [ot_rec 0 r0] else [])).length < 192 := by rw [List.length_append]; have := cr_l1 r0; omega
      refine mk_mcallv (wr := []) (wf := (fun u => (wX a cA x ru ma j1 u.2.2 (tk + nI (if r0 5 = 1 then 1 else 0)) V.length fV u.1.1.length u.1.2 u.2.1.1.length u.2.1.2))) (va_runV (As := [.int (nI i')]) (rest := []) ⟨hx, hb, hml, hown, hts⟩ (c_X_takeJoin l dC dI cA H.size a x ru ma j1 gv (tk + nI (if r0 5 = 1 then 1 else 0)) V.length fV fR f4 R (Lo ++ (if r0 5 = 1 then [ot_rec 0 r0] else [])) hR hwo hwl n3 hn3 h3 i' r0 hr0) (cwV 1 hts gc_X_163 rfl rfl rfl (by decide +kernel) ⟨Nat.le_of_ble_eq_true rfl, Nat.le_of_ble_eq_true rfl⟩) (mk_muP hP hD [0, 1, 2, 3, 4, 5, 6, 7, 8, 9, 10, 11, 12] (by decide) rfl hK (va_recv hK hP (ci := 0) (q0 := 0) rfl rfl)) rfl rfl hl.1 rfl (lv_room (Nat.le_of_ble_eq_true rfl)) qd_X_correctRow_64 ⟨(Nat.zero_le _), (Nat.zero_le _)⟩) hS hA hP hD [0, 1, 2, 3, 4, 5, 6, 7, 8, 9, 10, 11, 12] [] [0, 1, 2, 3, 4, 5, 6, 7, 8, 9, 10, 11, 12] rfl rfl (by decide) (by decide) (by decide) (fun _ => rfl) (fun u_9 H locs hu_9 hP hD hS => ?_)
      obtain ⟨⟨R1, f5⟩, ⟨Q1, f6⟩, g1⟩ := u_9
      obtain ⟨eR, hok5, eO, hok6, eg⟩ : R1 = R.set i' (rs_jn r0 (xg_b (ru 2) n3 j1) j1 6) ∧ sh_ok 12 f5 R1 ∧ Q1 = (Lo ++ (if r0 5 = 1 then [ot_rec 0 r0] else [])) ++ (if (xg_b (ru 2) n3 j1) = 1 then [ot_rec 1 (rs_jn r0 (xg_b (ru 2) n3 j1) j1 6)] else []) ∧ sh_ok 11 f6 Q1 ∧ g1 = (if (xg_b (ru 2) n3 j1) = 1 then gv + 1 else gv) := hu_9
      have hs : ¬ cr_s V (ru 0) r0 = true := fun q => hr_5.elim (fun z => absurd z.1 (by rw [c_6]; decide)) (fun z => z.2 (hsame.mpr q))
      rw [t2, ← show (cr_new V ru n3 r0) = jr_t V ru n3 r0 from if_neg hs] at eR
      rw [t2, t1, List.append_assoc, ← show (cr_o V ru n3 r0) = (if r0 5 = 1 then [ot_rec 0 r0] else []) ++ (if jr_g V ru n3 r0 = 1 then [ot_rec 1 (jr_t V ru n3 r0)] else []) from if_neg hs] at eO
      rw [t1, nI_ite_0, ← show (cr_dg V ru n3 r0) = (if jr_g V ru n3 r0 = 1 then 1 else 0) from if_neg hs] at eg
      rw [← show (cr_dt V ru r0) = (if r0 5 = 1 then 1 else 0) from if_neg hs] at hP hD
      subst eR; subst eO; subst eg
      have hP : va_P (dC, dI) vwCl (wX a cA x ru ma j1 (gv + nI (cr_dg V ru n3 r0)) (tk + nI (cr_dt V ru r0)) V.length fV ((R.set i' (cr_new V ru n3 r0)).length) f5 ((Lo ++ (cr_o V ru n3 r0)).length) f6) H := hP
      have hD : va_D A (wX a cA x ru ma j1 (gv + nI (cr_dg V ru n3 r0)) (tk + nI (cr_dt V ru r0)) V.length fV ((R.set i' (cr_new V ru n3 r0)).length) f5 ((Lo ++ (cr_o V ru n3 r0)).length) f6) := hD
      exact mk_mvret (j1, (R.set i' (cr_new V ru n3 r0), f5), (Lo ++ (cr_o V ru n3 r0), f6), gv + nI (cr_dg V ru n3 r0), tk + nI (cr_dt V ru r0)) hx hb hr hlocks hP hK hD hS qd_X_correctRow_67 (⟨rfl, hok5, rfl, hok6, rfl, rfl⟩)
    · refine lv_aload_n hx hb qd_X_correctRow_38 rfl (lv_at hl 0 rfl) ?_
      refine va_get (D := (dC, dI)) (ci := 0) (v := .ref (a 7)) (C := qR_X) (T := qT_X) (N := 13) hx hb hts qin_X hown hK hP 0 rfl rfl 3 (by decide) (hts _ mw_119) (fun _ h9 => h9) rfl qd_X_correctRow_39 ?_
      refine lv_iload_n hx hb qd_X_correctRow_42 rfl (lv_at hl 1 rfl) ?_
      refine mk_calli (va_runV (As := [.int (nI i')]) (rest := []) ⟨hx, hb, hml, hown, hts⟩ (c_R_wasGiven l dC dI cA H.size (a 7) (a 8) (a 9) fR R hR (nI i')) (cwV 1 hts gc_X_184 rfl rfl rfl (by decide +kernel) ⟨Nat.le_of_ble_eq_true rfl, Nat.le_of_ble_eq_true rfl⟩) (mk_roV hP [7, 8, 9] rfl hK (va_recv hK hP (ci := 3) (q0 := 7) rfl rfl)) rfl rfl hl.1 rfl (lv_room (Nat.le_of_ble_eq_true rfl)) qd_X_correctRow_43 ⟨(Nat.zero_le _), (Nat.zero_le _)⟩) hS hA hP (fun r_10 H locs hr_10 hP hS => ?_)
      obtain rfl : r_10 = if r0 5 = 1 then 1 else 0 := Eq.trans hr_10 (by rw [show sh_get 12 R (nI i') 5 = r0 5 from sh_get_in (by omega) (by decide) hr0 (by decide)])
      refine lv_if_eq (tgt := 62) hx hb qd_X_correctRow_46 (by decide) (fun c_11 => ?_) (fun c_11 => ?_)
      · have hg := rs_n1 c_11
        have hP : va_P (dC, dI) vwCl (wX a cA x ru ma j1 gv (tk + nI (if r0 5 = 1 then 1 else 0)) V.length fV R.length fR ((Lo ++ (if r0 5 = 1 then [ot_rec 0 r0] else [])).length) fO) H := by rw [if_neg hg, if_neg hg, List.append_nil, show tk + nI 0 = tk from Int32.add_zero tk]; exact hP
        have hD : va_D A (wX a cA x ru ma j1 gv (tk + nI (if r0 5 = 1 then 1 else 0)) V.length fV R.length fR ((Lo ++ (if r0 5 = 1 then [ot_rec 0 r0] else [])).length) fO) := by rw [if_neg hg, if_neg hg, List.append_nil, show tk + nI 0 = tk from Int32.add_zero tk]; exact hD
        exact J_7 fO H locs ls ⟨by rw [if_neg hg, List.append_nil]; exact hO.1, hP, hD, hS, lv_sub hl [0, 1] rfl⟩
      · refine lv_aload_n hx hb qd_X_correctRow_49 rfl (lv_at hl 0 rfl) ?_
        refine va_get (D := (dC, dI)) (ci := 0) (v := .ref (a 10)) (C := qR_X) (T := qT_X) (N := 13) hx hb hts qin_X hown hK hP 0 rfl rfl 4 (by decide) (hts _ mw_120) (fun _ h9 => h9) rfl qd_X_correctRow_50 ?_
        refine lv_iconst (v := 0) hx hb qd_X_correctRow_53 (by decide) ?_
        refine lv_aload_n hx hb qd_X_correctRow_54 rfl (lv_at hl 0 rfl) ?_
        refine va_get (D := (dC, dI)) (ci := 0) (v := .ref (a 7)) (C := qR_X) (T := qT_X) (N := 13) hx hb hts qin_X hown hK hP 0 rfl rfl 3 (by decide) (hts _ mw_119) (fun _ h9 => h9) rfl qd_X_correctRow_55 ?_
        refine lv_iload_n hx hb qd_X_correctRow_58 rfl (lv_at hl 1 rfl) ?_
        refine mk_mcallv (wr := [((a 0), .inr (0, [.ref (a 1), .ref (a 2), .ref (a 4), .ref (a 7), .ref (a 10), .ref (a 3), .int (x 6), .int (x 7), .int (x 8), .int (x 9), .int (x 10), .int (x 11), .int (x 12)])), ((a 1), .inl (cA, 4, .inl ru)), ((a 2), .inl (cA, 3, .inl ma)), ((a 3), .inl (cA, 6, .inl j1)), ((a 4), .inr (5, [.ref (a 5)])), ((a 5), .inr (4, [.int (nI 3), .int (nI 160), .ref (a 6), .int (nI V.length)])), ((a 6), .inl (cA, (3 * 160), .inl fV))]) (wf := (fun u => (wX a cA x ru ma j1 (if (0 : Int32) = 1 then gv + 1 else gv) (if (0 : Int32) = 1 then tk else tk + 1) V.length fV R.length fR u.1.length u.2))) (va_runV (As := [.int 0, .ref (a 7), .int (nI i')]) (rest := []) ⟨hx, hb, hml, hown, hts⟩ (c_O_add l dC dI cA H.size (a 10) (a 11) (a 12) (a 7) (a 8) (a 9) gv tk fO fR Lo R hO hR (by omega) 0 i' r0 hr0) (cwV 3 hts gc_X_174 rfl rfl rfl (by decide +kernel) ⟨Nat.le_of_ble_eq_true rfl, Nat.le_of_ble_eq_true rfl⟩) (mk_muP hP hD [10, 11, 12, 7, 8, 9] (by decide) rfl hK (va_recv hK hP (ci := 2) (q0 := 10) rfl rfl)) rfl rfl hl.1 rfl (lv_room (Nat.le_of_ble_eq_true rfl)) qd_X_correctRow_59 ⟨(Nat.zero_le _), (Nat.zero_le _)⟩) hS hA hP hD [10, 11, 12, 7, 8, 9] [0, 1, 2, 3, 4, 5, 6] [0, 1, 2, 3, 4, 5, 6, 10, 11, 12, 7, 8, 9] rfl rfl (by decide) (by decide) (by decide) (fun _ => rfl) (fun u_13 H locs hu_13 hP hD hS => ?_)
        obtain ⟨Q1, fO1⟩ := u_13
        obtain ⟨rfl, hokO⟩ : Q1 = Lo ++ [ot_rec 0 r0] ∧ sh_ok 11 fO1 Q1 := hu_13
        rw [if_neg (show ¬ (0 : Int32) = 1 by decide), if_neg (show ¬ (0 : Int32) = 1 by decide)] at hP hD
        have hP : va_P (dC, dI) vwCl (wX a cA x ru ma j1 gv (tk + nI 1) V.length fV R.length fR ((Lo ++ [ot_rec 0 r0]).length) fO1) H := hP
        have hD : va_D A (wX a cA x ru ma j1 gv (tk + nI 1) V.length fV R.length fR ((Lo ++ [ot_rec 0 r0]).length) fO1) := hD
        have hg := rs_n2 c_11
        have hP : va_P (dC, dI) vwCl (wX a cA x ru ma j1 gv (tk + nI (if r0 5 = 1 then 1 else 0)) V.length fV R.length fR ((Lo ++ (if r0 5 = 1 then [ot_rec 0 r0] else [])).length) fO1) H := by rw [if_pos hg, if_pos hg]; exact hP
        have hD : va_D A (wX a cA x ru ma j1 gv (tk + nI (if r0 5 = 1 then 1 else 0)) V.length fV R.length fR ((Lo ++ (if r0 5 = 1 then [ot_rec 0 r0] else [])).length) fO1) := by rw [if_pos hg, if_pos hg]; exact hD
        exact J_7 fO1 H locs ls ⟨by rw [if_pos hg]; exact hokO, hP, hD, hS, lv_sub hl [0, 1] rfl⟩
  · have hs : cr_s V (ru 0) r0 = true := hsame.mp (hr_5.elim (fun q => q.2) (fun q => absurd q.1 c_6))
    have e1 : R.set i' (cr_new V ru n3 r0) = R := by rw [show (cr_new V ru n3 r0) = r0 from if_pos hs]; exact cr_set hr0
    have e2 : Lo ++ (cr_o V ru n3 r0) = Lo := by rw [show (cr_o V ru n3 r0) = [] from if_pos hs, List.append_nil]
    have e3 : gv + nI (cr_dg V ru n3 r0) = gv := by rw [show (cr_dg V ru n3 r0) = 0 from if_pos hs]; exact Int32.add_zero gv
    have e4 : tk + nI (cr_dt V ru r0) = tk := by rw [show (cr_dt V ru r0) = 0 from if_pos hs]; exact Int32.add_zero tk
    have hP : va_P (dC, dI) vwCl (wX a cA x ru ma j1 (gv + nI (cr_dg V ru n3 r0)) (tk + nI (cr_dt V ru r0)) V.length fV ((R.set i' (cr_new V ru n3 r0)).length) fR ((Lo ++ (cr_o V ru n3 r0)).length) fO) H := by rw [e1, e2, e3, e4]; exact hP
    have hD : va_D A (wX a cA x ru ma j1 (gv + nI (cr_dg V ru n3 r0)) (tk + nI (cr_dt V ru r0)) V.length fV ((R.set i' (cr_new V ru n3 r0)).length) fR ((Lo ++ (cr_o V ru n3 r0)).length) fO) := by rw [e1, e2, e3, e4]; exact hD
    exact mk_mvret (j1, (R.set i' (cr_new V ru n3 r0), fR), (Lo ++ (cr_o V ru n3 r0), fO), gv + nI (cr_dg V ru n3 r0), tk + nI (cr_dt V ru r0)) hx hb hr hlocks hP hK hD hS qd_X_correctRow_37 ⟨rfl, by rw [e1]; exact hR.1, rfl, by rw [e2]; exact hO.1, rfl, rfl⟩
end
section
set_option maxHeartbeats 4000000 in
set_option maxRecDepth 100000 in
/-- correctRows(key) -/
theorem c_X_correctRows (l : Launch) (dC : Nat → ClassId) (dI : Nat → Nat → Nat) (cA : ClassId) (sz : Nat) (a : Nat → Nat) (x ru ma jo : Nat → Int32) (gv tk : Int32) (fV : Nat → Int32) (fR : Nat → Int32) (fO : Nat → Int32) (V R Lo : List (Nat → Int32)) (hV : sh_wf 3 160 fV V) (hR : sh_wf 12 96 fR R) (hO : sh_wf 11 192 fO Lo) (hcuts : ∀ pl fr, ∃ k, vs_cut V pl fr k) (n3 : Nat) (hn3 : x 6 = nI n3) (h3 : n3 ≤ 3) (hkeys : ∀ (i : Nat) (r : Nat → Int32), R[i]? = some r → ∃ kn, kn < 16 ∧ r 1 = nI kn) (ky : Int32) (hroom : Lo.length + 2 * R.length ≤ 192) : Met l qy_X_correctRows qw_X_correctRows ({ frames := 5, cells := 0, slots := 0, locals := 150 }) (mk_mu [.ref (a 0), .int ky] sz (dC, dI) vwCl [(cA, .int)] (wX a cA x ru ma jo gv tk V.length fV R.length fR Lo.length fO)) (mk_muV (S := (Nat → Int32) × (List (Nat → Int32) × (Nat → Int32)) × (List (Nat → Int32) × (Nat → Int32)) × Int32 × Int32) (fun u => u.2.1.1 = R.map (cw_row V ru n3 ky) ∧ sh_ok 12 u.2.1.2 u.2.1.1 ∧ u.2.2.1.1 = Lo ++ R.flatMap (cw_o V ru n3 ky) ∧ sh_ok 11 u.2.2.1.2 u.2.2.1.1 ∧ u.2.2.2.1 = gv + nI (sw_n (cw_dg V ru n3 ky) R R.length) ∧ u.2.2.2.2 = tk + nI (sw_n (cw_dt V ru ky) R R.length)) (fun u => (wX a cA x ru ma u.1 u.2.2.2.1 u.2.2.2.2 V.length fV u.2.1.1.length u.2.1.2 u.2.2.1.1.length u.2.2.1.2)) (dC, dI) vwCl [(cA, .int)] (va_A (wX a cA x ru ma jo gv tk V.length fV R.length fR Lo.length fO) sz)) 0 0 (va_A (wX a cA x ru ma jo gv tk V.length fV R.length fR Lo.length fO) sz) := by
  refine Met.ofW (cc := qb_X_correctRows) (maxL := 3) (ret := none) (by decide) rfl ?_
  intro p e s m args below meth c s₁ B hml hpre
  obtain ⟨rfl, hsz, hP, hK, hD0⟩ := hpre
  have hx := B.exec
  have hb := B.bytes
  have hr := B.returns
  have hts0 := atoms_spec (ws := qw_X_correctRows) B.pre
  have hts := fun w (h : w ∈ lw_gd) => hts0 w (List.mem_cons_of_mem _ h)
  have hown : s.vm.findClass qR_X = some m.cls := findClass_of_methodNamed B.named
  have hlocks := B.notSynchronized
  subst hsz
  have hD := hD0.self (sz := s.heap.size)
  generalize hAe : va_A (wX a cA x ru ma jo gv tk V.length fV R.length fR Lo.length fO) s.heap.size = A at hD ⊢
  have hA : ∀ q : Nat, s.heap.size ≤ q → A q := fun q h => by rw [← hAe]; exact Or.inr h
  have hS : va_S A s.heap s.heap [] := va_S.rf
  have hl := lv_entry ([.ref (a 0), .int ky]) (n := 3) (Nat.le_of_ble_eq_true rfl)
  rw [lg_entry_eq]
  generalize (lg_sl ([.ref (a 0), .int ky]) ++ List.replicate (3 - (lg_sl ([.ref (a 0), .int ky])).length) Slot.unset).toArray = ls at hl ⊢
  have hl : lv_has ls 3 [(0, .ref (a 0)), (1, .int ky)] := hl
  have hP : va_P (dC, dI) vwCl (wX a cA x ru ma jo gv tk V.length fV R.length fR Lo.length fO) s.heap := hP
  refine mk_start (A := A) hP (fun H locs hP hS => ?_)
  obtain ⟨hok, hlen, -, -, -⟩ := id hR
  obtain ⟨hokO0, hlenO, -, -, -⟩ := id hO
  refine lv_iconst (v := 0) hx hb qd_X_correctRows_0 (by decide) ?_
  refine mk_rw (y := nI 0) (rfl) ?_
  refine lv_istore_n (lv' := [(2, .int (nI 0)), (0, .ref (a 0)), (1, .int ky)]) hx hb qd_X_correctRows_1 rfl hl (by decide) rfl (fun ls hl => ?_)
  have hP : va_P (dC, dI) vwCl (wX a cA x ru ma jo (gv + nI (sw_n (cw_dg V ru n3 ky) R 0)) (tk + nI (sw_n (cw_dt V ru ky) R 0)) V.length fV ((sw_r (cw_row V ru n3 ky) R 0).length) fR ((sw_o (cw_o V ru n3 ky) Lo R 0).length) fO) H := by rw [sw_r_0, sw_o_0, sw_n_0, sw_n_0, show gv + nI 0 = gv from Int32.add_zero gv, show tk + nI 0 = tk from Int32.add_zero tk]; exact hP
  have hD : va_D A (wX a cA x ru ma jo (gv + nI (sw_n (cw_dg V ru n3 ky) R 0)) (tk + nI (sw_n (cw_dt V ru ky) R 0)) V.length fV ((sw_r (cw_row V ru n3 ky) R 0).length) fR ((sw_o (cw_o V ru n3 ky) Lo R 0).length) fO) := by rw [sw_r_0, sw_o_0, sw_n_0, sw_n_0, show gv + nI 0 = gv from Int32.add_zero gv, show tk + nI 0 = tk from Int32.add_zero tk]; exact hD
  refine mk_loop (σ := Nat × (Nat → Int32) × (Nat → Int32) × (Nat → Int32)) (fun n y9 H locs ls => (y9.1 + n = R.length ∧ sh_ok 12 y9.2.2.1 (sw_r (cw_row V ru n3 ky) R y9.1) ∧ sh_ok 11 y9.2.2.2 (sw_o (cw_o V ru n3 ky) Lo R y9.1)) ∧ va_P (dC, dI) vwCl (wX a cA x ru ma y9.2.1 (gv + nI (sw_n (cw_dg V ru n3 ky) R y9.1)) (tk + nI (sw_n (cw_dt V ru ky) R y9.1)) V.length fV ((sw_r (cw_row V ru n3 ky) R y9.1).length) y9.2.2.1 ((sw_o (cw_o V ru n3 ky) Lo R y9.1).length) y9.2.2.2) H ∧ va_D A (wX a cA x ru ma y9.2.1 (gv + nI (sw_n (cw_dg V ru n3 ky) R y9.1)) (tk + nI (sw_n (cw_dt V ru ky) R y9.1)) V.length fV ((sw_r (cw_row V ru n3 ky) R y9.1).length) y9.2.2.1 ((sw_o (cw_o V ru n3 ky) Lo R y9.1).length) y9.2.2.2) ∧ va_S A s.heap H locs ∧ lv_has ls 3 [(0, .ref (a 0)), (1, .int ky), (2, .int (nI y9.1))]) (fun ls => F0 m 2 ls []) (fun n y9 H locs ls hI ih_1 => ?_) (fun y9 H locs ls hI => ?_) R.length (0, jo, fR, fO) H locs ls ⟨⟨Nat.zero_add _, by rw [sw_r_0]; exact hR.1, by rw [sw_o_0]; exact hO.1⟩, hP, hD, hS, lv_sub hl [1, 2, 0] rfl⟩
  · obtain ⟨i, j1, f1, f2⟩ := y9
    obtain ⟨hinv, hP, hD, hS, hl⟩ := hI
    have hinv : i + (n + 1) = R.length ∧ sh_ok 12 f1 (sw_r (cw_row V ru n3 ky) R i) ∧ sh_ok 11 f2 (sw_o (cw_o V ru n3 ky) Lo R i) := hinv
    have hP : va_P (dC, dI) vwCl (wX a cA x ru ma j1 (gv + nI (sw_n (cw_dg V ru n3 ky) R i)) (tk + nI (sw_n (cw_dt V ru ky) R i)) V.length fV ((sw_r (cw_row V ru n3 ky) R i).length) f1 ((sw_o (cw_o V ru n3 ky) Lo R i).length) f2) H := hP
    have hD : va_D A (wX a cA x ru ma j1 (gv + nI (sw_n (cw_dg V ru n3 ky) R i)) (tk + nI (sw_n (cw_dt V ru ky) R i)) V.length fV ((sw_r (cw_row V ru n3 ky) R i).length) f1 ((sw_o (cw_o V ru n3 ky) Lo R i).length) f2) := hD
    have hl : lv_has ls 3 [(0, .ref (a 0)), (1, .int ky), (2, .int (nI i))] := hl
    obtain ⟨ha, hok1, hok2⟩ := hinv
    have hlt : i < R.length := by omega
    have hlr : (sw_r (cw_row V ru n3 ky) R i).length = R.length := sw_r_len (Nat.le_of_lt hlt)
    have hwr : sh_wf 12 96 f1 (sw_r (cw_row V ru n3 ky) R i) := ⟨hok1, by omega, by decide, by decide, by decide⟩
    have hat := sw_r_at (F := (cw_row V ru n3 ky)) hlt
    have hol := sw_o_len (Gx := (cw_o V ru n3 ky)) (Lo := Lo) (R := R) (k := 2) (cw_o_len V ru n3 ky) i (Nat.le_of_lt hlt)
    have hwo : sh_wf 11 192 f2 (sw_o (cw_o V ru n3 ky) Lo R i) := ⟨hok2, by omega, by decide, by decide, by decide⟩
    refine lv_iload_n hx hb qd_X_correctRows_2 rfl (lv_at hl 2 rfl) ?_
    refine lv_aload_n hx hb qd_X_correctRows_3 rfl (lv_at hl 0 rfl) ?_
    refine va_get (D := (dC, dI)) (ci := 0) (v := .ref (a 7)) (C := qR_X) (T := qT_X) (N := 13) hx hb hts qin_X hown hK hP 0 rfl rfl 3 (by decide) (hts _ mw_119) (fun _ h9 => h9) rfl qd_X_correctRows_4 ?_
    refine mk_calli (va_runV (As := []) (rest := [.int (nI i)]) ⟨hx, hb, hml, hown, hts⟩ (c_R_size l dC dI cA H.size (a 7) (a 8) (a 9) f1 (sw_r (cw_row V ru n3 ky) R i) hwr) (cwV 0 hts gc_X_94 rfl rfl rfl (by decide +kernel) ⟨Nat.le_of_ble_eq_true rfl, Nat.le_of_ble_eq_true rfl⟩) (mk_roV hP [7, 8, 9] rfl hK (va_recv hK hP (ci := 3) (q0 := 7) rfl rfl)) rfl rfl hl.1 rfl (lv_room (Nat.le_of_ble_eq_true rfl)) qd_X_correctRows_7 ⟨(Nat.zero_le _), (Nat.zero_le _)⟩) hS hA hP (fun r_2 H locs hr_2 hP hS => ?_)
    obtain rfl : r_2 = nI R.length := Eq.trans hr_2 (congrArg nI hlr)
    refine lv_icmp_ge (tgt := 48) hx hb qd_X_correctRows_10 (by decide) (fun c_3 => ?_) (fun c_3 => ?_)
    · exact absurd c_3 (nI_ge hlt (by omega))
    · refine lv_aload_n hx hb qd_X_correctRows_13 rfl (lv_at hl 0 rfl) ?_
      refine va_get (D := (dC, dI)) (ci := 0) (v := .ref (a 7)) (C := qR_X) (T := qT_X) (N := 13) hx hb hts qin_X hown hK hP 0 rfl rfl 3 (by decide) (hts _ mw_119) (fun _ h9 => h9) rfl qd_X_correctRows_14 ?_
      refine lv_iload_n hx hb qd_X_correctRows_17 rfl (lv_at hl 2 rfl) ?_
      refine lv_iconst (v := 1) hx hb qd_X_correctRows_18 (by decide) ?_
      refine mk_calli (va_runV (As := [.int (nI i), .int 1]) (rest := []) ⟨hx, hb, hml, hown, hts⟩ (c_R_get l dC dI cA H.size (a 7) (a 8) (a 9) f1 (sw_r (cw_row V ru n3 ky) R i) hwr (nI i) 1) (cwV 2 hts gc_X_129 rfl rfl rfl (by decide +kernel) ⟨Nat.le_of_ble_eq_true rfl, Nat.le_of_ble_eq_true rfl⟩) (mk_roV hP [7, 8, 9] rfl hK (va_recv hK hP (ci := 3) (q0 := 7) rfl rfl)) rfl rfl hl.1 rfl (lv_room (Nat.le_of_ble_eq_true rfl)) qd_X_correctRows_19 ⟨(Nat.zero_le _), (Nat.zero_le _)⟩) hS hA hP (fun r_4 H locs hr_4 hP hS => ?_)
      obtain rfl : r_4 = (R[i]'hlt) 1 := Eq.trans hr_4 (sh_get_in (by omega) (by decide) hat (by decide))
      refine lv_iload_n hx hb qd_X_correctRows_22 rfl (lv_at hl 1 rfl) ?_
      refine lv_icmp_ne (tgt := 42) hx hb qd_X_correctRows_23 (by decide) (fun c_5 => ?_) (fun c_5 => ?_)
      · refine lv_iinc (v := nI (i + 1)) (lv' := [(2, .int (nI (i + 1))), (0, .ref (a 0)), (1, .int ky)]) hx hb qd_X_correctRows_42 hl (k := 2) rfl (mk_inc i) (by decide) rfl (fun ls hl => ?_)
        refine lv_goto (tgt := 2) hx hb qd_X_correctRows_45 (by decide) ?_
        have hcn : ¬ cw_c ky (R[i]'hlt) = true := cw_n1 c_5
        have eR : sw_r (cw_row V ru n3 ky) R (i + 1) = sw_r (cw_row V ru n3 ky) R i := sw_r_skip hlt (if_neg hcn)
        have eO : sw_o (cw_o V ru n3 ky) Lo R (i + 1) = sw_o (cw_o V ru n3 ky) Lo R i := by rw [sw_o_s hlt, show (cw_o V ru n3 ky) (R[i]'hlt) = [] from if_neg hcn, List.append_nil]
        have eN : sw_n (cw_dg V ru n3 ky) R (i + 1) = sw_n (cw_dg V ru n3 ky) R i := by rw [sw_n_s hlt, show (cw_dg V ru n3 ky) (R[i]'hlt) = 0 from if_neg hcn, Nat.add_zero]
        have eM : sw_n (cw_dt V ru ky) R (i + 1) = sw_n (cw_dt V ru ky) R i := by rw [sw_n_s hlt, show (cw_dt V ru ky) (R[i]'hlt) = 0 from if_neg hcn, Nat.add_zero]
        rw [← eR] at hok1
        rw [← eO] at hok2
        rw [← eR, ← eO, ← eN, ← eM] at hP hD
        exact ih_1 ((i + 1), j1, f1, f2) H locs ls ⟨⟨by omega, hok1, hok2⟩, hP, hD, hS, lv_sub hl [1, 2, 0] rfl⟩
      · refine lv_aload_n hx hb qd_X_correctRows_26 rfl (lv_at hl 0 rfl) ?_
        refine va_get (D := (dC, dI)) (ci := 0) (v := .ref (a 7)) (C := qR_X) (T := qT_X) (N := 13) hx hb hts qin_X hown hK hP 0 rfl rfl 3 (by decide) (hts _ mw_119) (fun _ h9 => h9) rfl qd_X_correctRows_27 ?_
        refine lv_iload_n hx hb qd_X_correctRows_30 rfl (lv_at hl 2 rfl) ?_
        refine mk_calli (va_runV (As := [.int (nI i)]) (rest := []) ⟨hx, hb, hml, hown, hts⟩ (c_R_waits l dC dI cA H.size (a 7) (a 8) (a 9) f1 (sw_r (cw_row V ru n3 ky) R i) hwr (nI i)) (cwV 1 hts gc_X_156 rfl rfl rfl (by decide +kernel) ⟨Nat.le_of_ble_eq_true rfl, Nat.le_of_ble_eq_true rfl⟩) (mk_roV hP [7, 8, 9] rfl hK (va_recv hK hP (ci := 3) (q0 := 7) rfl rfl)) rfl rfl hl.1 rfl (lv_room (Nat.le_of_ble_eq_true rfl)) qd_X_correctRows_31 ⟨(Nat.zero_le _), (Nat.zero_le _)⟩) hS hA hP (fun r_6 H locs hr_6 hP hS => ?_)
        obtain rfl : r_6 = if (R[i]'hlt) 4 = 1 then 1 else 0 := Eq.trans hr_6 (by rw [show sh_get 12 (sw_r (cw_row V ru n3 ky) R i) (nI i) 4 = (R[i]'hlt) 4 from sh_get_in (by omega) (by decide) hat (by decide)])
        refine lv_if_ne (tgt := 42) hx hb qd_X_correctRows_34 (by decide) (fun c_7 => ?_) (fun c_7 => ?_)
        · refine lv_iinc (v := nI (i + 1)) (lv' := [(2, .int (nI (i + 1))), (0, .ref (a 0)), (1, .int ky)]) hx hb qd_X_correctRows_42 hl (k := 2) rfl (mk_inc i) (by decide) rfl (fun ls hl => ?_)
          refine lv_goto (tgt := 2) hx hb qd_X_correctRows_45 (by decide) ?_
          have hcn : ¬ cw_c ky (R[i]'hlt) = true := cw_n2 (rs_n2 c_7)
          have eR : sw_r (cw_row V ru n3 ky) R (i + 1) = sw_r (cw_row V ru n3 ky) R i := sw_r_skip hlt (if_neg hcn)
          have eO : sw_o (cw_o V ru n3 ky) Lo R (i + 1) = sw_o (cw_o V ru n3 ky) Lo R i := by rw [sw_o_s hlt, show (cw_o V ru n3 ky) (R[i]'hlt) = [] from if_neg hcn, List.append_nil]
          have eN : sw_n (cw_dg V ru n3 ky) R (i + 1) = sw_n (cw_dg V ru n3 ky) R i := by rw [sw_n_s hlt, show (cw_dg V ru n3 ky) (R[i]'hlt) = 0 from if_neg hcn, Nat.add_zero]
          have eM : sw_n (cw_dt V ru ky) R (i + 1) = sw_n (cw_dt V ru ky) R i := by rw [sw_n_s hlt, show (cw_dt V ru ky) (R[i]'hlt) = 0 from if_neg hcn, Nat.add_zero]
          rw [← eR] at hok1
          rw [← eO] at hok2
          rw [← eR, ← eO, ← eN, ← eM] at hP hD
          exact ih_1 ((i + 1), j1, f1, f2) H locs ls ⟨⟨by omega, hok1, hok2⟩, hP, hD, hS, lv_sub hl [1, 2, 0] rfl⟩
        · obtain ⟨kn, hkn, ekn⟩ := hkeys i (R[i]'hlt) (List.getElem?_eq_getElem hlt)
          refine lv_aload_n hx hb qd_X_correctRows_37 rfl (lv_at hl 0 rfl) ?_
          refine lv_iload_n hx hb qd_X_correctRows_38 rfl (lv_at hl 2 rfl) ?_
          refine mk_mcallv (wr := []) (wf := (fun u => (wX a cA x ru ma u.1 u.2.2.2.1 u.2.2.2.2 V.length fV u.2.1.1.length u.2.1.2 u.2.2.1.1.length u.2.2.1.2))) (va_runV (As := [.int (nI i)]) (rest := []) ⟨hx, hb, hml, hown, hts⟩ (c_X_correctRow l dC dI cA H.size a x ru ma j1 (gv + nI (sw_n (cw_dg V ru n3 ky) R i)) (tk + nI (sw_n (cw_dt V ru ky) R i)) fV f1 f2 V (sw_r (cw_row V ru n3 ky) R i) (sw_o (cw_o V ru n3 ky) Lo R i) hV hwr hwo hcuts n3 hn3 h3 i (R[i]'hlt) hat kn hkn ekn (by omega)) (cwV 1 hts gc_X_177 rfl rfl rfl (by decide +kernel) ⟨Nat.le_of_ble_eq_true rfl, Nat.le_of_ble_eq_true rfl⟩) (mk_muP hP hD [0, 1, 2, 3, 4, 5, 6, 7, 8, 9, 10, 11, 12] (by decide) rfl hK (va_recv hK hP (ci := 0) (q0 := 0) rfl rfl)) rfl rfl hl.1 rfl (lv_room (Nat.le_of_ble_eq_true rfl)) qd_X_correctRows_39 ⟨(Nat.zero_le _), (Nat.zero_le _)⟩) hS hA hP hD [0, 1, 2, 3, 4, 5, 6, 7, 8, 9, 10, 11, 12] [] [0, 1, 2, 3, 4, 5, 6, 7, 8, 9, 10, 11, 12] rfl rfl (by decide) (by decide) (by decide) (fun _ => rfl) (fun u_9 H locs hu_9 hP hD hS => ?_)
          obtain ⟨j2, ⟨R1, f3⟩, ⟨Q1, f4⟩, g1, k1⟩ := u_9
          obtain ⟨eR, hok3, eO, hok4, eg, ek⟩ : R1 = (sw_r (cw_row V ru n3 ky) R i).set i (cr_new V ru n3 (R[i]'hlt)) ∧ sh_ok 12 f3 R1 ∧ Q1 = sw_o (cw_o V ru n3 ky) Lo R i ++ cr_o V ru n3 (R[i]'hlt) ∧ sh_ok 11 f4 Q1 ∧ g1 = (gv + nI (sw_n (cw_dg V ru n3 ky) R i)) + nI (cr_dg V ru n3 (R[i]'hlt)) ∧ k1 = (tk + nI (sw_n (cw_dt V ru ky) R i)) + nI (cr_dt V ru (R[i]'hlt)) := hu_9
          have hcy : cw_c ky (R[i]'hlt) = true := decide_eq_true ⟨c_5, rs_n1 c_7⟩
          rw [← show (cw_row V ru n3 ky) (R[i]'hlt) = cr_new V ru n3 (R[i]'hlt) from if_pos hcy, sw_r_set hlt] at eR
          rw [← show (cw_o V ru n3 ky) (R[i]'hlt) = cr_o V ru n3 (R[i]'hlt) from if_pos hcy, ← sw_o_s hlt] at eO
          rw [← show (cw_dg V ru n3 ky) (R[i]'hlt) = cr_dg V ru n3 (R[i]'hlt) from if_pos hcy, Int32.add_assoc, nI_add, ← sw_n_s hlt] at eg
          rw [← show (cw_dt V ru ky) (R[i]'hlt) = cr_dt V ru (R[i]'hlt) from if_pos hcy, Int32.add_assoc, nI_add, ← sw_n_s hlt] at ek
          subst eR; subst eO; subst eg; subst ek
          have hP : va_P (dC, dI) vwCl (wX a cA x ru ma j2 (gv + nI (sw_n (cw_dg V ru n3 ky) R (i + 1))) (tk + nI (sw_n (cw_dt V ru ky) R (i + 1))) V.length fV ((sw_r (cw_row V ru n3 ky) R (i + 1)).length) f3 ((sw_o (cw_o V ru n3 ky) Lo R (i + 1)).length) f4) H := hP
          have hD : va_D A (wX a cA x ru ma j2 (gv + nI (sw_n (cw_dg V ru n3 ky) R (i + 1))) (tk + nI (sw_n (cw_dt V ru ky) R (i + 1))) V.length fV ((sw_r (cw_row V ru n3 ky) R (i + 1)).length) f3 ((sw_o (cw_o V ru n3 ky) Lo R (i + 1)).length) f4) := hD
          refine lv_iinc (v := nI (i + 1)) (lv' := [(2, .int (nI (i + 1))), (0, .ref (a 0)), (1, .int ky)]) hx hb qd_X_correctRows_42 hl (k := 2) rfl (mk_inc i) (by decide) rfl (fun ls hl => ?_)
          refine lv_goto (tgt := 2) hx hb qd_X_correctRows_45 (by decide) ?_
          exact ih_1 ((i + 1), j2, f3, f4) H locs ls ⟨⟨by omega, hok3, hok4⟩, hP, hD, hS, lv_sub hl [1, 2, 0] rfl⟩
  · obtain ⟨i, j1, f1, f2⟩ := y9
    obtain ⟨hinv, hP, hD, hS, hl⟩ := hI
    have hinv : i + 0 = R.length ∧ sh_ok 12 f1 (sw_r (cw_row V ru n3 ky) R i) ∧ sh_ok 11 f2 (sw_o (cw_o V ru n3 ky) Lo R i) := hinv
    have hP : va_P (dC, dI) vwCl (wX a cA x ru ma j1 (gv + nI (sw_n (cw_dg V ru n3 ky) R i)) (tk + nI (sw_n (cw_dt V ru ky) R i)) V.length fV ((sw_r (cw_row V ru n3 ky) R i).length) f1 ((sw_o (cw_o V ru n3 ky) Lo R i).length) f2) H := hP
    have hD : va_D A (wX a cA x ru ma j1 (gv + nI (sw_n (cw_dg V ru n3 ky) R i)) (tk + nI (sw_n (cw_dt V ru ky) R i)) V.length fV ((sw_r (cw_row V ru n3 ky) R i).length) f1 ((sw_o (cw_o V ru n3 ky) Lo R i).length) f2) := hD
    have hl : lv_has ls 3 [(0, .ref (a 0)), (1, .int ky), (2, .int (nI i))] := hl
    obtain ⟨ha, hok1, hok2⟩ := hinv
    have ei : i = R.length := by omega
    have hlr : (sw_r (cw_row V ru n3 ky) R i).length = R.length := sw_r_len (by omega)
    have hwr : sh_wf 12 96 f1 (sw_r (cw_row V ru n3 ky) R i) := ⟨hok1, by omega, by decide, by decide, by decide⟩
    refine lv_iload_n hx hb qd_X_correctRows_2 rfl (lv_at hl 2 rfl) ?_
    refine lv_aload_n hx hb qd_X_correctRows_3 rfl (lv_at hl 0 rfl) ?_
    refine va_get (D := (dC, dI)) (ci := 0) (v := .ref (a 7)) (C := qR_X) (T := qT_X) (N := 13) hx hb hts qin_X hown hK hP 0 rfl rfl 3 (by decide) (hts _ mw_119) (fun _ h9 => h9) rfl qd_X_correctRows_4 ?_
    refine mk_calli (va_runV (As := []) (rest := [.int (nI i)]) ⟨hx, hb, hml, hown, hts⟩ (c_R_size l dC dI cA H.size (a 7) (a 8) (a 9) f1 (sw_r (cw_row V ru n3 ky) R i) hwr) (cwV 0 hts gc_X_94 rfl rfl rfl (by decide +kernel) ⟨Nat.le_of_ble_eq_true rfl, Nat.le_of_ble_eq_true rfl⟩) (mk_roV hP [7, 8, 9] rfl hK (va_recv hK hP (ci := 3) (q0 := 7) rfl rfl)) rfl rfl hl.1 rfl (lv_room (Nat.le_of_ble_eq_true rfl)) qd_X_correctRows_7 ⟨(Nat.zero_le _), (Nat.zero_le _)⟩) hS hA hP (fun r_10 H locs hr_10 hP hS => ?_)
    obtain rfl : r_10 = nI R.length := Eq.trans hr_10 (congrArg nI hlr)
    refine lv_icmp_ge (tgt := 48) hx hb qd_X_correctRows_10 (by decide) (fun c_11 => ?_) (fun c_11 => ?_)
    · subst ei
      rw [sw_r_all, sw_o_all] at hP hD
      rw [sw_r_all] at hok1
      rw [sw_o_all] at hok2
      exact mk_mvret (j1, (R.map (cw_row V ru n3 ky), f1), (Lo ++ R.flatMap (cw_o V ru n3 ky), f2), (gv + nI (sw_n (cw_dg V ru n3 ky) R R.length)), (tk + nI (sw_n (cw_dt V ru ky) R R.length))) hx hb hr hlocks hP hK hD hS qd_X_correctRows_48 ⟨rfl, hok1, rfl, hok2, rfl, rfl⟩
    · exact absurd (nI_le (by omega) (by omega)) c_11
set_option maxHeartbeats 4000000 in
set_option maxRecDepth 100000 in
/-- begin() -/
theorem c_X_begin (l : Launch) (dC : Nat → ClassId) (dI : Nat → Nat → Nat) (cA : ClassId) (sz : Nat) (a : Nat → Nat) (x ru ma jo : Nat → Int32) (gv tk : Int32) (kV : Nat) (fV : Nat → Int32) (kR : Nat) (fR : Nat → Int32) (fO : Nat → Int32) (Lo : List (Nat → Int32)) (hO : sh_wf 11 192 fO Lo) : Met l qy_X_begin qw_X_begin ({ frames := 2, cells := 0, slots := 0, locals := 40 }) (mk_mu [.ref (a 0)] sz (dC, dI) vwCl [(cA, .int)] (wX a cA x ru ma jo gv tk kV fV kR fR Lo.length fO)) (mk_muV (S := List (Nat → Int32) × (Nat → Int32)) (fun u => u.1 = [] ∧ sh_ok 11 u.2 u.1) (fun u => (wX a cA (upd x 12 1) ru ma jo gv tk kV fV kR fR u.1.length u.2)) (dC, dI) vwCl [(cA, .int)] (va_A (wX a cA x ru ma jo gv tk kV fV kR fR Lo.length fO) sz)) 0 0 (va_A (wX a cA x ru ma jo gv tk kV fV kR fR Lo.length fO) sz) := by
  refine Met.ofW (cc := qb_X_begin) (maxL := 1) (ret := none) (by decide) rfl ?_
  intro p e s m args below meth c s₁ B hml hpre
  obtain ⟨rfl, hsz, hP, hK, hD0⟩ := hpre
  have hx := B.exec
  have hb := B.bytes
  have hr := B.returns
  have hts0 := atoms_spec (ws := qw_X_begin) B.pre
  have hts := fun w (h : w ∈ lw_gd) => hts0 w (List.mem_cons_of_mem _ h)
  have hown : s.vm.findClass qR_X = some m.cls := findClass_of_methodNamed B.named
  have hlocks := B.notSynchronized
  subst hsz
  have hD := hD0.self (sz := s.heap.size)
  generalize hAe : va_A (wX a cA x ru ma jo gv tk kV fV kR fR Lo.length fO) s.heap.size = A at hD ⊢
  have hA : ∀ q : Nat, s.heap.size ≤ q → A q := fun q h => by rw [← hAe]; exact Or.inr h
  have hS : va_S A s.heap s.heap [] := va_S.rf
  have hl := lv_entry ([.ref (a 0)]) (n := 1) (Nat.le_of_ble_eq_true rfl)
  rw [lg_entry_eq]
  generalize (lg_sl ([.ref (a 0)]) ++ List.replicate (1 - (lg_sl ([.ref (a 0)])).length) Slot.unset).toArray = ls at hl ⊢
  have hl : lv_has ls 1 [(0, .ref (a 0))] := hl
  have hP : va_P (dC, dI) vwCl (wX a cA x ru ma jo gv tk kV fV kR fR Lo.length fO) s.heap := hP
  refine mk_start (A := A) hP (fun H locs hP hS => ?_)
  refine lv_aload_n hx hb qd_X_begin_0 rfl (lv_at hl 0 rfl) ?_
  refine lv_iconst (v := 1) hx hb qd_X_begin_1 (by decide) ?_
  refine va_put (D := (dC, dI)) (ci := 0) (v := .int 1) (ty := .boolean) (C := qR_X) (T := qT_X) (N := 13) hx hb hts qin_X qty_X qtyok_X qnm_X hown hK hP hD hS 0 rfl rfl 12 (by decide) (hts _ mw_128) (fun _ h9 => h9) rfl (by decide +kernel) rfl rfl (Nat.le_of_ble_eq_true rfl) qd_X_begin_2 (fun H locs hP hD hS => ?_)
  have hP : va_P (dC, dI) vwCl (wX a cA (upd x 12 1) ru ma jo gv tk kV fV kR fR Lo.length fO) H := hP
  have hD : va_D A (wX a cA (upd x 12 1) ru ma jo gv tk kV fV kR fR Lo.length fO) := hD
  refine lv_aload_n hx hb qd_X_begin_5 rfl (lv_at hl 0 rfl) ?_
  refine va_get (D := (dC, dI)) (ci := 0) (v := .ref (a 10)) (C := qR_X) (T := qT_X) (N := 13) hx hb hts qin_X hown hK hP 0 rfl rfl 4 (by decide) (hts _ mw_120) (fun _ h9 => h9) rfl qd_X_begin_6 ?_
  refine mk_mcallv (wr := [((a 0), .inr (0, [.ref (a 1), .ref (a 2), .ref (a 4), .ref (a 7), .ref (a 10), .ref (a 3), .int (x 6), .int (x 7), .int (x 8), .int (x 9), .int (x 10), .int (x 11), .int 1])), ((a 1), .inl (cA, 4, .inl ru)), ((a 2), .inl (cA, 3, .inl ma)), ((a 3), .inl (cA, 6, .inl jo)), ((a 4), .inr (5, [.ref (a 5)])), ((a 5), .inr (4, [.int (nI 3), .int (nI 160), .ref (a 6), .int (nI kV)])), ((a 6), .inl (cA, (3 * 160), .inl fV)), ((a 7), .inr (3, [.ref (a 8)])), ((a 8), .inr (4, [.int (nI 12), .int (nI 96), .ref (a 9), .int (nI kR)])), ((a 9), .inl (cA, (12 * 96), .inl fR))]) (wf := (fun u => (wX a cA (upd x 12 1) ru ma jo gv tk kV fV kR fR u.1.length u.2))) (va_runV (As := []) (rest := []) ⟨hx, hb, hml, hown, hts⟩ (c_O_clear l dC dI cA H.size (a 10) (a 11) (a 12) gv tk fO Lo hO) (cwV 0 hts gc_X_145 rfl rfl rfl (by decide +kernel) ⟨Nat.le_of_ble_eq_true rfl, Nat.le_of_ble_eq_true rfl⟩) (mk_muP hP hD [10, 11, 12] (by decide) rfl hK (va_recv hK hP (ci := 2) (q0 := 10) rfl rfl)) rfl rfl hl.1 rfl (lv_room (Nat.le_of_ble_eq_true rfl)) qd_X_begin_9 ⟨(Nat.zero_le _), (Nat.zero_le _)⟩) hS hA hP hD [10, 11, 12] [0, 1, 2, 3, 4, 5, 6, 7, 8, 9] [0, 1, 2, 3, 4, 5, 6, 7, 8, 9, 10, 11, 12] rfl rfl (by decide) (by decide) (by decide) (fun _ => rfl) (fun u_2 H locs hu_2 hP hD hS => ?_)
  obtain ⟨Q1, f1⟩ := u_2
  obtain ⟨rfl, hok1⟩ : Q1 = [] ∧ sh_ok 11 f1 Q1 := hu_2
  have hP : va_P (dC, dI) vwCl (wX a cA (upd x 12 1) ru ma jo gv tk kV fV kR fR (([] : List (Nat → Int32)).length) f1) H := hP
  have hD : va_D A (wX a cA (upd x 12 1) ru ma jo gv tk kV fV kR fR (([] : List (Nat → Int32)).length) f1) := hD
  exact mk_mvret ([], f1) hx hb hr hlocks hP hK hD hS qd_X_begin_12 (⟨rfl, hok1⟩)
end
section
set_option maxHeartbeats 4000000 in
set_option maxRecDepth 100000 in
/-- isNeedless(line) -/
theorem c_X_isNeedless (l : Launch) (dC : Nat → ClassId) (dI : Nat → Nat → Nat) (cA : ClassId) (sz : Nat) (a : Nat → Nat) (x ru ma jo : Nat → Int32) (gv tk : Int32) (fV : Nat → Int32) (fR : Nat → Int32) (kO : Nat) (fO : Nat → Int32) (V R : List (Nat → Int32)) (hV : sh_wf 3 160 fV V) (hR : sh_wf 12 96 fR R) (i' : Nat) (r0 : Nat → Int32) (hr0 : V[i']? = some r0) (p9 : Nat) (hp : p9 < 48) (ep : r0 2 = nI p9) : Met l qy_X_isNeedless qw_X_isNeedless ({ frames := 3, cells := 0, slots := 0, locals := 70 }) (mk_ro [.ref (a 0), .int (nI i')] sz (dC, dI) vwCl [(cA, .int)] (wX a cA x ru ma jo gv tk V.length fV R.length fR kO fO)) (mk_roQ (fun r => r = if nd_b (ru 0) (x 7 - ru 3) R r0 V[i' + 1]? = true then 1 else 0) sz) 0 0 (mk_new sz) := by
  refine Met.ofW (cc := qb_X_isNeedless) (maxL := 5) (ret := (some .boolean)) (by decide) rfl ?_
  intro p e s m args below meth c s₁ B hml hpre
  obtain ⟨rfl, hsz, hP, hK⟩ := hpre
  have hx := B.exec
  have hb := B.bytes
  have hr := B.returns
  have hts0 := atoms_spec (ws := qw_X_isNeedless) B.pre
  have hts := fun w (h : w ∈ lw_gd) => hts0 w (List.mem_cons_of_mem _ h)
  have hown : s.vm.findClass qR_X = some m.cls := findClass_of_methodNamed B.named
  have hlocks := B.notSynchronized
  subst hsz
  have hA : ∀ q : Nat, s.heap.size ≤ q → mk_new s.heap.size q := fun _ h => h
  have hS : va_S (mk_new s.heap.size) s.heap s.heap [] := va_S.rf
  have hl := lv_entry ([.ref (a 0), .int (nI i')]) (n := 5) (Nat.le_of_ble_eq_true rfl)
  rw [lg_entry_eq]
  generalize (lg_sl ([.ref (a 0), .int (nI i')]) ++ List.replicate (5 - (lg_sl ([.ref (a 0), .int (nI i')])).length) Slot.unset).toArray = ls at hl ⊢
  have hl : lv_has ls 5 [(0, .ref (a 0)), (1, .int (nI i'))] := hl
  have hP : va_P (dC, dI) vwCl (wX a cA x ru ma jo gv tk V.length fV R.length fR kO fO) s.heap := hP
  refine mk_start (A := (mk_new s.heap.size)) hP (fun H locs hP hS => ?_)
  obtain ⟨hok, hlen, -, -, -⟩ := id hV
  obtain ⟨hokr, hlenr, -, -, -⟩ := id hR
  have hi' : i' < V.length := (List.getElem?_eq_some_iff.mp hr0).1
  refine lv_aload_n hx hb qd_X_isNeedless_0 rfl (lv_at hl 0 rfl) ?_
  refine va_get (D := (dC, dI)) (ci := 0) (v := .ref (a 4)) (C := qR_X) (T := qT_X) (N := 13) hx hb hts qin_X hown hK hP 0 rfl rfl 2 (by decide) (hts _ mw_118) (fun _ h9 => h9) rfl qd_X_isNeedless_1 ?_
  refine lv_iload_n hx hb qd_X_isNeedless_4 rfl (lv_at hl 1 rfl) ?_
  refine lv_iconst (v := 2) hx hb qd_X_isNeedless_5 (by decide) ?_
  refine mk_calli (va_runV (As := [.int (nI i'), .int 2]) (rest := []) ⟨hx, hb, hml, hown, hts⟩ (c_V_get l dC dI cA H.size (a 4) (a 5) (a 6) fV V hV (nI i') 2) (cwV 2 hts gc_X_125 rfl rfl rfl (by decide +kernel) ⟨Nat.le_of_ble_eq_true rfl, Nat.le_of_ble_eq_true rfl⟩) (mk_roV hP [4, 5, 6] rfl hK (va_recv hK hP (ci := 5) (q0 := 4) rfl rfl)) rfl rfl hl.1 rfl (lv_room (Nat.le_of_ble_eq_true rfl)) qd_X_isNeedless_6 ⟨(Nat.zero_le _), (Nat.zero_le _)⟩) hS hA hP (fun r_1 H locs hr_1 hP hS => ?_)
  obtain rfl : r_1 = r0 2 := Eq.trans hr_1 (sh_get_in (by omega) (by decide) hr0 (by decide))
  refine mk_rw (y := nI p9) (ep) ?_
  refine lv_istore_n (lv' := [(2, .int (nI p9)), (0, .ref (a 0)), (1, .int (nI i'))]) hx hb qd_X_isNeedless_9 rfl hl (by decide) rfl (fun ls hl => ?_)
  refine lv_aload_n hx hb qd_X_isNeedless_10 rfl (lv_at hl 1 rfl) ?_
  refine va_get (D := (dC, dI)) (ci := 0) (v := .ref (a 4)) (C := qR_X) (T := qT_X) (N := 13) hx hb hts qin_X hown hK hP 0 rfl rfl 2 (by decide) (hts _ mw_118) (fun _ h9 => h9) rfl qd_X_isNeedless_11 ?_
  refine lv_iload_n hx hb qd_X_isNeedless_14 rfl (lv_at hl 2 rfl) ?_
  refine lv_iconst (v := 1) hx hb qd_X_isNeedless_15 (by decide) ?_
  refine lv_iadd hx hb qd_X_isNeedless_16 ?_
  refine mk_rw (y := nI (i' + 1)) (nI_1 _) ?_
  refine lv_iconst (v := 2) hx hb qd_X_isNeedless_17 (by decide) ?_
  refine mk_calli (va_runV (As := [.int (nI (i' + 1)), .int 2]) (rest := []) ⟨hx, hb, hml, hown, hts⟩ (c_V_get l dC dI cA H.size (a 4) (a 5) (a 6) fV V hV (nI (i' + 1)) 2) (cwV 2 hts gc_X_125 rfl rfl rfl (by decide +kernel) ⟨Nat.le_of_ble_eq_true rfl, Nat.le_of_ble_eq_true rfl⟩) (mk_roV hP [4, 5, 6] rfl hK (va_recv hK hP (ci := 5) (q0 := 4) rfl rfl)) rfl rfl hl.1 rfl (lv_room (Nat.le_of_ble_eq_true rfl)) qd_X_isNeedless_18 ⟨(Nat.zero_le _), (Nat.zero_le _)⟩) hS hA hP (fun r_2 H locs hr_2 hP hS => ?_)
  have hr_2 : r_2 = sh_get 3 V (nI (i' + 1)) 2 := hr_2
  refine lv_iload_n hx hb qd_X_isNeedless_21 rfl (lv_at hl 0 rfl) ?_
  refine lv_icmp_eq (tgt := 27) hx hb qd_X_isNeedless_22 (by decide) (fun c_3 => ?_) (fun c_3 => ?_)
  · obtain ⟨r1, hnx, e12⟩ := nd_s (by omega) hi' (by omega) hr_2 c_3
    refine lv_aload_n hx hb qd_X_isNeedless_27 rfl (lv_at hl 1 rfl) ?_
    refine va_get (D := (dC, dI)) (ci := 0) (v := .ref (a 4)) (C := qR_X) (T := qT_X) (N := 13) hx hb hts qin_X hown hK hP 0 rfl rfl 2 (by decide) (hts _ mw_118) (fun _ h9 => h9) rfl qd_X_isNeedless_28 ?_
    refine lv_iload_n hx hb qd_X_isNeedless_31 rfl (lv_at hl 2 rfl) ?_
    refine lv_iconst (v := 0) hx hb qd_X_isNeedless_32 (by decide) ?_
    refine mk_calli (va_runV (As := [.int (nI i'), .int 0]) (rest := []) ⟨hx, hb, hml, hown, hts⟩ (c_V_get l dC dI cA H.size (a 4) (a 5) (a 6) fV V hV (nI i') 0) (cwV 2 hts gc_X_125 rfl rfl rfl (by decide +kernel) ⟨Nat.le_of_ble_eq_true rfl, Nat.le_of_ble_eq_true rfl⟩) (mk_roV hP [4, 5, 6] rfl hK (va_recv hK hP (ci := 5) (q0 := 4) rfl rfl)) rfl rfl hl.1 rfl (lv_room (Nat.le_of_ble_eq_true rfl)) qd_X_isNeedless_33 ⟨(Nat.zero_le _), (Nat.zero_le _)⟩) hS hA hP (fun r_4 H locs hr_4 hP hS => ?_)
    obtain rfl : r_4 = r0 0 := Eq.trans hr_4 (sh_get_in (by omega) (by decide) hr0 (by decide))
    refine lv_aload_n hx hb qd_X_isNeedless_36 rfl (lv_at hl 1 rfl) ?_
    refine va_get (D := (dC, dI)) (ci := 0) (v := .ref (a 1)) (C := qR_X) (T := qT_X) (N := 13) hx hb hts qin_X hown hK hP 0 rfl rfl 0 (by decide) (hts _ mw_116) (fun _ h9 => h9) rfl qd_X_isNeedless_37 ?_
    refine lv_iconst (v := 0) hx hb qd_X_isNeedless_40 (by decide) ?_
    refine va_iald (i := 0) hx hb hK hP 1 0 rfl rfl (show ¬ ((0 : Int32) < 0 ∨ 4 ≤ (0 : Int32).toNatClampNeg) from by decide) qd_X_isNeedless_41 ?_
    refine mk_rw (y := ru 0) (rfl) ?_
    refine lv_iadd hx hb qd_X_isNeedless_42 ?_
    refine lv_istore_n (lv' := [(3, .int ((r0 0) + (ru 0))), (2, .int (nI p9)), (0, .ref (a 0)), (1, .int (nI i'))]) hx hb qd_X_isNeedless_43 rfl hl (by decide) rfl (fun ls hl => ?_)
    refine lv_aload_n hx hb qd_X_isNeedless_44 rfl (lv_at hl 2 rfl) ?_
    refine va_get (D := (dC, dI)) (ci := 0) (v := .ref (a 4)) (C := qR_X) (T := qT_X) (N := 13) hx hb hts qin_X hown hK hP 0 rfl rfl 2 (by decide) (hts _ mw_118) (fun _ h9 => h9) rfl qd_X_isNeedless_45 ?_
    refine lv_iload_n hx hb qd_X_isNeedless_48 rfl (lv_at hl 3 rfl) ?_
    refine lv_iconst (v := 1) hx hb qd_X_isNeedless_49 (by decide) ?_
    refine lv_iadd hx hb qd_X_isNeedless_50 ?_
    refine mk_rw (y := nI (i' + 1)) (nI_1 _) ?_
    refine lv_iconst (v := 0) hx hb qd_X_isNeedless_51 (by decide) ?_
    refine mk_calli (va_runV (As := [.int (nI (i' + 1)), .int 0]) (rest := []) ⟨hx, hb, hml, hown, hts⟩ (c_V_get l dC dI cA H.size (a 4) (a 5) (a 6) fV V hV (nI (i' + 1)) 0) (cwV 2 hts gc_X_125 rfl rfl rfl (by decide +kernel) ⟨Nat.le_of_ble_eq_true rfl, Nat.le_of_ble_eq_true rfl⟩) (mk_roV hP [4, 5, 6] rfl hK (va_recv hK hP (ci := 5) (q0 := 4) rfl rfl)) rfl rfl hl.1 rfl (lv_room (Nat.le_of_ble_eq_true rfl)) qd_X_isNeedless_52 ⟨(Nat.zero_le _), (Nat.zero_le _)⟩) hS hA hP (fun r_5 H locs hr_5 hP hS => ?_)
    obtain rfl : r_5 = r1 0 := Eq.trans hr_5 (sh_get_in (by omega) (by decide) hnx (by decide))
    refine lv_iconst (v := 1) hx hb qd_X_isNeedless_55 (by decide) ?_
    refine lv_isub hx hb qd_X_isNeedless_56 ?_
    refine lv_aload_n hx hb qd_X_isNeedless_57 rfl (lv_at hl 2 rfl) ?_
    refine va_get (D := (dC, dI)) (ci := 0) (v := .ref (a 1)) (C := qR_X) (T := qT_X) (N := 13) hx hb hts qin_X hown hK hP 0 rfl rfl 0 (by decide) (hts _ mw_116) (fun _ h9 => h9) rfl qd_X_isNeedless_58 ?_
    refine lv_iconst (v := 0) hx hb qd_X_isNeedless_61 (by decide) ?_
    refine va_iald (i := 0) hx hb hK hP 1 0 rfl rfl (show ¬ ((0 : Int32) < 0 ∨ 4 ≤ (0 : Int32).toNatClampNeg) from by decide) qd_X_isNeedless_62 ?_
    refine mk_rw (y := ru 0) (rfl) ?_
    refine lv_iadd hx hb qd_X_isNeedless_63 ?_
    refine lv_istore (lv' := [(4, .int (((r1 0) - 1) + (ru 0))), (3, .int ((r0 0) + (ru 0))), (2, .int (nI p9)), (0, .ref (a 0)), (1, .int (nI i'))]) hx hb qd_X_isNeedless_64 hl (by decide) rfl (fun ls hl => ?_)
    refine lv_iload hx hb qd_X_isNeedless_66 (lv_at hl 0 rfl) ?_
    refine lv_aload_n hx hb qd_X_isNeedless_68 rfl (lv_at hl 3 rfl) ?_
    refine mk_calli (va_runV (As := []) (rest := [.int (((r1 0) - 1) + (ru 0))]) ⟨hx, hb, hml, hown, hts⟩ (c_X_horizon l dC dI cA H.size a x ru ma jo gv tk V.length fV R.length fR kO fO) (cwV 0 hts gc_X_109 rfl rfl rfl (by decide +kernel) ⟨Nat.le_of_ble_eq_true rfl, Nat.le_of_ble_eq_true rfl⟩) (mk_roV hP [0, 1, 2, 3, 4, 5, 6, 7, 8, 9, 10, 11, 12] rfl hK (va_recv hK hP (ci := 0) (q0 := 0) rfl rfl)) rfl rfl hl.1 rfl (lv_room (Nat.le_of_ble_eq_true rfl)) qd_X_isNeedless_69 ⟨(Nat.zero_le _), (Nat.zero_le _)⟩) hS hA hP (fun r_6 H locs hr_6 hP hS => ?_)
    obtain rfl : r_6 = x 7 - ru 3 := hr_6
    refine lv_icmp_gt (tgt := 96) hx hb qd_X_isNeedless_72 (by decide) (fun c_7 => ?_) (fun c_7 => ?_)
    · refine lv_iconst (v := 0) hx hb qd_X_isNeedless_96 (by decide) ?_
      exact mk_zret hx hb hr hlocks hS qd_X_isNeedless_97 (by decide) ((if_neg (nd_f2 hnx c_7)).symm)
    · refine lv_aload_n hx hb qd_X_isNeedless_75 rfl (lv_at hl 3 rfl) ?_
      refine va_get (D := (dC, dI)) (ci := 0) (v := .ref (a 7)) (C := qR_X) (T := qT_X) (N := 13) hx hb hts qin_X hown hK hP 0 rfl rfl 3 (by decide) (hts _ mw_119) (fun _ h9 => h9) rfl qd_X_isNeedless_76 ?_
      refine lv_iload_n hx hb qd_X_isNeedless_79 rfl (lv_at hl 2 rfl) ?_
      refine lv_bipush (v := 16) hx hb qd_X_isNeedless_80 (by decide) ?_
      refine lv_irem hx hb qd_X_isNeedless_82 (by decide) ?_
      refine mk_rw (y := nI (p9 % 16)) (pk_rem (by omega) (by decide) (by decide)) ?_
      refine lv_iload_n hx hb qd_X_isNeedless_83 rfl (lv_at hl 1 rfl) ?_
      refine lv_iload hx hb qd_X_isNeedless_84 (lv_at hl 0 rfl) ?_
      refine mk_calli (va_runV (As := [.int (nI (p9 % 16)), .int ((r0 0) + (ru 0)), .int (((r1 0) - 1) + (ru 0))]) (rest := []) ⟨hx, hb, hml, hown, hts⟩ (c_R_anyWaits l dC dI cA H.size (a 7) (a 8) (a 9) fR R hR (nI (p9 % 16)) ((r0 0) + (ru 0)) (((r1 0) - 1) + (ru 0))) (cwV 3 hts gc_X_193 rfl rfl rfl (by decide +kernel) ⟨Nat.le_of_ble_eq_true rfl, Nat.le_of_ble_eq_true rfl⟩) (mk_roV hP [7, 8, 9] rfl hK (va_recv hK hP (ci := 3) (q0 := 7) rfl rfl)) rfl rfl hl.1 rfl (lv_room (Nat.le_of_ble_eq_true rfl)) qd_X_isNeedless_86 ⟨(Nat.zero_le _), (Nat.zero_le _)⟩) hS hA hP (fun r_8 H locs hr_8 hP hS => ?_)
      have hr_8 : (r_8 = 1 ∧ ∃ (i : Nat) (rr : Nat → Int32), R[i]? = some rr ∧ rs_any (nI (p9 % 16)) (r0 0 + ru 0) (r1 0 - 1 + ru 0) rr) ∨ (r_8 = 0 ∧ ∀ (i : Nat) (rr : Nat → Int32), R[i]? = some rr → ¬ rs_any (nI (p9 % 16)) (r0 0 + ru 0) (r1 0 - 1 + ru 0) rr) := hr_8
      refine lv_if_ne (tgt := 96) hx hb qd_X_isNeedless_89 (by decide) (fun c_9 => ?_) (fun c_9 => ?_)
      · refine lv_iconst (v := 0) hx hb qd_X_isNeedless_96 (by decide) ?_
        exact mk_zret hx hb hr hlocks hS qd_X_isNeedless_97 (by decide) ((if_neg (nd_f3 (by omega) ep hnx (hr_8.elim (fun q => q.2) (fun q => absurd q.1 c_9)))).symm)
      · refine lv_iconst (v := 1) hx hb qd_X_isNeedless_92 (by decide) ?_
        refine lv_goto (tgt := 97) hx hb qd_X_isNeedless_93 (by decide) ?_
        exact mk_zret hx hb hr hlocks hS qd_X_isNeedless_97 (by decide) ((if_pos (nd_t (by omega) ep hnx e12 (sh_le_of c_7) (hr_8.elim (fun q => absurd (q.1.symm.trans c_9) (by decide)) (fun q => q.2)))).symm)
  · refine lv_iconst (v := 0) hx hb qd_X_isNeedless_25 (by decide) ?_
    exact mk_zret hx hb hr hlocks hS qd_X_isNeedless_26 (by decide) ((if_neg (nd_f1 (by omega) ep hr_2 c_3)).symm)
set_option maxHeartbeats 4000000 in
set_option maxRecDepth 100000 in
/-- dropVersions() -/
theorem c_X_dropVersions (l : Launch) (dC : Nat → ClassId) (dI : Nat → Nat → Nat) (cA : ClassId) (sz : Nat) (a : Nat → Nat) (x ru ma jo : Nat → Int32) (gv tk : Int32) (fV : Nat → Int32) (fR : Nat → Int32) (kO : Nat) (fO : Nat → Int32) (V R : List (Nat → Int32)) (hV : sh_wf 3 160 fV V) (hR : sh_wf 12 96 fR R) (hpl : ∀ (i : Nat) (r : Nat → Int32), V[i]? = some r → ∃ p9, p9 < 48 ∧ r 2 = nI p9) : Met l qy_X_dropVersions qw_X_dropVersions ({ frames := 4, cells := 0, slots := 0, locals := 103 }) (mk_mu [.ref (a 0)] sz (dC, dI) vwCl [(cA, .int)] (wX a cA x ru ma jo gv tk V.length fV R.length fR kO fO)) (mk_muV (S := (List (Nat → Int32) × (Nat → Int32))) (fun u => u.1 = dv (nd_b (ru 0) (x 7 - ru 3) R) V ∧ sh_ok 3 u.2 u.1) (fun u => (wX a cA (upd x 10 (x 10 + nI (V.length - u.1.length))) ru ma jo gv tk u.1.length u.2 R.length fR kO fO)) (dC, dI) vwCl [(cA, .int)] (va_A (wX a cA x ru ma jo gv tk V.length fV R.length fR kO fO) sz)) 0 0 (va_A (wX a cA x ru ma jo gv tk V.length fV R.length fR kO fO) sz) := by
  refine Met.ofW (cc := qb_X_dropVersions) (maxL := 3) (ret := none) (by decide) rfl ?_
  intro p e s m args below meth c s₁ B hml hpre
  obtain ⟨rfl, hsz, hP, hK, hD0⟩ := hpre
  have hx := B.exec
  have hb := B.bytes
  have hr := B.returns
  have hts0 := atoms_spec (ws := qw_X_dropVersions) B.pre
  have hts := fun w (h : w ∈ lw_gd) => hts0 w (List.mem_cons_of_mem _ h)
  have hown : s.vm.findClass qR_X = some m.cls := findClass_of_methodNamed B.named
  have hlocks := B.notSynchronized
  subst hsz
  have hD := hD0.self (sz := s.heap.size)
  generalize hAe : va_A (wX a cA x ru ma jo gv tk V.length fV R.length fR kO fO) s.heap.size = A at hD ⊢
  have hA : ∀ q : Nat, s.heap.size ≤ q → A q := fun q h => by rw [← hAe]; exact Or.inr h
  have hS : va_S A s.heap s.heap [] := va_S.rf
  have hl := lv_entry ([.ref (a 0)]) (n := 3) (Nat.le_of_ble_eq_true rfl)
  rw [lg_entry_eq]
  generalize (lg_sl ([.ref (a 0)]) ++ List.replicate (3 - (lg_sl ([.ref (a 0)])).length) Slot.unset).toArray = ls at hl ⊢
  have hl : lv_has ls 3 [(0, .ref (a 0))] := hl
  have hP : va_P (dC, dI) vwCl (wX a cA x ru ma jo gv tk V.length fV R.length fR kO fO) s.heap := hP
  refine mk_start (A := A) hP (fun H locs hP hS => ?_)
  obtain ⟨hok, hlen, -, -, -⟩ := id hV
  refine lv_iconst (v := 0) hx hb qd_X_dropVersions_0 (by decide) ?_
  refine mk_rw (y := nI ([] : List (Nat → Int32)).length) (rfl) ?_
  refine lv_istore_n (lv' := [(1, .int (nI ([] : List (Nat → Int32)).length)), (0, .ref (a 0))]) hx hb qd_X_dropVersions_1 rfl hl (by decide) rfl (fun ls hl => ?_)
  refine lv_aload_n hx hb qd_X_dropVersions_2 rfl (lv_at hl 1 rfl) ?_
  refine va_get (D := (dC, dI)) (ci := 0) (v := .ref (a 4)) (C := qR_X) (T := qT_X) (N := 13) hx hb hts qin_X hown hK hP 0 rfl rfl 2 (by decide) (hts _ mw_118) (fun _ h9 => h9) rfl qd_X_dropVersions_3 ?_
  refine mk_calli (va_runV (As := []) (rest := []) ⟨hx, hb, hml, hown, hts⟩ (c_V_size l dC dI cA H.size (a 4) (a 5) (a 6) fV V hV) (cwV 0 hts gc_X_68 rfl rfl rfl (by decide +kernel) ⟨Nat.le_of_ble_eq_true rfl, Nat.le_of_ble_eq_true rfl⟩) (mk_roV hP [4, 5, 6] rfl hK (va_recv hK hP (ci := 5) (q0 := 4) rfl rfl)) rfl rfl hl.1 rfl (lv_room (Nat.le_of_ble_eq_true rfl)) qd_X_dropVersions_6 ⟨(Nat.zero_le _), (Nat.zero_le _)⟩) hS hA hP (fun r_1 H locs hr_1 hP hS => ?_)
  obtain rfl : r_1 = nI V.length := hr_1
  refine lv_istore_n (lv' := [(2, .int (nI V.length)), (1, .int (nI ([] : List (Nat → Int32)).length)), (0, .ref (a 0))]) hx hb qd_X_dropVersions_9 rfl hl (by decide) rfl (fun ls hl => ?_)
  have hP : va_P (dC, dI) vwCl (wX a cA (upd x 10 (x 10 + nI (V.length - V.length - ([] : List (Nat → Int32)).length))) ru ma jo gv tk ((([] : List (Nat → Int32)) ++ V.drop (V.length - V.length)).length) fV R.length fR kO fO) H := by rw [Nat.sub_self, dv_x0]; exact hP
  have hD : va_D A (wX a cA (upd x 10 (x 10 + nI (V.length - V.length - ([] : List (Nat → Int32)).length))) ru ma jo gv tk ((([] : List (Nat → Int32)) ++ V.drop (V.length - V.length)).length) fV R.length fR kO fO) := by rw [Nat.sub_self, dv_x0]; exact hD
  refine mk_loop (σ := List (Nat → Int32) × (Nat → Int32)) (fun n y9 H locs ls => (n ≤ V.length ∧ y9.1.length + n ≤ V.length ∧ y9.1 ++ dv (nd_b (ru 0) (x 7 - ru 3) R) (V.drop (V.length - n)) = dv (nd_b (ru 0) (x 7 - ru 3) R) V ∧ sh_ok 3 y9.2 (y9.1 ++ V.drop (V.length - n))) ∧ va_P (dC, dI) vwCl (wX a cA (upd x 10 (x 10 + nI (V.length - n - y9.1.length))) ru ma jo gv tk ((y9.1 ++ V.drop (V.length - n)).length) y9.2 R.length fR kO fO) H ∧ va_D A (wX a cA (upd x 10 (x 10 + nI (V.length - n - y9.1.length))) ru ma jo gv tk ((y9.1 ++ V.drop (V.length - n)).length) y9.2 R.length fR kO fO) ∧ va_S A s.heap H locs ∧ lv_has ls 3 [(0, .ref (a 0)), (1, .int (nI y9.1.length)), (2, .int (nI n))]) (fun ls => F0 m 10 ls []) (fun n y9 H locs ls hI ih_2 => ?_) (fun y9 H locs ls hI => ?_) V.length ([], fV) H locs ls ⟨⟨Nat.le_refl _, Nat.le_of_eq (Nat.zero_add _), by rw [Nat.sub_self]; rfl, by rw [Nat.sub_self]; exact hV.1⟩, hP, hD, hS, lv_sub hl [2, 1, 0] rfl⟩
  · obtain ⟨K, f1⟩ := y9
    obtain ⟨hinv, hP, hD, hS, hl⟩ := hI
    have hinv : (n + 1) ≤ V.length ∧ K.length + (n + 1) ≤ V.length ∧ K ++ dv (nd_b (ru 0) (x 7 - ru 3) R) (V.drop (V.length - (n + 1))) = dv (nd_b (ru 0) (x 7 - ru 3) R) V ∧ sh_ok 3 f1 (K ++ V.drop (V.length - (n + 1))) := hinv
    have hP : va_P (dC, dI) vwCl (wX a cA (upd x 10 (x 10 + nI (V.length - (n + 1) - K.length))) ru ma jo gv tk ((K ++ V.drop (V.length - (n + 1))).length) f1 R.length fR kO fO) H := hP
    have hD : va_D A (wX a cA (upd x 10 (x 10 + nI (V.length - (n + 1) - K.length))) ru ma jo gv tk ((K ++ V.drop (V.length - (n + 1))).length) f1 R.length fR kO fO) := hD
    have hl : lv_has ls 3 [(0, .ref (a 0)), (1, .int (nI K.length)), (2, .int (nI (n + 1)))] := hl
    obtain ⟨hn1, hn2, hdv, hok1⟩ := hinv
    have hlt : V.length - (n + 1) < V.length := by omega
    have hlv : (K ++ V.drop (V.length - (n + 1))).length ≤ V.length := by rw [List.length_append, List.length_drop]; omega
    have hwv : sh_wf 3 160 f1 (K ++ V.drop (V.length - (n + 1))) := ⟨hok1, by omega, by decide, by decide, by decide⟩
    have hat := dv_at (K := K) hlt
    obtain ⟨p9, hp9, ep⟩ := hpl _ _ (List.getElem?_eq_getElem hlt)
    refine lv_iload_n hx hb qd_X_dropVersions_10 rfl (lv_at hl 2 rfl) ?_
    refine lv_if_le (tgt := 52) hx hb qd_X_dropVersions_11 (by decide) (fun c_3 => ?_) (fun c_3 => ?_)
    · exact absurd c_3 (nI_nle (Nat.succ_pos _) (by omega))
    · refine lv_aload_n hx hb qd_X_dropVersions_14 rfl (lv_at hl 0 rfl) ?_
      refine lv_iload_n hx hb qd_X_dropVersions_15 rfl (lv_at hl 1 rfl) ?_
      refine mk_calli (va_runV (As := [.int (nI K.length)]) (rest := []) ⟨hx, hb, hml, hown, hts⟩ (c_X_isNeedless l dC dI cA H.size a (upd x 10 (x 10 + nI (V.length - (n + 1) - K.length))) ru ma jo gv tk f1 fR kO fO (K ++ V.drop (V.length - (n + 1))) R hwv hR K.length (V[V.length - (n + 1)]'hlt) hat p9 hp9 ep) (cwV 1 hts gc_X_187 rfl rfl rfl (by decide +kernel) ⟨Nat.le_of_ble_eq_true rfl, Nat.le_of_ble_eq_true rfl⟩) (mk_roV hP [0, 1, 2, 3, 4, 5, 6, 7, 8, 9, 10, 11, 12] rfl hK (va_recv hK hP (ci := 0) (q0 := 0) rfl rfl)) rfl rfl hl.1 rfl (lv_room (Nat.le_of_ble_eq_true rfl)) qd_X_dropVersions_16 ⟨(Nat.zero_le _), (Nat.zero_le _)⟩) hS hA hP (fun r_4 H locs hr_4 hP hS => ?_)
      obtain rfl : r_4 = if (nd_b (ru 0) (x 7 - ru 3) R) (V[V.length - (n + 1)]'hlt) (K ++ V.drop (V.length - (n + 1)))[K.length + 1]? = true then 1 else 0 := hr_4
      refine lv_if_eq (tgt := 43) hx hb qd_X_dropVersions_19 (by decide) (fun c_5 => ?_) (fun c_5 => ?_)
      · refine lv_iinc (v := nI (K.length + 1)) (lv' := [(1, .int (nI (K.length + 1))), (0, .ref (a 0)), (2, .int (nI (n + 1)))]) hx hb qd_X_dropVersions_43 hl (k := 1) rfl (mk_inc K.length) (by decide) rfl (fun ls hl => ?_)
        refine lv_iinc (v := nI n) (lv' := [(2, .int (nI n)), (1, .int (nI (K.length + 1))), (0, .ref (a 0))]) hx hb qd_X_dropVersions_46 hl (k := 2) rfl (mk_dec n) (by decide) rfl (fun ls hl => ?_)
        refine lv_goto (tgt := 10) hx hb qd_X_dropVersions_49 (by decide) ?_
        have hnd := rs_n1 c_5
        rw [dv_nx] at hnd
        have ev := dv_keep (K := K) hlt
        rw [show V.length - (n + 1) + 1 = V.length - n by omega] at ev hnd
        have ed := dv_s2 (nd := (nd_b (ru 0) (x 7 - ru 3) R)) hlt (by rw [show V.length - (n + 1) + 1 = V.length - n by omega]; exact hnd)
        rw [show V.length - (n + 1) + 1 = V.length - n by omega] at ed
        have ek : K ++ [V[V.length - (n + 1)]'hlt] ++ dv (nd_b (ru 0) (x 7 - ru 3) R) (V.drop (V.length - n)) = dv (nd_b (ru 0) (x 7 - ru 3) R) V := by rw [← hdv, ed, List.append_assoc]; rfl
        have el : (K ++ [V[V.length - (n + 1)]'hlt]).length = K.length + 1 := by rw [List.length_append]; rfl
        rw [ev] at hok1
        have ew : V.length - (n + 1) - K.length = V.length - n - (K ++ [V[V.length - (n + 1)]'hlt]).length := by omega
        rw [ev, ew] at hP hD
        rw [← el] at hl
        exact ih_2 ((K ++ [V[V.length - (n + 1)]'hlt]), f1) H locs ls ⟨⟨by omega, (show (K ++ [V[V.length - (n + 1)]'hlt]).length + n ≤ V.length by omega), ek, hok1⟩, hP, hD, hS, lv_sub hl [2, 1, 0] rfl⟩
      · refine lv_aload_n hx hb qd_X_dropVersions_22 rfl (lv_at hl 0 rfl) ?_
        refine va_get (D := (dC, dI)) (ci := 0) (v := .ref (a 4)) (C := qR_X) (T := qT_X) (N := 13) hx hb hts qin_X hown hK hP 0 rfl rfl 2 (by decide) (hts _ mw_118) (fun _ h9 => h9) rfl qd_X_dropVersions_23 ?_
        refine lv_iload_n hx hb qd_X_dropVersions_26 rfl (lv_at hl 1 rfl) ?_
        refine mk_mcallv (wr := [((a 0), .inr (0, [.ref (a 1), .ref (a 2), .ref (a 4), .ref (a 7), .ref (a 10), .ref (a 3), .int (x 6), .int (x 7), .int (x 8), .int (x 9), .int (x 10 + nI (V.length - (n + 1) - K.length)), .int (x 11), .int (x 12)])), ((a 1), .inl (cA, 4, .inl ru)), ((a 2), .inl (cA, 3, .inl ma)), ((a 3), .inl (cA, 6, .inl jo)), ((a 7), .inr (3, [.ref (a 8)])), ((a 8), .inr (4, [.int (nI 12), .int (nI 96), .ref (a 9), .int (nI R.length)])), ((a 9), .inl (cA, (12 * 96), .inl fR)), ((a 10), .inr (2, [.ref (a 11), .int gv, .int tk])), ((a 11), .inr (4, [.int (nI 11), .int (nI 192), .ref (a 12), .int (nI kO)])), ((a 12), .inl (cA, (11 * 192), .inl fO))]) (wf := (fun u => (wX a cA (upd x 10 (x 10 + nI (V.length - (n + 1) - K.length))) ru ma jo gv tk u.1.length u.2 R.length fR kO fO))) (va_runV (As := [.int (nI K.length)]) (rest := []) ⟨hx, hb, hml, hown, hts⟩ (c_V_drop l dC dI cA H.size (a 4) (a 5) (a 6) f1 (K ++ V.drop (V.length - (n + 1))) hwv K.length ((List.getElem?_eq_some_iff.mp hat).1)) (cwV 1 hts gc_X_190 rfl rfl rfl (by decide +kernel) ⟨Nat.le_of_ble_eq_true rfl, Nat.le_of_ble_eq_true rfl⟩) (mk_muP hP hD [4, 5, 6] (by decide) rfl hK (va_recv hK hP (ci := 5) (q0 := 4) rfl rfl)) rfl rfl hl.1 rfl (lv_room (Nat.le_of_ble_eq_true rfl)) qd_X_dropVersions_27 ⟨(Nat.zero_le _), (Nat.zero_le _)⟩) hS hA hP hD [4, 5, 6] [0, 1, 2, 3, 7, 8, 9, 10, 11, 12] [0, 1, 2, 3, 10, 11, 12, 4, 5, 6, 7, 8, 9] rfl rfl (by decide) (by decide) (by decide) (fun _ => rfl) (fun u_7 H locs hu_7 hP hD hS => ?_)
        obtain ⟨V1, f2⟩ := u_7
        have hu_7 : V1 = (K ++ V.drop (V.length - (n + 1))).eraseIdx K.length ∧ sh_ok 3 f2 V1 := hu_7
        rw [dv_go hlt, show V.length - (n + 1) + 1 = V.length - n by omega] at hu_7
        obtain ⟨rfl, hok2⟩ := hu_7
        have hnd := rs_n2 c_5
        rw [dv_nx] at hnd
        have ek : K ++ dv (nd_b (ru 0) (x 7 - ru 3) R) (V.drop (V.length - n)) = dv (nd_b (ru 0) (x 7 - ru 3) R) V := by rw [← hdv, dv_s1 hlt hnd, show V.length - (n + 1) + 1 = V.length - n by omega]
        have hP : va_P (dC, dI) vwCl (wX a cA (upd x 10 (x 10 + nI (V.length - (n + 1) - K.length))) ru ma jo gv tk ((K ++ V.drop (V.length - n)).length) f2 R.length fR kO fO) H := hP
        have hD : va_D A (wX a cA (upd x 10 (x 10 + nI (V.length - (n + 1) - K.length))) ru ma jo gv tk ((K ++ V.drop (V.length - n)).length) f2 R.length fR kO fO) := hD
        refine lv_aload_n hx hb qd_X_dropVersions_30 rfl (lv_at hl 0 rfl) ?_
        refine lv_dup hx hb qd_X_dropVersions_31 rfl ?_
        refine va_get (D := (dC, dI)) (ci := 0) (v := .int (x 10 + nI (V.length - (n + 1) - K.length))) (C := qR_X) (T := qT_X) (N := 13) hx hb hts qin_X hown hK hP 0 rfl rfl 10 (by decide) (hts _ mw_126) (fun _ h9 => h9) rfl qd_X_dropVersions_32 ?_
        refine lv_iconst (v := 1) hx hb qd_X_dropVersions_35 (by decide) ?_
        refine lv_iadd hx hb qd_X_dropVersions_36 ?_
        refine mk_rw (y := x 10 + nI (V.length - n - K.length)) (by show x 10 + nI (V.length - (n + 1) - K.length) + nI 1 = _; rw [Int32.add_assoc, nI_add]; congr 2; omega) ?_
        refine va_put (D := (dC, dI)) (ci := 0) (v := .int (x 10 + nI (V.length - n - K.length))) (ty := .int) (C := qR_X) (T := qT_X) (N := 13) hx hb hts qin_X qty_X qtyok_X qnm_X hown hK hP hD hS 0 rfl rfl 10 (by decide) (hts _ mw_126) (fun _ h9 => h9) rfl (by decide +kernel) rfl rfl (Nat.le_of_ble_eq_true rfl) qd_X_dropVersions_37 (fun H locs hP hD hS => ?_)
        have hP : va_P (dC, dI) vwCl (wX a cA (upd (upd x 10 (x 10 + nI (V.length - (n + 1) - K.length))) 10 (x 10 + nI (V.length - n - K.length))) ru ma jo gv tk ((K ++ V.drop (V.length - n)).length) f2 R.length fR kO fO) H := hP
        have hD : va_D A (wX a cA (upd (upd x 10 (x 10 + nI (V.length - (n + 1) - K.length))) 10 (x 10 + nI (V.length - n - K.length))) ru ma jo gv tk ((K ++ V.drop (V.length - n)).length) f2 R.length fR kO fO) := hD
        rw [dv_xx] at hP hD
        refine lv_goto (tgt := 46) hx hb qd_X_dropVersions_40 (by decide) ?_
        refine lv_iinc (v := nI n) (lv' := [(2, .int (nI n)), (0, .ref (a 0)), (1, .int (nI K.length))]) hx hb qd_X_dropVersions_46 hl (k := 2) rfl (mk_dec n) (by decide) rfl (fun ls hl => ?_)
        refine lv_goto (tgt := 10) hx hb qd_X_dropVersions_49 (by decide) ?_
        exact ih_2 (K, f2) H locs ls ⟨⟨by omega, (show K.length + n ≤ V.length by omega), ek, hok2⟩, hP, hD, hS, lv_sub hl [1, 2, 0] rfl⟩
  · obtain ⟨K, f1⟩ := y9
    obtain ⟨hinv, hP, hD, hS, hl⟩ := hI
    have hinv : 0 ≤ V.length ∧ K.length + 0 ≤ V.length ∧ K ++ dv (nd_b (ru 0) (x 7 - ru 3) R) (V.drop (V.length - 0)) = dv (nd_b (ru 0) (x 7 - ru 3) R) V ∧ sh_ok 3 f1 (K ++ V.drop (V.length - 0)) := hinv
    have hP : va_P (dC, dI) vwCl (wX a cA (upd x 10 (x 10 + nI (V.length - 0 - K.length))) ru ma jo gv tk ((K ++ V.drop (V.length - 0)).length) f1 R.length fR kO fO) H := hP
    have hD : va_D A (wX a cA (upd x 10 (x 10 + nI (V.length - 0 - K.length))) ru ma jo gv tk ((K ++ V.drop (V.length - 0)).length) f1 R.length fR kO fO) := hD
    have hl : lv_has ls 3 [(0, .ref (a 0)), (1, .int (nI K.length)), (2, .int (nI 0))] := hl
    obtain ⟨hn1, hn2, hdv, hok1⟩ := hinv
    refine lv_iload_n hx hb qd_X_dropVersions_10 rfl (lv_at hl 2 rfl) ?_
    refine lv_if_le (tgt := 52) hx hb qd_X_dropVersions_11 (by decide) (fun c_8 => ?_) (fun c_8 => ?_)
    · rw [show V.length - 0 = V.length from rfl, List.drop_length, show dv (nd_b (ru 0) (x 7 - ru 3) R) [] = [] from rfl, List.append_nil] at hdv
      rw [show V.length - 0 = V.length from rfl, List.drop_length, List.append_nil] at hok1 hP hD
      subst hdv
      exact mk_mvret (dv (nd_b (ru 0) (x 7 - ru 3) R) V, f1) hx hb hr hlocks hP hK hD hS qd_X_dropVersions_52 ⟨rfl, hok1⟩
    · exact absurd (show nI 0 ≤ 0 from by decide) c_8
end
section
section MK5
variable {s : State} {H : Heap} {D : va_G} {cl : List vw_C} {ws wc : va_W} {tys : List (ClassId × FieldType)} {A0 : Nat → Prop}
/-- the same with words of nest mates, which are given with the start -/
def mk_muN (N : List Cond) (av : List Value) (sz : Nat) (D : va_G) (cl : List vw_C) (tys : List (ClassId × FieldType)) (ws : va_W) : Array Value → State → Prop := va_Pc av (fun U => U.heap.size = sz ∧ va_P D cl ws U.heap ∧ va_K D cl tys U ∧ va_D (fun _ => True) ws ∧ ∀ w ∈ N, va_Nw w U)
def mk_roN (N : List Cond) (av : List Value) (sz : Nat) (D : va_G) (cl : List vw_C) (tys : List (ClassId × FieldType)) (ws : va_W) : Array Value → State → Prop := va_Pc av (fun U => U.heap.size = sz ∧ va_P D cl ws U.heap ∧ va_K D cl tys U ∧ ∀ w ∈ N, va_Nw w U)
theorem mk_muN_blind {N : List Cond} {av : List Value} {sz : Nat} (hN : ∀ w ∈ N, w.onTables = true) : FrameBlind (mk_muN N av sz D cl tys ws) := fun a U g mk q => by
  obtain ⟨q0, q1, qP, qK, qD, qN⟩ := q
  exact ⟨q0, q1, qP, va_K.moved (u := U) (U := U.calling g mk a) (Vm.Alike.refl U.vm) qK, qD, fun w hw => va_Nw.same (u := U) (hN w hw) rfl (qN w hw)⟩
theorem mk_roN_blind {N : List Cond} {av : List Value} {sz : Nat} (hN : ∀ w ∈ N, w.onTables = true) : FrameBlind (mk_roN N av sz D cl tys ws) := fun a U g mk q => by
  obtain ⟨q0, q1, qP, qK, qN⟩ := q
  exact ⟨q0, q1, qP, va_K.moved (u := U) (U := U.calling g mk a) (Vm.Alike.refl U.vm) qK, fun w hw => va_Nw.same (u := U) (hN w hw) rfl (qN w hw)⟩
theorem mk_muNI {N : List Cond} {As : List Value} (hN : ∀ w ∈ N, w.onTables = true) (hP : va_P D cl ws H) (hD : va_D A0 ws) (is : List Nat) (hn : va_nd is = true) (hs : is.map (fun i => ws[i]?) = wc.map some) (hK : va_K D cl tys s) (hZ : ∀ U : State, s.WarmedH U.vm → ∀ w ∈ N, va_Nw w U) : PreS s H (mk_muN N As H.size D cl tys wc) As :=
  ⟨mk_muN_blind hN, fun U hU hW => ⟨rfl, by rw [hU], by rw [hU]; exact mk_Psub hP is hs, va_K.moved hW.alike hK, (hD.sub is hn hs).weaken (fun _ _ _ _ => trivial), hZ U hW⟩⟩
theorem mk_roNV {N : List Cond} {C : String} {b : Addr} {As : List Value} (hN : ∀ w ∈ N, w.onTables = true) (hP : va_P D cl ws H) (is : List Nat) (hs : is.map (fun i => ws[i]?) = wc.map some) (hK : va_K D cl tys s) (hZ : ∀ U : State, s.WarmedH U.vm → ∀ w ∈ N, va_Nw w U) (hrecv : ∃ cell : Cell, H[b]? = some cell ∧ cell.vm.isStatics = false ∧ s.vm.findClass C = some cell.cls) : PreV s H C b (mk_roN N (.ref b :: As) H.size D cl tys wc) As :=
  ⟨mk_roN_blind hN, hrecv, fun U hU hW => ⟨rfl, by rw [hU], by rw [hU]; exact mk_Psub hP is hs, va_K.moved hW.alike hK, hZ U hW⟩⟩
end MK5
end
section
set_option maxHeartbeats 4000000 in
set_option maxRecDepth 100000 in
/-- Sheet(width, limit) -/
theorem c_Sh_init (l : Launch) (dC : Nat → ClassId) (dI : Nat → Nat → Nat) (cA : ClassId) (sz : Nat) (h w lim : Nat) (hw1 : 1 ≤ w) (hw2 : w < 2 ^ 20) (hl2 : lim < 2 ^ 20) (hwl : w * lim < 2 ^ 20) : Met l qy_S_init qw_S_init ({ frames := 1, cells := 1, slots := (w * lim), locals := 14 }) (mk_mu [.ref h, .int (nI w), .int (nI lim)] sz (dC, dI) vwCl [(cA, .int)] [(h, .inr (4, [.int 0, .int 0, .null, .int 0]))]) (mk_muV (S := Nat) (fun _ => True) (fun u => wS h u cA w lim 0 (fun _ => 0)) (dC, dI) vwCl [(cA, .int)] (va_A [(h, .inr (4, [.int 0, .int 0, .null, .int 0]))] sz)) 1 (w * lim) (va_A [(h, .inr (4, [.int 0, .int 0, .null, .int 0]))] sz) := by
  refine Met.ofW (cc := qb_S_init) (maxL := 3) (ret := none) (by decide) rfl ?_
  intro p e s m args below meth c s₁ B hml hpre
  obtain ⟨rfl, hsz, hP, hK, hD0⟩ := hpre
  have hx := B.exec
  have hb := B.bytes
  have hr := B.returns
  have hts0 := atoms_spec (ws := qw_S_init) B.pre
  have hts := fun w (h : w ∈ lw_gd) => hts0 w (List.mem_cons_of_mem _ h)
  have hown : s.vm.findClass qR_S = some m.cls := findClass_of_methodNamed B.named
  have hlocks := B.notSynchronized
  have hin : meth.name = "<init>" := (name_of_methodNamed B.named B.method).1
  subst hsz
  have hD := hD0.self (sz := s.heap.size)
  generalize hAe : va_A [(h, .inr (4, [.int 0, .int 0, .null, .int 0]))] s.heap.size = A at hD ⊢
  have hA : ∀ q : Nat, s.heap.size ≤ q → A q := fun q h => by rw [← hAe]; exact Or.inr h
  have hS : va_S A s.heap s.heap [] := va_S.rf
  have hl := lv_entry ([.ref h, .int (nI w), .int (nI lim)]) (n := 3) (Nat.le_of_ble_eq_true rfl)
  rw [lg_entry_eq]
  generalize (lg_sl ([.ref h, .int (nI w), .int (nI lim)]) ++ List.replicate (3 - (lg_sl ([.ref h, .int (nI w), .int (nI lim)])).length) Slot.unset).toArray = ls at hl ⊢
  have hl : lv_has ls 3 [(0, .ref h), (1, .int (nI w)), (2, .int (nI lim))] := hl
  have hP : va_P (dC, dI) vwCl [(h, .inr (4, [.int 0, .int 0, .null, .int 0]))] s.heap := hP
  refine mk_start (A := A) hP (fun H locs hP hS => ?_)
  refine lv_aload_n hx hb qd_S_init_0 rfl (lv_at hl 0 rfl) ?_
  refine W.objInit hx hb hown (hts _ mw_62) (hts _ mw_49) (hts _ mw_50) rfl (by rw [hml]; exact hl.1) rfl qd_S_init_1 (Nat.le_of_ble_eq_true rfl) (Nat.le_of_ble_eq_true rfl) ?_
  refine W.eq (g2 := F0 m 4 ls []) rfl ?_
  refine lv_aload_n hx hb qd_S_init_4 rfl (lv_at hl 0 rfl) ?_
  refine lv_iconst (v := 1) hx hb qd_S_init_5 (by decide) ?_
  refine lv_iload_n hx hb qd_S_init_6 rfl (lv_at hl 1 rfl) ?_
  refine va_mmax hx hb (hml.trans hl.1.symm) hown (hts _ mw_63) (hts _ mw_64) (hts _ mw_38) (hts _ mw_65) (Nat.le_of_ble_eq_true rfl) (Nat.le_of_ble_eq_true rfl) (Nat.zero_le _) (Nat.zero_le _) qd_S_init_7 ?_
  refine mk_rw (y := nI w) (mk_mx1 hw1 (by omega)) ?_
  refine va_putF (D := (dC, dI)) (ci := 4) (v := .int (nI w)) (ty := .int) (C := qR_S) (T := qT_S) (N := 4) hx hb hts qin_S qty_S qtyok_S qnm_S hown hK hP hD hS 0 rfl rfl 0 (by decide) (hts _ mw_66) (fun _ h9 => h9) rfl hin rfl (by decide +kernel) rfl rfl (Nat.le_of_ble_eq_true rfl) qd_S_init_10 (fun H locs hP hD hS => ?_)
  have hP : va_P (dC, dI) vwCl [(h, .inr (4, [.int (nI w), .int 0, .null, .int 0]))] H := hP
  have hD : va_D A [(h, .inr (4, [.int (nI w), .int 0, .null, .int 0]))] := hD
  refine lv_aload_n hx hb qd_S_init_13 rfl (lv_at hl 0 rfl) ?_
  refine lv_iconst (v := 0) hx hb qd_S_init_14 (by decide) ?_
  refine lv_iload_n hx hb qd_S_init_15 rfl (lv_at hl 2 rfl) ?_
  refine va_mmax hx hb (hml.trans hl.1.symm) hown (hts _ mw_63) (hts _ mw_64) (hts _ mw_38) (hts _ mw_65) (Nat.le_of_ble_eq_true rfl) (Nat.le_of_ble_eq_true rfl) (Nat.zero_le _) (Nat.zero_le _) qd_S_init_16 ?_
  refine mk_rw (y := nI lim) (mk_mx0 (by omega)) ?_
  refine va_putF (D := (dC, dI)) (ci := 4) (v := .int (nI lim)) (ty := .int) (C := qR_S) (T := qT_S) (N := 4) hx hb hts qin_S qty_S qtyok_S qnm_S hown hK hP hD hS 0 rfl rfl 1 (by decide) (hts _ mw_67) (fun _ h9 => h9) rfl hin rfl (by decide +kernel) rfl rfl (Nat.le_of_ble_eq_true rfl) qd_S_init_19 (fun H locs hP hD hS => ?_)
  have hP : va_P (dC, dI) vwCl [(h, .inr (4, [.int (nI w), .int (nI lim), .null, .int 0]))] H := hP
  have hD : va_D A [(h, .inr (4, [.int (nI w), .int (nI lim), .null, .int 0]))] := hD
  refine lv_aload_n hx hb qd_S_init_22 rfl (lv_at hl 0 rfl) ?_
  refine lv_aload_n hx hb qd_S_init_23 rfl (lv_at hl 0 rfl) ?_
  refine va_get (D := (dC, dI)) (ci := 4) (v := .int (nI w)) (C := qR_S) (T := qT_S) (N := 4) hx hb hts qin_S hown hK hP 0 rfl rfl 0 (by decide) (hts _ mw_66) (fun _ h9 => h9) rfl qd_S_init_24 ?_
  refine lv_aload_n hx hb qd_S_init_27 rfl (lv_at hl 0 rfl) ?_
  refine va_get (D := (dC, dI)) (ci := 4) (v := .int (nI lim)) (C := qR_S) (T := qT_S) (N := 4) hx hb hts qin_S hown hK hP 0 rfl rfl 1 (by decide) (hts _ mw_67) (fun _ h9 => h9) rfl qd_S_init_28 ?_
  refine lv_imul hx hb qd_S_init_31 ?_
  refine mk_rw (y := nI (w * lim)) (pk_mul _ _) ?_
  refine va_newa (atype := .int) (n := (nI (w * lim))) (N' := (w * lim)) (a0 := ((w * lim), .inl (fun _ => 0))) hx hb (hts _ mw_79) rfl hK hP hD hS hA (fun _ => rfl) (nI_pos (by omega)) (nI_clamp (by omega)) (by show w * lim * 4 ≤ 536870912; omega) (by first | exact Nat.le_of_ble_eq_true rfl | omega) (by first | exact Nat.le_of_ble_eq_true rfl | exact Nat.le_of_eq (Nat.zero_add _) | omega) qd_S_init_32 (fun b cB H hKB hP hD hS => ?_)
  obtain rfl := mk_cA hKB
  clear hKB
  have hP : va_P (dC, dI) vwCl [(h, .inr (4, [.int (nI w), .int (nI lim), .null, .int 0])), (b, .inl (cA, (w * lim), .inl (fun _ => 0)))] H := hP
  have hD : va_D A [(h, .inr (4, [.int (nI w), .int (nI lim), .null, .int 0])), (b, .inl (cA, (w * lim), .inl (fun _ => 0)))] := hD
  refine W.widen (k := 1) (n := (w * lim)) (by first | exact Nat.le_of_ble_eq_true rfl | omega) (by first | exact Nat.le_of_ble_eq_true rfl | exact Nat.le_of_eq (Nat.zero_add _) | omega) ?_
  refine va_putF (D := (dC, dI)) (ci := 4) (v := .ref b) (ty := (.array .int)) (C := qR_S) (T := qT_S) (N := 4) hx hb hts qin_S qty_S qtyok_S qnm_S hown hK hP hD hS 0 rfl rfl 2 (by decide) (hts _ mw_68) (fun _ h9 => h9) rfl hin rfl (by decide +kernel) rfl rfl (Nat.le_of_ble_eq_true rfl) qd_S_init_34 (fun H locs hP hD hS => ?_)
  have hP : va_P (dC, dI) vwCl [(h, .inr (4, [.int (nI w), .int (nI lim), .ref b, .int 0])), (b, .inl (cA, (w * lim), .inl (fun _ => 0)))] H := hP
  have hD : va_D A [(h, .inr (4, [.int (nI w), .int (nI lim), .ref b, .int 0])), (b, .inl (cA, (w * lim), .inl (fun _ => 0)))] := hD
  exact mk_mvret b hx hb hr hlocks hP hK hD hS qd_S_init_37 (trivial)
set_option maxHeartbeats 4000000 in
set_option maxRecDepth 100000 in
/-- AsOfJoins$Versions() -/
theorem c_V_init (l : Launch) (dC : Nat → ClassId) (dI : Nat → Nat → Nat) (cA : ClassId) (sz : Nat) (o : Nat) : Met l qy_V_init qw_V_init ({ frames := 2, cells := 2, slots := 484, locals := 36 }) (mk_mu [.ref o] sz (dC, dI) vwCl [(cA, .int)] [(o, .inr (5, [.null]))]) (mk_muV (S := Nat × Nat) (fun _ => True) (fun u => wV o u.1 u.2 cA 0 (fun _ => 0)) (dC, dI) vwCl [(cA, .int)] (va_A [(o, .inr (5, [.null]))] sz)) 2 484 (va_A [(o, .inr (5, [.null]))] sz) := by
  refine Met.ofW (cc := qb_V_init) (maxL := 1) (ret := none) (by decide) rfl ?_
  intro p e s m args below meth c s₁ B hml hpre
  obtain ⟨rfl, hsz, hP, hK, hD0⟩ := hpre
  have hx := B.exec
  have hb := B.bytes
  have hr := B.returns
  have hts0 := atoms_spec (ws := qw_V_init) B.pre
  have hts := fun w (h : w ∈ lw_gd) => hts0 w (List.mem_cons_of_mem _ h)
  have hown : s.vm.findClass qR_V = some m.cls := findClass_of_methodNamed B.named
  have hlocks := B.notSynchronized
  have hin : meth.name = "<init>" := (name_of_methodNamed B.named B.method).1
  subst hsz
  have hD := hD0.self (sz := s.heap.size)
  generalize hAe : va_A [(o, .inr (5, [.null]))] s.heap.size = A at hD ⊢
  have hA : ∀ q : Nat, s.heap.size ≤ q → A q := fun q h => by rw [← hAe]; exact Or.inr h
  have hS : va_S A s.heap s.heap [] := va_S.rf
  have hl := lv_entry ([.ref o]) (n := 1) (Nat.le_of_ble_eq_true rfl)
  rw [lg_entry_eq]
  generalize (lg_sl ([.ref o]) ++ List.replicate (1 - (lg_sl ([.ref o])).length) Slot.unset).toArray = ls at hl ⊢
  have hl : lv_has ls 1 [(0, .ref o)] := hl
  have hP : va_P (dC, dI) vwCl [(o, .inr (5, [.null]))] s.heap := hP
  refine mk_start (A := A) hP (fun H locs hP hS => ?_)
  refine lv_aload_n hx hb qd_V_init_0 rfl (lv_at hl 0 rfl) ?_
  refine W.objInit hx hb hown (hts _ mw_56) (hts _ mw_49) (hts _ mw_50) rfl (by rw [hml]; exact hl.1) rfl qd_V_init_1 (Nat.le_of_ble_eq_true rfl) (Nat.le_of_ble_eq_true rfl) ?_
  refine W.eq (g2 := F0 m 4 ls []) rfl ?_
  refine lv_aload_n hx hb qd_V_init_4 rfl (lv_at hl 0 rfl) ?_
  refine va_new (ci := 4) (fs := [.int 0, .int 0, .null, .int 0]) (C := qR_S) (T := qT_S) (N := 4) hx hb hts qin_S qty_S qtyok_S hown (hts _ mw_57) (hts _ mw_58) (hts _ mw_37) hK hP hD hS hA rfl (fun j hj => by rcases (show j = 0 ∨ j = 1 ∨ j = 2 ∨ j = 3 by omega) with rfl | rfl | rfl | rfl <;> rfl) (by first | exact Nat.le_of_ble_eq_true rfl | omega) (by first | exact Nat.le_of_ble_eq_true rfl | omega) qd_V_init_5 (fun h H hP hD hS => ?_)
  have hP : va_P (dC, dI) vwCl [(o, .inr (5, [.null])), (h, .inr (4, [.int 0, .int 0, .null, .int 0]))] H := hP
  have hD : va_D A [(o, .inr (5, [.null])), (h, .inr (4, [.int 0, .int 0, .null, .int 0]))] := hD
  refine W.widen (k := 1) (n := 4) (by first | exact Nat.le_of_ble_eq_true rfl | omega) (by first | exact Nat.le_of_ble_eq_true rfl | omega) ?_
  refine lv_dup hx hb qd_V_init_8 rfl ?_
  refine lv_iconst (v := 3) hx hb qd_V_init_9 (by decide) ?_
  refine lv_sipush (v := 160) hx hb qd_V_init_10 (by decide) ?_
  refine mk_mcallv (wr := [(o, .inr (5, [.null]))]) (wf := (fun u => [(o, .inr (5, [.null]))] ++ (fun u => wS h u cA 3 160 0 (fun _ => 0)) u)) (va_runI (As := [.int 3, .int 160]) (rest := [.ref h, .ref o]) ⟨hx, hb, hml, hown, hts⟩ (c_Sh_init l dC dI cA H.size h 3 160 (by decide) (by decide) (by decide) (by decide)) (cwI 2 hts (lw_g1 mw_61) rfl rfl rfl (hts _ mw_37) (hts _ mw_59) (hts _ mw_60) rfl (by decide +kernel) ⟨Nat.le_of_ble_eq_true rfl, Nat.le_of_ble_eq_true rfl⟩) (mk_muI hP hD [1] (by decide) rfl hK) rfl rfl hl.1 rfl (lv_room (Nat.le_of_ble_eq_true rfl)) qd_V_init_13 ⟨(by first | exact Nat.le_of_ble_eq_true rfl | omega), (by first | exact Nat.le_of_ble_eq_true rfl | omega)⟩) hS hA hP hD [1] [0] [0, 1, 2] rfl rfl (by decide) (by decide) (by decide) (fun _ => rfl) (fun u_1 H locs hu_1 hP hD hS => ?_)
  obtain ⟨b, rfl⟩ : ∃ z, z = u_1 := ⟨_, rfl⟩
  clear hu_1
  have hP : va_P (dC, dI) vwCl [(o, .inr (5, [.null])), (h, .inr (4, [.int (nI 3), .int (nI 160), .ref b, .int (nI 0)])), (b, .inl (cA, (3 * 160), .inl (fun _ => 0)))] H := hP
  have hD : va_D A [(o, .inr (5, [.null])), (h, .inr (4, [.int (nI 3), .int (nI 160), .ref b, .int (nI 0)])), (b, .inl (cA, (3 * 160), .inl (fun _ => 0)))] := hD
  refine W.widen (k := 2) (n := 484) (by first | exact Nat.le_of_ble_eq_true rfl | omega) (by first | exact Nat.le_of_ble_eq_true rfl | omega) ?_
  refine va_putF (D := (dC, dI)) (ci := 5) (v := .ref h) (ty := .object "AsOfJoins$Sheet") (C := qR_V) (T := qT_V) (N := 1) hx hb hts qin_V qty_V qtyok_V qnm_V hown hK hP hD hS 0 rfl rfl 0 (by decide) (hts _ mw_80) (fun _ h9 => h9) rfl hin rfl (by decide +kernel) rfl rfl (Nat.le_of_ble_eq_true rfl) qd_V_init_16 (fun H locs hP hD hS => ?_)
  have hP : va_P (dC, dI) vwCl [(o, .inr (5, [.ref h])), (h, .inr (4, [.int (nI 3), .int (nI 160), .ref b, .int (nI 0)])), (b, .inl (cA, (3 * 160), .inl (fun _ => 0)))] H := hP
  have hD : va_D A [(o, .inr (5, [.ref h])), (h, .inr (4, [.int (nI 3), .int (nI 160), .ref b, .int (nI 0)])), (b, .inl (cA, (3 * 160), .inl (fun _ => 0)))] := hD
  exact mk_mvret (h, b) hx hb hr hlocks hP hK hD hS qd_V_init_19 (trivial)
set_option maxHeartbeats 4000000 in
set_option maxRecDepth 100000 in
/-- AsOfJoins$Rows() -/
theorem c_R_init (l : Launch) (dC : Nat → ClassId) (dI : Nat → Nat → Nat) (cA : ClassId) (sz : Nat) (o : Nat) : Met l qy_R_init qw_R_init ({ frames := 2, cells := 2, slots := 1156, locals := 36 }) (mk_mu [.ref o] sz (dC, dI) vwCl [(cA, .int)] [(o, .inr (3, [.null]))]) (mk_muV (S := Nat × Nat) (fun _ => True) (fun u => wR o u.1 u.2 cA 0 (fun _ => 0)) (dC, dI) vwCl [(cA, .int)] (va_A [(o, .inr (3, [.null]))] sz)) 2 1156 (va_A [(o, .inr (3, [.null]))] sz) := by
  refine Met.ofW (cc := qb_R_init) (maxL := 1) (ret := none) (by decide) rfl ?_
  intro p e s m args below meth c s₁ B hml hpre
  obtain ⟨rfl, hsz, hP, hK, hD0⟩ := hpre
  have hx := B.exec
  have hb := B.bytes
  have hr := B.returns
  have hts0 := atoms_spec (ws := qw_R_init) B.pre
  have hts := fun w (h : w ∈ lw_gd) => hts0 w (List.mem_cons_of_mem _ h)
  have hown : s.vm.findClass qR_R = some m.cls := findClass_of_methodNamed B.named
  have hlocks := B.notSynchronized
  have hin : meth.name = "<init>" := (name_of_methodNamed B.named B.method).1
  subst hsz
  have hD := hD0.self (sz := s.heap.size)
  generalize hAe : va_A [(o, .inr (3, [.null]))] s.heap.size = A at hD ⊢
  have hA : ∀ q : Nat, s.heap.size ≤ q → A q := fun q h => by rw [← hAe]; exact Or.inr h
  have hS : va_S A s.heap s.heap [] := va_S.rf
  have hl := lv_entry ([.ref o]) (n := 1) (Nat.le_of_ble_eq_true rfl)
  rw [lg_entry_eq]
  generalize (lg_sl ([.ref o]) ++ List.replicate (1 - (lg_sl ([.ref o])).length) Slot.unset).toArray = ls at hl ⊢
  have hl : lv_has ls 1 [(0, .ref o)] := hl
  have hP : va_P (dC, dI) vwCl [(o, .inr (3, [.null]))] s.heap := hP
  refine mk_start (A := A) hP (fun H locs hP hS => ?_)
  refine lv_aload_n hx hb qd_R_init_0 rfl (lv_at hl 0 rfl) ?_
  refine W.objInit hx hb hown (hts _ mw_89) (hts _ mw_49) (hts _ mw_50) rfl (by rw [hml]; exact hl.1) rfl qd_R_init_1 (Nat.le_of_ble_eq_true rfl) (Nat.le_of_ble_eq_true rfl) ?_
  refine W.eq (g2 := F0 m 4 ls []) rfl ?_
  refine lv_aload_n hx hb qd_R_init_4 rfl (lv_at hl 0 rfl) ?_
  refine va_new (ci := 4) (fs := [.int 0, .int 0, .null, .int 0]) (C := qR_S) (T := qT_S) (N := 4) hx hb hts qin_S qty_S qtyok_S hown (hts _ mw_90) (hts _ mw_58) (hts _ mw_37) hK hP hD hS hA rfl (fun j hj => by rcases (show j = 0 ∨ j = 1 ∨ j = 2 ∨ j = 3 by omega) with rfl | rfl | rfl | rfl <;> rfl) (by first | exact Nat.le_of_ble_eq_true rfl | omega) (by first | exact Nat.le_of_ble_eq_true rfl | omega) qd_R_init_5 (fun h H hP hD hS => ?_)
  have hP : va_P (dC, dI) vwCl [(o, .inr (3, [.null])), (h, .inr (4, [.int 0, .int 0, .null, .int 0]))] H := hP
  have hD : va_D A [(o, .inr (3, [.null])), (h, .inr (4, [.int 0, .int 0, .null, .int 0]))] := hD
  refine W.widen (k := 1) (n := 4) (by first | exact Nat.le_of_ble_eq_true rfl | omega) (by first | exact Nat.le_of_ble_eq_true rfl | omega) ?_
  refine lv_dup hx hb qd_R_init_8 rfl ?_
  refine lv_bipush (v := 12) hx hb qd_R_init_9 (by decide) ?_
  refine lv_bipush (v := 96) hx hb qd_R_init_11 (by decide) ?_
  refine mk_mcallv (wr := [(o, .inr (3, [.null]))]) (wf := (fun u => [(o, .inr (3, [.null]))] ++ (fun u => wS h u cA 12 96 0 (fun _ => 0)) u)) (va_runI (As := [.int 12, .int 96]) (rest := [.ref h, .ref o]) ⟨hx, hb, hml, hown, hts⟩ (c_Sh_init l dC dI cA H.size h 12 96 (by decide) (by decide) (by decide) (by decide)) (cwI 2 hts (lw_g1 mw_61) rfl rfl rfl (hts _ mw_37) (hts _ mw_91) (hts _ mw_60) rfl (by decide +kernel) ⟨Nat.le_of_ble_eq_true rfl, Nat.le_of_ble_eq_true rfl⟩) (mk_muI hP hD [1] (by decide) rfl hK) rfl rfl hl.1 rfl (lv_room (Nat.le_of_ble_eq_true rfl)) qd_R_init_13 ⟨(by first | exact Nat.le_of_ble_eq_true rfl | omega), (by first | exact Nat.le_of_ble_eq_true rfl | omega)⟩) hS hA hP hD [1] [0] [0, 1, 2] rfl rfl (by decide) (by decide) (by decide) (fun _ => rfl) (fun u_1 H locs hu_1 hP hD hS => ?_)
  obtain ⟨b, rfl⟩ : ∃ z, z = u_1 := ⟨_, rfl⟩
  clear hu_1
  have hP : va_P (dC, dI) vwCl [(o, .inr (3, [.null])), (h, .inr (4, [.int (nI 12), .int (nI 96), .ref b, .int (nI 0)])), (b, .inl (cA, (12 * 96), .inl (fun _ => 0)))] H := hP
  have hD : va_D A [(o, .inr (3, [.null])), (h, .inr (4, [.int (nI 12), .int (nI 96), .ref b, .int (nI 0)])), (b, .inl (cA, (12 * 96), .inl (fun _ => 0)))] := hD
  refine W.widen (k := 2) (n := 1156) (by first | exact Nat.le_of_ble_eq_true rfl | omega) (by first | exact Nat.le_of_ble_eq_true rfl | omega) ?_
  refine va_putF (D := (dC, dI)) (ci := 3) (v := .ref h) (ty := .object "AsOfJoins$Sheet") (C := qR_R) (T := qT_R) (N := 1) hx hb hts qin_R qty_R qtyok_R qnm_R hown hK hP hD hS 0 rfl rfl 0 (by decide) (hts _ mw_92) (fun _ h9 => h9) rfl hin rfl (by decide +kernel) rfl rfl (Nat.le_of_ble_eq_true rfl) qd_R_init_16 (fun H locs hP hD hS => ?_)
  have hP : va_P (dC, dI) vwCl [(o, .inr (3, [.ref h])), (h, .inr (4, [.int (nI 12), .int (nI 96), .ref b, .int (nI 0)])), (b, .inl (cA, (12 * 96), .inl (fun _ => 0)))] H := hP
  have hD : va_D A [(o, .inr (3, [.ref h])), (h, .inr (4, [.int (nI 12), .int (nI 96), .ref b, .int (nI 0)])), (b, .inl (cA, (12 * 96), .inl (fun _ => 0)))] := hD
  exact mk_mvret (h, b) hx hb hr hlocks hP hK hD hS qd_R_init_19 (trivial)
set_option maxHeartbeats 4000000 in
set_option maxRecDepth 100000 in
/-- AsOfJoins$Outs() -/
theorem c_O_init (l : Launch) (dC : Nat → ClassId) (dI : Nat → Nat → Nat) (cA : ClassId) (sz : Nat) (o : Nat) : Met l qy_O_init qw_O_init ({ frames := 2, cells := 2, slots := 2116, locals := 36 }) (mk_mu [.ref o] sz (dC, dI) vwCl [(cA, .int)] [(o, .inr (2, [.null, .int 0, .int 0]))]) (mk_muV (S := Nat × Nat) (fun _ => True) (fun u => wO o u.1 u.2 cA 0 0 0 (fun _ => 0)) (dC, dI) vwCl [(cA, .int)] (va_A [(o, .inr (2, [.null, .int 0, .int 0]))] sz)) 2 2116 (va_A [(o, .inr (2, [.null, .int 0, .int 0]))] sz) := by
  refine Met.ofW (cc := qb_O_init) (maxL := 1) (ret := none) (by decide) rfl ?_
  intro p e s m args below meth c s₁ B hml hpre
  obtain ⟨rfl, hsz, hP, hK, hD0⟩ := hpre
  have hx := B.exec
  have hb := B.bytes
  have hr := B.returns
  have hts0 := atoms_spec (ws := qw_O_init) B.pre
  have hts := fun w (h : w ∈ lw_gd) => hts0 w (List.mem_cons_of_mem _ h)
  have hown : s.vm.findClass qR_O = some m.cls := findClass_of_methodNamed B.named
  have hlocks := B.notSynchronized
  have hin : meth.name = "<init>" := (name_of_methodNamed B.named B.method).1
  subst hsz
  have hD := hD0.self (sz := s.heap.size)
  generalize hAe : va_A [(o, .inr (2, [.null, .int 0, .int 0]))] s.heap.size = A at hD ⊢
  have hA : ∀ q : Nat, s.heap.size ≤ q → A q := fun q h => by rw [← hAe]; exact Or.inr h
  have hS : va_S A s.heap s.heap [] := va_S.rf
  have hl := lv_entry ([.ref o]) (n := 1) (Nat.le_of_ble_eq_true rfl)
  rw [lg_entry_eq]
  generalize (lg_sl ([.ref o]) ++ List.replicate (1 - (lg_sl ([.ref o])).length) Slot.unset).toArray = ls at hl ⊢
  have hl : lv_has ls 1 [(0, .ref o)] := hl
  have hP : va_P (dC, dI) vwCl [(o, .inr (2, [.null, .int 0, .int 0]))] s.heap := hP
  refine mk_start (A := A) hP (fun H locs hP hS => ?_)
  refine lv_aload_n hx hb qd_O_init_0 rfl (lv_at hl 0 rfl) ?_
  refine W.objInit hx hb hown (hts _ mw_101) (hts _ mw_49) (hts _ mw_50) rfl (by rw [hml]; exact hl.1) rfl qd_O_init_1 (Nat.le_of_ble_eq_true rfl) (Nat.le_of_ble_eq_true rfl) ?_
  refine W.eq (g2 := F0 m 4 ls []) rfl ?_
  refine lv_aload_n hx hb qd_O_init_4 rfl (lv_at hl 0 rfl) ?_
  refine va_new (ci := 4) (fs := [.int 0, .int 0, .null, .int 0]) (C := qR_S) (T := qT_S) (N := 4) hx hb hts qin_S qty_S qtyok_S hown (hts _ mw_102) (hts _ mw_58) (hts _ mw_37) hK hP hD hS hA rfl (fun j hj => by rcases (show j = 0 ∨ j = 1 ∨ j = 2 ∨ j = 3 by omega) with rfl | rfl | rfl | rfl <;> rfl) (by first | exact Nat.le_of_ble_eq_true rfl | omega) (by first | exact Nat.le_of_ble_eq_true rfl | omega) qd_O_init_5 (fun h H hP hD hS => ?_)
  have hP : va_P (dC, dI) vwCl [(o, .inr (2, [.null, .int 0, .int 0])), (h, .inr (4, [.int 0, .int 0, .null, .int 0]))] H := hP
  have hD : va_D A [(o, .inr (2, [.null, .int 0, .int 0])), (h, .inr (4, [.int 0, .int 0, .null, .int 0]))] := hD
  refine W.widen (k := 1) (n := 4) (by first | exact Nat.le_of_ble_eq_true rfl | omega) (by first | exact Nat.le_of_ble_eq_true rfl | omega) ?_
  refine lv_dup hx hb qd_O_init_8 rfl ?_
  refine lv_bipush (v := 11) hx hb qd_O_init_9 (by decide) ?_
  refine lv_sipush (v := 192) hx hb qd_O_init_11 (by decide) ?_
  refine mk_mcallv (wr := [(o, .inr (2, [.null, .int 0, .int 0]))]) (wf := (fun u => [(o, .inr (2, [.null, .int 0, .int 0]))] ++ (fun u => wS h u cA 11 192 0 (fun _ => 0)) u)) (va_runI (As := [.int 11, .int 192]) (rest := [.ref h, .ref o]) ⟨hx, hb, hml, hown, hts⟩ (c_Sh_init l dC dI cA H.size h 11 192 (by decide) (by decide) (by decide) (by decide)) (cwI 2 hts (lw_g1 mw_61) rfl rfl rfl (hts _ mw_37) (hts _ mw_103) (hts _ mw_60) rfl (by decide +kernel) ⟨Nat.le_of_ble_eq_true rfl, Nat.le_of_ble_eq_true rfl⟩) (mk_muI hP hD [1] (by decide) rfl hK) rfl rfl hl.1 rfl (lv_room (Nat.le_of_ble_eq_true rfl)) qd_O_init_14 ⟨(by first | exact Nat.le_of_ble_eq_true rfl | omega), (by first | exact Nat.le_of_ble_eq_true rfl | omega)⟩) hS hA hP hD [1] [0] [0, 1, 2] rfl rfl (by decide) (by decide) (by decide) (fun _ => rfl) (fun u_1 H locs hu_1 hP hD hS => ?_)
  obtain ⟨b, rfl⟩ : ∃ z, z = u_1 := ⟨_, rfl⟩
  clear hu_1
  have hP : va_P (dC, dI) vwCl [(o, .inr (2, [.null, .int 0, .int 0])), (h, .inr (4, [.int (nI 11), .int (nI 192), .ref b, .int (nI 0)])), (b, .inl (cA, (11 * 192), .inl (fun _ => 0)))] H := hP
  have hD : va_D A [(o, .inr (2, [.null, .int 0, .int 0])), (h, .inr (4, [.int (nI 11), .int (nI 192), .ref b, .int (nI 0)])), (b, .inl (cA, (11 * 192), .inl (fun _ => 0)))] := hD
  refine W.widen (k := 2) (n := 2116) (by first | exact Nat.le_of_ble_eq_true rfl | omega) (by first | exact Nat.le_of_ble_eq_true rfl | omega) ?_
  refine va_putF (D := (dC, dI)) (ci := 2) (v := .ref h) (ty := .object "AsOfJoins$Sheet") (C := qR_O) (T := qT_O) (N := 3) hx hb hts qin_O qty_O qtyok_O qnm_O hown hK hP hD hS 0 rfl rfl 0 (by decide) (hts _ mw_104) (fun _ h9 => h9) rfl hin rfl (by decide +kernel) rfl rfl (Nat.le_of_ble_eq_true rfl) qd_O_init_17 (fun H locs hP hD hS => ?_)
  have hP : va_P (dC, dI) vwCl [(o, .inr (2, [.ref h, .int 0, .int 0])), (h, .inr (4, [.int (nI 11), .int (nI 192), .ref b, .int (nI 0)])), (b, .inl (cA, (11 * 192), .inl (fun _ => 0)))] H := hP
  have hD : va_D A [(o, .inr (2, [.ref h, .int 0, .int 0])), (h, .inr (4, [.int (nI 11), .int (nI 192), .ref b, .int (nI 0)])), (b, .inl (cA, (11 * 192), .inl (fun _ => 0)))] := hD
  exact mk_mvret (h, b) hx hb hr hlocks hP hK hD hS qd_O_init_20 (trivial)
set_option maxHeartbeats 4000000 in
set_option maxRecDepth 100000 in
/-- AsOfJoins() -/
theorem c_X_init (l : Launch) (dC : Nat → ClassId) (dI : Nat → Nat → Nat) (cA : ClassId) (sz : Nat) (h0 : Nat) : Met l qy_X_init qw_X_init ({ frames := 3, cells := 12, slots := 3774, locals := 56 }) (mk_muN [Cond.methodLinkNest "AsOfJoins" 18 ⟨"AsOfJoins$Versions", "<init>", "()V"⟩ "AsOfJoins", Cond.methodLinkNest "AsOfJoins" 25 ⟨"AsOfJoins$Rows", "<init>", "()V"⟩ "AsOfJoins", Cond.methodLinkNest "AsOfJoins" 32 ⟨"AsOfJoins$Outs", "<init>", "()V"⟩ "AsOfJoins"] [.ref h0] sz (dC, dI) vwCl [(cA, .int)] [(h0, .inr (0, [.null, .null, .null, .null, .null, .null, .int 0, .int 0, .int 0, .int 0, .int 0, .int 0, .int 0]))]) (mk_muV (S := Nat → Nat) (fun u => u 0 = h0) (fun u => wX u cA (fun _ => 0) (fun _ => 0) (fun _ => 0) (fun _ => 0) 0 0 0 (fun _ => 0) 0 (fun _ => 0) 0 (fun _ => 0)) (dC, dI) vwCl [(cA, .int)] (va_A [(h0, .inr (0, [.null, .null, .null, .null, .null, .null, .int 0, .int 0, .int 0, .int 0, .int 0, .int 0, .int 0]))] sz)) 12 3774 (va_A [(h0, .inr (0, [.null, .null, .null, .null, .null, .null, .int 0, .int 0, .int 0, .int 0, .int 0, .int 0, .int 0]))] sz) := by
  refine Met.ofW (cc := qb_X_init) (maxL := 1) (ret := none) (by decide) rfl ?_
  intro p e s m args below meth c s₁ B hml hpre
  obtain ⟨rfl, hsz, hP, hK, hD0, hN⟩ := hpre
  have hx := B.exec
  have hb := B.bytes
  have hr := B.returns
  have hts0 := atoms_spec (ws := qw_X_init) B.pre
  have hts := fun w (h : w ∈ lw_gd) => hts0 w (List.mem_cons_of_mem _ h)
  have hown : s.vm.findClass qR_X = some m.cls := findClass_of_methodNamed B.named
  have hlocks := B.notSynchronized
  have hin : meth.name = "<init>" := (name_of_methodNamed B.named B.method).1
  subst hsz
  have hD := hD0.self (sz := s.heap.size)
  generalize hAe : va_A [(h0, .inr (0, [.null, .null, .null, .null, .null, .null, .int 0, .int 0, .int 0, .int 0, .int 0, .int 0, .int 0]))] s.heap.size = A at hD ⊢
  have hA : ∀ q : Nat, s.heap.size ≤ q → A q := fun q h => by rw [← hAe]; exact Or.inr h
  have hS : va_S A s.heap s.heap [] := va_S.rf
  have hl := lv_entry ([.ref h0]) (n := 1) (Nat.le_of_ble_eq_true rfl)
  rw [lg_entry_eq]
  generalize (lg_sl ([.ref h0]) ++ List.replicate (1 - (lg_sl ([.ref h0])).length) Slot.unset).toArray = ls at hl ⊢
  have hl : lv_has ls 1 [(0, .ref h0)] := hl
  have hP : va_P (dC, dI) vwCl [(h0, .inr (0, [.null, .null, .null, .null, .null, .null, .int 0, .int 0, .int 0, .int 0, .int 0, .int 0, .int 0]))] s.heap := hP
  refine mk_start (A := A) hP (fun H locs hP hS => ?_)
  refine lv_aload_n hx hb qd_X_init_0 rfl (lv_at hl 0 rfl) ?_
  refine W.objInit hx hb hown (hts _ mw_48) (hts _ mw_49) (hts _ mw_50) rfl (by rw [hml]; exact hl.1) rfl qd_X_init_1 (Nat.le_of_ble_eq_true rfl) (Nat.le_of_ble_eq_true rfl) ?_
  refine W.eq (g2 := F0 m 4 ls []) rfl ?_
  refine lv_aload_n hx hb qd_X_init_4 rfl (lv_at hl 0 rfl) ?_
  refine lv_iconst (v := 4) hx hb qd_X_init_5 (by decide) ?_
  refine va_newa (atype := .int) (n := 4) (N' := 4) (a0 := (4, .inl (fun _ => 0))) hx hb (hts _ mw_79) rfl hK hP hD hS hA (fun _ => rfl) (by decide) (rfl) (by decide) (by first | exact Nat.le_of_ble_eq_true rfl | omega) (by first | exact Nat.le_of_ble_eq_true rfl | exact Nat.le_of_eq (Nat.zero_add _) | omega) qd_X_init_6 (fun q1 cB H hKB hP hD hS => ?_)
  obtain rfl := mk_cA hKB
  clear hKB
  have hP : va_P (dC, dI) vwCl [(h0, .inr (0, [.null, .null, .null, .null, .null, .null, .int 0, .int 0, .int 0, .int 0, .int 0, .int 0, .int 0])), (q1, .inl (cA, 4, .inl (fun _ => 0)))] H := hP
  have hD : va_D A [(h0, .inr (0, [.null, .null, .null, .null, .null, .null, .int 0, .int 0, .int 0, .int 0, .int 0, .int 0, .int 0])), (q1, .inl (cA, 4, .inl (fun _ => 0)))] := hD
  refine W.widen (k := 1) (n := 4) (by first | exact Nat.le_of_ble_eq_true rfl | omega) (by first | exact Nat.le_of_ble_eq_true rfl | exact Nat.le_of_eq (Nat.zero_add _) | omega) ?_
  refine va_putF (D := (dC, dI)) (ci := 0) (v := .ref q1) (ty := (.array .int)) (C := qR_X) (T := qT_X) (N := 13) hx hb hts qin_X qty_X qtyok_X qnm_X hown hK hP hD hS 0 rfl rfl 0 (by decide) (hts _ mw_116) (fun _ h9 => h9) rfl hin rfl (by decide +kernel) rfl rfl (Nat.le_of_ble_eq_true rfl) qd_X_init_8 (fun H locs hP hD hS => ?_)
  have hP : va_P (dC, dI) vwCl [(h0, .inr (0, [.ref q1, .null, .null, .null, .null, .null, .int 0, .int 0, .int 0, .int 0, .int 0, .int 0, .int 0])), (q1, .inl (cA, 4, .inl (fun _ => 0)))] H := hP
  have hD : va_D A [(h0, .inr (0, [.ref q1, .null, .null, .null, .null, .null, .int 0, .int 0, .int 0, .int 0, .int 0, .int 0, .int 0])), (q1, .inl (cA, 4, .inl (fun _ => 0)))] := hD
  refine lv_aload_n hx hb qd_X_init_11 rfl (lv_at hl 0 rfl) ?_
  refine lv_iconst (v := 3) hx hb qd_X_init_12 (by decide) ?_
  refine va_newa (atype := .int) (n := 3) (N' := 3) (a0 := (3, .inl (fun _ => 0))) hx hb (hts _ mw_79) rfl hK hP hD hS hA (fun _ => rfl) (by decide) (rfl) (by decide) (by first | exact Nat.le_of_ble_eq_true rfl | omega) (by first | exact Nat.le_of_ble_eq_true rfl | exact Nat.le_of_eq (Nat.zero_add _) | omega) qd_X_init_13 (fun q2 cB H hKB hP hD hS => ?_)
  obtain rfl := mk_cA hKB
  clear hKB
  have hP : va_P (dC, dI) vwCl [(h0, .inr (0, [.ref q1, .null, .null, .null, .null, .null, .int 0, .int 0, .int 0, .int 0, .int 0, .int 0, .int 0])), (q1, .inl (cA, 4, .inl (fun _ => 0))), (q2, .inl (cA, 3, .inl (fun _ => 0)))] H := hP
  have hD : va_D A [(h0, .inr (0, [.ref q1, .null, .null, .null, .null, .null, .int 0, .int 0, .int 0, .int 0, .int 0, .int 0, .int 0])), (q1, .inl (cA, 4, .inl (fun _ => 0))), (q2, .inl (cA, 3, .inl (fun _ => 0)))] := hD
  refine W.widen (k := 2) (n := 7) (by first | exact Nat.le_of_ble_eq_true rfl | omega) (by first | exact Nat.le_of_ble_eq_true rfl | exact Nat.le_of_eq (Nat.zero_add _) | omega) ?_
  refine va_putF (D := (dC, dI)) (ci := 0) (v := .ref q2) (ty := (.array .int)) (C := qR_X) (T := qT_X) (N := 13) hx hb hts qin_X qty_X qtyok_X qnm_X hown hK hP hD hS 0 rfl rfl 1 (by decide) (hts _ mw_117) (fun _ h9 => h9) rfl hin rfl (by decide +kernel) rfl rfl (Nat.le_of_ble_eq_true rfl) qd_X_init_15 (fun H locs hP hD hS => ?_)
  have hP : va_P (dC, dI) vwCl [(h0, .inr (0, [.ref q1, .ref q2, .null, .null, .null, .null, .int 0, .int 0, .int 0, .int 0, .int 0, .int 0, .int 0])), (q1, .inl (cA, 4, .inl (fun _ => 0))), (q2, .inl (cA, 3, .inl (fun _ => 0)))] H := hP
  have hD : va_D A [(h0, .inr (0, [.ref q1, .ref q2, .null, .null, .null, .null, .int 0, .int 0, .int 0, .int 0, .int 0, .int 0, .int 0])), (q1, .inl (cA, 4, .inl (fun _ => 0))), (q2, .inl (cA, 3, .inl (fun _ => 0)))] := hD
  refine lv_aload_n hx hb qd_X_init_18 rfl (lv_at hl 0 rfl) ?_
  refine va_new (ci := 5) (fs := [.null]) (C := qR_V) (T := qT_V) (N := 1) hx hb hts qin_V qty_V qtyok_V hown (hts _ mw_51) (hts _ mw_52) (hts _ mw_36) hK hP hD hS hA rfl (fun j hj => by rcases (show j = 0 by omega) with rfl <;> rfl) (by first | exact Nat.le_of_ble_eq_true rfl | omega) (by first | exact Nat.le_of_ble_eq_true rfl | omega) qd_X_init_19 (fun v0 H hP hD hS => ?_)
  have hP : va_P (dC, dI) vwCl [(h0, .inr (0, [.ref q1, .ref q2, .null, .null, .null, .null, .int 0, .int 0, .int 0, .int 0, .int 0, .int 0, .int 0])), (q1, .inl (cA, 4, .inl (fun _ => 0))), (q2, .inl (cA, 3, .inl (fun _ => 0))), (v0, .inr (5, [.null]))] H := hP
  have hD : va_D A [(h0, .inr (0, [.ref q1, .ref q2, .null, .null, .null, .null, .int 0, .int 0, .int 0, .int 0, .int 0, .int 0, .int 0])), (q1, .inl (cA, 4, .inl (fun _ => 0))), (q2, .inl (cA, 3, .inl (fun _ => 0))), (v0, .inr (5, [.null]))] := hD
  refine W.widen (k := 3) (n := 8) (by first | exact Nat.le_of_ble_eq_true rfl | omega) (by first | exact Nat.le_of_ble_eq_true rfl | omega) ?_
  refine lv_dup hx hb qd_X_init_22 rfl ?_
  refine mk_mcallv (wr := [(h0, .inr (0, [.ref q1, .ref q2, .null, .null, .null, .null, .int 0, .int 0, .int 0, .int 0, .int 0, .int 0, .int 0])), (q1, .inl (cA, 4, .inl (fun _ => 0))), (q2, .inl (cA, 3, .inl (fun _ => 0)))]) (wf := (fun u => [(h0, .inr (0, [.ref q1, .ref q2, .null, .null, .null, .null, .int 0, .int 0, .int 0, .int 0, .int 0, .int 0, .int 0])), (q1, .inl (cA, 4, .inl (fun _ => 0))), (q2, .inl (cA, 3, .inl (fun _ => 0)))] ++ (fun u => wV v0 u.1 u.2 cA 0 (fun _ => 0)) u)) (va_runIN (As := []) (rest := [.ref v0, .ref h0]) ⟨hx, hb, hml, hown, hts⟩ (c_V_init l dC dI cA H.size v0) ⟨va_cnB 0 hts (lw_g1 mw_55) rfl rfl rfl (hN _ (List.mem_of_getElem? (i := 0) rfl)) (hts _ mw_36) (by decide +kernel) ⟨Nat.le_of_ble_eq_true rfl, Nat.le_of_ble_eq_true rfl⟩, rfl, (hts _ mw_54)⟩ (mk_muI hP hD [3] (by decide) rfl hK) rfl rfl hl.1 rfl (lv_room (Nat.le_of_ble_eq_true rfl)) qd_X_init_23 ⟨(by first | exact Nat.le_of_ble_eq_true rfl | omega), (by first | exact Nat.le_of_ble_eq_true rfl | omega)⟩) hS hA hP hD [3] [0, 1, 2] [0, 1, 2, 3, 4, 5] rfl rfl (by decide) (by decide) (by decide) (fun _ => rfl) (fun u_1 H locs hu_1 hP hD hS => ?_)
  obtain ⟨v1, v2⟩ := u_1
  clear hu_1
  have hP : va_P (dC, dI) vwCl [(h0, .inr (0, [.ref q1, .ref q2, .null, .null, .null, .null, .int 0, .int 0, .int 0, .int 0, .int 0, .int 0, .int 0])), (q1, .inl (cA, 4, .inl (fun _ => 0))), (q2, .inl (cA, 3, .inl (fun _ => 0))), (v0, .inr (5, [.ref v1])), (v1, .inr (4, [.int (nI 3), .int (nI 160), .ref v2, .int (nI 0)])), (v2, .inl (cA, (3 * 160), .inl (fun _ => 0)))] H := hP
  have hD : va_D A [(h0, .inr (0, [.ref q1, .ref q2, .null, .null, .null, .null, .int 0, .int 0, .int 0, .int 0, .int 0, .int 0, .int 0])), (q1, .inl (cA, 4, .inl (fun _ => 0))), (q2, .inl (cA, 3, .inl (fun _ => 0))), (v0, .inr (5, [.ref v1])), (v1, .inr (4, [.int (nI 3), .int (nI 160), .ref v2, .int (nI 0)])), (v2, .inl (cA, (3 * 160), .inl (fun _ => 0)))] := hD
  refine W.widen (k := 5) (n := 492) (by first | exact Nat.le_of_ble_eq_true rfl | omega) (by first | exact Nat.le_of_ble_eq_true rfl | omega) ?_
  refine va_putF (D := (dC, dI)) (ci := 0) (v := .ref v0) (ty := .object "AsOfJoins$Versions") (C := qR_X) (T := qT_X) (N := 13) hx hb hts qin_X qty_X qtyok_X qnm_X hown hK hP hD hS 0 rfl rfl 2 (by decide) (hts _ mw_118) (fun _ h9 => h9) rfl hin rfl (by decide +kernel) rfl rfl (Nat.le_of_ble_eq_true rfl) qd_X_init_26 (fun H locs hP hD hS => ?_)
  have hP : va_P (dC, dI) vwCl [(h0, .inr (0, [.ref q1, .ref q2, .ref v0, .null, .null, .null, .int 0, .int 0, .int 0, .int 0, .int 0, .int 0, .int 0])), (q1, .inl (cA, 4, .inl (fun _ => 0))), (q2, .inl (cA, 3, .inl (fun _ => 0))), (v0, .inr (5, [.ref v1])), (v1, .inr (4, [.int (nI 3), .int (nI 160), .ref v2, .int (nI 0)])), (v2, .inl (cA, (3 * 160), .inl (fun _ => 0)))] H := hP
  have hD : va_D A [(h0, .inr (0, [.ref q1, .ref q2, .ref v0, .null, .null, .null, .int 0, .int 0, .int 0, .int 0, .int 0, .int 0, .int 0])), (q1, .inl (cA, 4, .inl (fun _ => 0))), (q2, .inl (cA, 3, .inl (fun _ => 0))), (v0, .inr (5, [.ref v1])), (v1, .inr (4, [.int (nI 3), .int (nI 160), .ref v2, .int (nI 0)])), (v2, .inl (cA, (3 * 160), .inl (fun _ => 0)))] := hD
  refine lv_aload_n hx hb qd_X_init_29 rfl (lv_at hl 0 rfl) ?_
  refine va_new (ci := 3) (fs := [.null]) (C := qR_R) (T := qT_R) (N := 1) hx hb hts qin_R qty_R qtyok_R hown (hts _ mw_84) (hts _ mw_85) (hts _ mw_39) hK hP hD hS hA rfl (fun j hj => by rcases (show j = 0 by omega) with rfl <;> rfl) (by first | exact Nat.le_of_ble_eq_true rfl | omega) (by first | exact Nat.le_of_ble_eq_true rfl | omega) qd_X_init_30 (fun r0 H hP hD hS => ?_)
  have hP : va_P (dC, dI) vwCl [(h0, .inr (0, [.ref q1, .ref q2, .ref v0, .null, .null, .null, .int 0, .int 0, .int 0, .int 0, .int 0, .int 0, .int 0])), (q1, .inl (cA, 4, .inl (fun _ => 0))), (q2, .inl (cA, 3, .inl (fun _ => 0))), (v0, .inr (5, [.ref v1])), (v1, .inr (4, [.int (nI 3), .int (nI 160), .ref v2, .int (nI 0)])), (v2, .inl (cA, (3 * 160), .inl (fun _ => 0))), (r0, .inr (3, [.null]))] H := hP
  have hD : va_D A [(h0, .inr (0, [.ref q1, .ref q2, .ref v0, .null, .null, .null, .int 0, .int 0, .int 0, .int 0, .int 0, .int 0, .int 0])), (q1, .inl (cA, 4, .inl (fun _ => 0))), (q2, .inl (cA, 3, .inl (fun _ => 0))), (v0, .inr (5, [.ref v1])), (v1, .inr (4, [.int (nI 3), .int (nI 160), .ref v2, .int (nI 0)])), (v2, .inl (cA, (3 * 160), .inl (fun _ => 0))), (r0, .inr (3, [.null]))] := hD
  refine W.widen (k := 6) (n := 493) (by first | exact Nat.le_of_ble_eq_true rfl | omega) (by first | exact Nat.le_of_ble_eq_true rfl | omega) ?_
  refine lv_dup hx hb qd_X_init_33 rfl ?_
  refine mk_mcallv (wr := [(h0, .inr (0, [.ref q1, .ref q2, .ref v0, .null, .null, .null, .int 0, .int 0, .int 0, .int 0, .int 0, .int 0, .int 0])), (q1, .inl (cA, 4, .inl (fun _ => 0))), (q2, .inl (cA, 3, .inl (fun _ => 0))), (v0, .inr (5, [.ref v1])), (v1, .inr (4, [.int (nI 3), .int (nI 160), .ref v2, .int (nI 0)])), (v2, .inl (cA, (3 * 160), .inl (fun _ => 0)))]) (wf := (fun u => [(h0, .inr (0, [.ref q1, .ref q2, .ref v0, .null, .null, .null, .int 0, .int 0, .int 0, .int 0, .int 0, .int 0, .int 0])), (q1, .inl (cA, 4, .inl (fun _ => 0))), (q2, .inl (cA, 3, .inl (fun _ => 0))), (v0, .inr (5, [.ref v1])), (v1, .inr (4, [.int (nI 3), .int (nI 160), .ref v2, .int (nI 0)])), (v2, .inl (cA, (3 * 160), .inl (fun _ => 0)))] ++ (fun u => wR r0 u.1 u.2 cA 0 (fun _ => 0)) u)) (va_runIN (As := []) (rest := [.ref r0, .ref h0]) ⟨hx, hb, hml, hown, hts⟩ (c_R_init l dC dI cA H.size r0) ⟨va_cnB 0 hts (lw_g1 mw_88) rfl rfl rfl (hN _ (List.mem_of_getElem? (i := 1) rfl)) (hts _ mw_39) (by decide +kernel) ⟨Nat.le_of_ble_eq_true rfl, Nat.le_of_ble_eq_true rfl⟩, rfl, (hts _ mw_87)⟩ (mk_muI hP hD [6] (by decide) rfl hK) rfl rfl hl.1 rfl (lv_room (Nat.le_of_ble_eq_true rfl)) qd_X_init_34 ⟨(by first | exact Nat.le_of_ble_eq_true rfl | omega), (by first | exact Nat.le_of_ble_eq_true rfl | omega)⟩) hS hA hP hD [6] [0, 1, 2, 3, 4, 5] [0, 1, 2, 3, 4, 5, 6, 7, 8] rfl rfl (by decide) (by decide) (by decide) (fun _ => rfl) (fun u_2 H locs hu_2 hP hD hS => ?_)
  obtain ⟨r1, r2⟩ := u_2
  clear hu_2
  have hP : va_P (dC, dI) vwCl [(h0, .inr (0, [.ref q1, .ref q2, .ref v0, .null, .null, .null, .int 0, .int 0, .int 0, .int 0, .int 0, .int 0, .int 0])), (q1, .inl (cA, 4, .inl (fun _ => 0))), (q2, .inl (cA, 3, .inl (fun _ => 0))), (v0, .inr (5, [.ref v1])), (v1, .inr (4, [.int (nI 3), .int (nI 160), .ref v2, .int (nI 0)])), (v2, .inl (cA, (3 * 160), .inl (fun _ => 0))), (r0, .inr (3, [.ref r1])), (r1, .inr (4, [.int (nI 12), .int (nI 96), .ref r2, .int (nI 0)])), (r2, .inl (cA, (12 * 96), .inl (fun _ => 0)))] H := hP
  have hD : va_D A [(h0, .inr (0, [.ref q1, .ref q2, .ref v0, .null, .null, .null, .int 0, .int 0, .int 0, .int 0, .int 0, .int 0, .int 0])), (q1, .inl (cA, 4, .inl (fun _ => 0))), (q2, .inl (cA, 3, .inl (fun _ => 0))), (v0, .inr (5, [.ref v1])), (v1, .inr (4, [.int (nI 3), .int (nI 160), .ref v2, .int (nI 0)])), (v2, .inl (cA, (3 * 160), .inl (fun _ => 0))), (r0, .inr (3, [.ref r1])), (r1, .inr (4, [.int (nI 12), .int (nI 96), .ref r2, .int (nI 0)])), (r2, .inl (cA, (12 * 96), .inl (fun _ => 0)))] := hD
  refine W.widen (k := 8) (n := 1649) (by first | exact Nat.le_of_ble_eq_true rfl | omega) (by first | exact Nat.le_of_ble_eq_true rfl | omega) ?_
  refine va_putF (D := (dC, dI)) (ci := 0) (v := .ref r0) (ty := .object "AsOfJoins$Rows") (C := qR_X) (T := qT_X) (N := 13) hx hb hts qin_X qty_X qtyok_X qnm_X hown hK hP hD hS 0 rfl rfl 3 (by decide) (hts _ mw_119) (fun _ h9 => h9) rfl hin rfl (by decide +kernel) rfl rfl (Nat.le_of_ble_eq_true rfl) qd_X_init_37 (fun H locs hP hD hS => ?_)
  have hP : va_P (dC, dI) vwCl [(h0, .inr (0, [.ref q1, .ref q2, .ref v0, .ref r0, .null, .null, .int 0, .int 0, .int 0, .int 0, .int 0, .int 0, .int 0])), (q1, .inl (cA, 4, .inl (fun _ => 0))), (q2, .inl (cA, 3, .inl (fun _ => 0))), (v0, .inr (5, [.ref v1])), (v1, .inr (4, [.int (nI 3), .int (nI 160), .ref v2, .int (nI 0)])), (v2, .inl (cA, (3 * 160), .inl (fun _ => 0))), (r0, .inr (3, [.ref r1])), (r1, .inr (4, [.int (nI 12), .int (nI 96), .ref r2, .int (nI 0)])), (r2, .inl (cA, (12 * 96), .inl (fun _ => 0)))] H := hP
  have hD : va_D A [(h0, .inr (0, [.ref q1, .ref q2, .ref v0, .ref r0, .null, .null, .int 0, .int 0, .int 0, .int 0, .int 0, .int 0, .int 0])), (q1, .inl (cA, 4, .inl (fun _ => 0))), (q2, .inl (cA, 3, .inl (fun _ => 0))), (v0, .inr (5, [.ref v1])), (v1, .inr (4, [.int (nI 3), .int (nI 160), .ref v2, .int (nI 0)])), (v2, .inl (cA, (3 * 160), .inl (fun _ => 0))), (r0, .inr (3, [.ref r1])), (r1, .inr (4, [.int (nI 12), .int (nI 96), .ref r2, .int (nI 0)])), (r2, .inl (cA, (12 * 96), .inl (fun _ => 0)))] := hD
  refine lv_aload_n hx hb qd_X_init_40 rfl (lv_at hl 0 rfl) ?_
  refine va_new (ci := 2) (fs := [.null, .int 0, .int 0]) (C := qR_O) (T := qT_O) (N := 3) hx hb hts qin_O qty_O qtyok_O hown (hts _ mw_96) (hts _ mw_97) (hts _ mw_40) hK hP hD hS hA rfl (fun j hj => by rcases (show j = 0 ∨ j = 1 ∨ j = 2 by omega) with rfl | rfl | rfl <;> rfl) (by first | exact Nat.le_of_ble_eq_true rfl | omega) (by first | exact Nat.le_of_ble_eq_true rfl | omega) qd_X_init_41 (fun o0 H hP hD hS => ?_)
  have hP : va_P (dC, dI) vwCl [(h0, .inr (0, [.ref q1, .ref q2, .ref v0, .ref r0, .null, .null, .int 0, .int 0, .int 0, .int 0, .int 0, .int 0, .int 0])), (q1, .inl (cA, 4, .inl (fun _ => 0))), (q2, .inl (cA, 3, .inl (fun _ => 0))), (v0, .inr (5, [.ref v1])), (v1, .inr (4, [.int (nI 3), .int (nI 160), .ref v2, .int (nI 0)])), (v2, .inl (cA, (3 * 160), .inl (fun _ => 0))), (r0, .inr (3, [.ref r1])), (r1, .inr (4, [.int (nI 12), .int (nI 96), .ref r2, .int (nI 0)])), (r2, .inl (cA, (12 * 96), .inl (fun _ => 0))), (o0, .inr (2, [.null, .int 0, .int 0]))] H := hP
  have hD : va_D A [(h0, .inr (0, [.ref q1, .ref q2, .ref v0, .ref r0, .null, .null, .int 0, .int 0, .int 0, .int 0, .int 0, .int 0, .int 0])), (q1, .inl (cA, 4, .inl (fun _ => 0))), (q2, .inl (cA, 3, .inl (fun _ => 0))), (v0, .inr (5, [.ref v1])), (v1, .inr (4, [.int (nI 3), .int (nI 160), .ref v2, .int (nI 0)])), (v2, .inl (cA, (3 * 160), .inl (fun _ => 0))), (r0, .inr (3, [.ref r1])), (r1, .inr (4, [.int (nI 12), .int (nI 96), .ref r2, .int (nI 0)])), (r2, .inl (cA, (12 * 96), .inl (fun _ => 0))), (o0, .inr (2, [.null, .int 0, .int 0]))] := hD
  refine W.widen (k := 9) (n := 1652) (by first | exact Nat.le_of_ble_eq_true rfl | omega) (by first | exact Nat.le_of_ble_eq_true rfl | omega) ?_
  refine lv_dup hx hb qd_X_init_44 rfl ?_
  refine mk_mcallv (wr := [(h0, .inr (0, [.ref q1, .ref q2, .ref v0, .ref r0, .null, .null, .int 0, .int 0, .int 0, .int 0, .int 0, .int 0, .int 0])), (q1, .inl (cA, 4, .inl (fun _ => 0))), (q2, .inl (cA, 3, .inl (fun _ => 0))), (v0, .inr (5, [.ref v1])), (v1, .inr (4, [.int (nI 3), .int (nI 160), .ref v2, .int (nI 0)])), (v2, .inl (cA, (3 * 160), .inl (fun _ => 0))), (r0, .inr (3, [.ref r1])), (r1, .inr (4, [.int (nI 12), .int (nI 96), .ref r2, .int (nI 0)])), (r2, .inl (cA, (12 * 96), .inl (fun _ => 0)))]) (wf := (fun u => [(h0, .inr (0, [.ref q1, .ref q2, .ref v0, .ref r0, .null, .null, .int 0, .int 0, .int 0, .int 0, .int 0, .int 0, .int 0])), (q1, .inl (cA, 4, .inl (fun _ => 0))), (q2, .inl (cA, 3, .inl (fun _ => 0))), (v0, .inr (5, [.ref v1])), (v1, .inr (4, [.int (nI 3), .int (nI 160), .ref v2, .int (nI 0)])), (v2, .inl (cA, (3 * 160), .inl (fun _ => 0))), (r0, .inr (3, [.ref r1])), (r1, .inr (4, [.int (nI 12), .int (nI 96), .ref r2, .int (nI 0)])), (r2, .inl (cA, (12 * 96), .inl (fun _ => 0)))] ++ (fun u => wO o0 u.1 u.2 cA 0 0 0 (fun _ => 0)) u)) (va_runIN (As := []) (rest := [.ref o0, .ref h0]) ⟨hx, hb, hml, hown, hts⟩ (c_O_init l dC dI cA H.size o0) ⟨va_cnB 0 hts (lw_g1 mw_100) rfl rfl rfl (hN _ (List.mem_of_getElem? (i := 2) rfl)) (hts _ mw_40) (by decide +kernel) ⟨Nat.le_of_ble_eq_true rfl, Nat.le_of_ble_eq_true rfl⟩, rfl, (hts _ mw_99)⟩ (mk_muI hP hD [9] (by decide) rfl hK) rfl rfl hl.1 rfl (lv_room (Nat.le_of_ble_eq_true rfl)) qd_X_init_45 ⟨(by first | exact Nat.le_of_ble_eq_true rfl | omega), (by first | exact Nat.le_of_ble_eq_true rfl | omega)⟩) hS hA hP hD [9] [0, 1, 2, 3, 4, 5, 6, 7, 8] [0, 1, 2, 3, 4, 5, 6, 7, 8, 9, 10, 11] rfl rfl (by decide) (by decide) (by decide) (fun _ => rfl) (fun u_3 H locs hu_3 hP hD hS => ?_)
  obtain ⟨o1, o2⟩ := u_3
  clear hu_3
  have hP : va_P (dC, dI) vwCl [(h0, .inr (0, [.ref q1, .ref q2, .ref v0, .ref r0, .null, .null, .int 0, .int 0, .int 0, .int 0, .int 0, .int 0, .int 0])), (q1, .inl (cA, 4, .inl (fun _ => 0))), (q2, .inl (cA, 3, .inl (fun _ => 0))), (v0, .inr (5, [.ref v1])), (v1, .inr (4, [.int (nI 3), .int (nI 160), .ref v2, .int (nI 0)])), (v2, .inl (cA, (3 * 160), .inl (fun _ => 0))), (r0, .inr (3, [.ref r1])), (r1, .inr (4, [.int (nI 12), .int (nI 96), .ref r2, .int (nI 0)])), (r2, .inl (cA, (12 * 96), .inl (fun _ => 0))), (o0, .inr (2, [.ref o1, .int 0, .int 0])), (o1, .inr (4, [.int (nI 11), .int (nI 192), .ref o2, .int (nI 0)])), (o2, .inl (cA, (11 * 192), .inl (fun _ => 0)))] H := hP
  have hD : va_D A [(h0, .inr (0, [.ref q1, .ref q2, .ref v0, .ref r0, .null, .null, .int 0, .int 0, .int 0, .int 0, .int 0, .int 0, .int 0])), (q1, .inl (cA, 4, .inl (fun _ => 0))), (q2, .inl (cA, 3, .inl (fun _ => 0))), (v0, .inr (5, [.ref v1])), (v1, .inr (4, [.int (nI 3), .int (nI 160), .ref v2, .int (nI 0)])), (v2, .inl (cA, (3 * 160), .inl (fun _ => 0))), (r0, .inr (3, [.ref r1])), (r1, .inr (4, [.int (nI 12), .int (nI 96), .ref r2, .int (nI 0)])), (r2, .inl (cA, (12 * 96), .inl (fun _ => 0))), (o0, .inr (2, [.ref o1, .int 0, .int 0])), (o1, .inr (4, [.int (nI 11), .int (nI 192), .ref o2, .int (nI 0)])), (o2, .inl (cA, (11 * 192), .inl (fun _ => 0)))] := hD
  refine W.widen (k := 11) (n := 3768) (by first | exact Nat.le_of_ble_eq_true rfl | omega) (by first | exact Nat.le_of_ble_eq_true rfl | omega) ?_
  refine va_putF (D := (dC, dI)) (ci := 0) (v := .ref o0) (ty := .object "AsOfJoins$Outs") (C := qR_X) (T := qT_X) (N := 13) hx hb hts qin_X qty_X qtyok_X qnm_X hown hK hP hD hS 0 rfl rfl 4 (by decide) (hts _ mw_120) (fun _ h9 => h9) rfl hin rfl (by decide +kernel) rfl rfl (Nat.le_of_ble_eq_true rfl) qd_X_init_48 (fun H locs hP hD hS => ?_)
  have hP : va_P (dC, dI) vwCl [(h0, .inr (0, [.ref q1, .ref q2, .ref v0, .ref r0, .ref o0, .null, .int 0, .int 0, .int 0, .int 0, .int 0, .int 0, .int 0])), (q1, .inl (cA, 4, .inl (fun _ => 0))), (q2, .inl (cA, 3, .inl (fun _ => 0))), (v0, .inr (5, [.ref v1])), (v1, .inr (4, [.int (nI 3), .int (nI 160), .ref v2, .int (nI 0)])), (v2, .inl (cA, (3 * 160), .inl (fun _ => 0))), (r0, .inr (3, [.ref r1])), (r1, .inr (4, [.int (nI 12), .int (nI 96), .ref r2, .int (nI 0)])), (r2, .inl (cA, (12 * 96), .inl (fun _ => 0))), (o0, .inr (2, [.ref o1, .int 0, .int 0])), (o1, .inr (4, [.int (nI 11), .int (nI 192), .ref o2, .int (nI 0)])), (o2, .inl (cA, (11 * 192), .inl (fun _ => 0)))] H := hP
  have hD : va_D A [(h0, .inr (0, [.ref q1, .ref q2, .ref v0, .ref r0, .ref o0, .null, .int 0, .int 0, .int 0, .int 0, .int 0, .int 0, .int 0])), (q1, .inl (cA, 4, .inl (fun _ => 0))), (q2, .inl (cA, 3, .inl (fun _ => 0))), (v0, .inr (5, [.ref v1])), (v1, .inr (4, [.int (nI 3), .int (nI 160), .ref v2, .int (nI 0)])), (v2, .inl (cA, (3 * 160), .inl (fun _ => 0))), (r0, .inr (3, [.ref r1])), (r1, .inr (4, [.int (nI 12), .int (nI 96), .ref r2, .int (nI 0)])), (r2, .inl (cA, (12 * 96), .inl (fun _ => 0))), (o0, .inr (2, [.ref o1, .int 0, .int 0])), (o1, .inr (4, [.int (nI 11), .int (nI 192), .ref o2, .int (nI 0)])), (o2, .inl (cA, (11 * 192), .inl (fun _ => 0)))] := hD
  refine lv_aload_n hx hb qd_X_init_51 rfl (lv_at hl 0 rfl) ?_
  refine lv_bipush (v := 6) hx hb qd_X_init_52 (by decide) ?_
  refine va_newa (atype := .int) (n := 6) (N' := 6) (a0 := (6, .inl (fun _ => 0))) hx hb (hts _ mw_79) rfl hK hP hD hS hA (fun _ => rfl) (by decide) (rfl) (by decide) (by first | exact Nat.le_of_ble_eq_true rfl | omega) (by first | exact Nat.le_of_ble_eq_true rfl | exact Nat.le_of_eq (Nat.zero_add _) | omega) qd_X_init_54 (fun q3 cB H hKB hP hD hS => ?_)
  obtain rfl := mk_cA hKB
  clear hKB
  have hP : va_P (dC, dI) vwCl [(h0, .inr (0, [.ref q1, .ref q2, .ref v0, .ref r0, .ref o0, .null, .int 0, .int 0, .int 0, .int 0, .int 0, .int 0, .int 0])), (q1, .inl (cA, 4, .inl (fun _ => 0))), (q2, .inl (cA, 3, .inl (fun _ => 0))), (v0, .inr (5, [.ref v1])), (v1, .inr (4, [.int (nI 3), .int (nI 160), .ref v2, .int (nI 0)])), (v2, .inl (cA, (3 * 160), .inl (fun _ => 0))), (r0, .inr (3, [.ref r1])), (r1, .inr (4, [.int (nI 12), .int (nI 96), .ref r2, .int (nI 0)])), (r2, .inl (cA, (12 * 96), .inl (fun _ => 0))), (o0, .inr (2, [.ref o1, .int 0, .int 0])), (o1, .inr (4, [.int (nI 11), .int (nI 192), .ref o2, .int (nI 0)])), (o2, .inl (cA, (11 * 192), .inl (fun _ => 0))), (q3, .inl (cA, 6, .inl (fun _ => 0)))] H := hP
  have hD : va_D A [(h0, .inr (0, [.ref q1, .ref q2, .ref v0, .ref r0, .ref o0, .null, .int 0, .int 0, .int 0, .int 0, .int 0, .int 0, .int 0])), (q1, .inl (cA, 4, .inl (fun _ => 0))), (q2, .inl (cA, 3, .inl (fun _ => 0))), (v0, .inr (5, [.ref v1])), (v1, .inr (4, [.int (nI 3), .int (nI 160), .ref v2, .int (nI 0)])), (v2, .inl (cA, (3 * 160), .inl (fun _ => 0))), (r0, .inr (3, [.ref r1])), (r1, .inr (4, [.int (nI 12), .int (nI 96), .ref r2, .int (nI 0)])), (r2, .inl (cA, (12 * 96), .inl (fun _ => 0))), (o0, .inr (2, [.ref o1, .int 0, .int 0])), (o1, .inr (4, [.int (nI 11), .int (nI 192), .ref o2, .int (nI 0)])), (o2, .inl (cA, (11 * 192), .inl (fun _ => 0))), (q3, .inl (cA, 6, .inl (fun _ => 0)))] := hD
  refine W.widen (k := 12) (n := 3774) (by first | exact Nat.le_of_ble_eq_true rfl | omega) (by first | exact Nat.le_of_ble_eq_true rfl | exact Nat.le_of_eq (Nat.zero_add _) | omega) ?_
  refine va_putF (D := (dC, dI)) (ci := 0) (v := .ref q3) (ty := (.array .int)) (C := qR_X) (T := qT_X) (N := 13) hx hb hts qin_X qty_X qtyok_X qnm_X hown hK hP hD hS 0 rfl rfl 5 (by decide) (hts _ mw_121) (fun _ h9 => h9) rfl hin rfl (by decide +kernel) rfl rfl (Nat.le_of_ble_eq_true rfl) qd_X_init_56 (fun H locs hP hD hS => ?_)
  have hP : va_P (dC, dI) vwCl [(h0, .inr (0, [.ref q1, .ref q2, .ref v0, .ref r0, .ref o0, .ref q3, .int 0, .int 0, .int 0, .int 0, .int 0, .int 0, .int 0])), (q1, .inl (cA, 4, .inl (fun _ => 0))), (q2, .inl (cA, 3, .inl (fun _ => 0))), (v0, .inr (5, [.ref v1])), (v1, .inr (4, [.int (nI 3), .int (nI 160), .ref v2, .int (nI 0)])), (v2, .inl (cA, (3 * 160), .inl (fun _ => 0))), (r0, .inr (3, [.ref r1])), (r1, .inr (4, [.int (nI 12), .int (nI 96), .ref r2, .int (nI 0)])), (r2, .inl (cA, (12 * 96), .inl (fun _ => 0))), (o0, .inr (2, [.ref o1, .int 0, .int 0])), (o1, .inr (4, [.int (nI 11), .int (nI 192), .ref o2, .int (nI 0)])), (o2, .inl (cA, (11 * 192), .inl (fun _ => 0))), (q3, .inl (cA, 6, .inl (fun _ => 0)))] H := hP
  have hD : va_D A [(h0, .inr (0, [.ref q1, .ref q2, .ref v0, .ref r0, .ref o0, .ref q3, .int 0, .int 0, .int 0, .int 0, .int 0, .int 0, .int 0])), (q1, .inl (cA, 4, .inl (fun _ => 0))), (q2, .inl (cA, 3, .inl (fun _ => 0))), (v0, .inr (5, [.ref v1])), (v1, .inr (4, [.int (nI 3), .int (nI 160), .ref v2, .int (nI 0)])), (v2, .inl (cA, (3 * 160), .inl (fun _ => 0))), (r0, .inr (3, [.ref r1])), (r1, .inr (4, [.int (nI 12), .int (nI 96), .ref r2, .int (nI 0)])), (r2, .inl (cA, (12 * 96), .inl (fun _ => 0))), (o0, .inr (2, [.ref o1, .int 0, .int 0])), (o1, .inr (4, [.int (nI 11), .int (nI 192), .ref o2, .int (nI 0)])), (o2, .inl (cA, (11 * 192), .inl (fun _ => 0))), (q3, .inl (cA, 6, .inl (fun _ => 0)))] := hD
  have hP : va_P (dC, dI) vwCl (wX (ad13 h0 q1 q2 q3 v0 v1 v2 r0 r1 r2 o0 o1 o2) cA (fun _ => 0) (fun _ => 0) (fun _ => 0) (fun _ => 0) 0 0 0 (fun _ => 0) 0 (fun _ => 0) 0 (fun _ => 0)) H := mk_Psub hP [0, 1, 2, 12, 3, 4, 5, 6, 7, 8, 9, 10, 11] rfl
  have hD : va_D A (wX (ad13 h0 q1 q2 q3 v0 v1 v2 r0 r1 r2 o0 o1 o2) cA (fun _ => 0) (fun _ => 0) (fun _ => 0) (fun _ => 0) 0 0 0 (fun _ => 0) 0 (fun _ => 0) 0 (fun _ => 0)) := hD.sub [0, 1, 2, 12, 3, 4, 5, 6, 7, 8, 9, 10, 11] (by decide) rfl
  exact mk_mvret (ad13 h0 q1 q2 q3 v0 v1 v2 r0 r1 r2 o0 o1 o2) hx hb hr hlocks hP hK hD hS qd_X_init_59 rfl
end
section
/-! the VERSIONS' order -/
def vs_lt (a b : Nat → Int32) : Prop := a 2 < b 2 ∨ (a 2 = b 2 ∧ a 0 < b 0)
def vs_sorted (V : List (Nat → Int32)) : Prop := ∀ (i j : Nat) (ri rj : Nat → Int32), i < j → V[i]? = some ri → V[j]? = some rj → vs_lt ri rj
theorem vs_lt_nb {a b : Nat → Int32} {pl fr : Int32} (h : vs_lt a b) (hb : vs_nb pl fr b) : vs_nb pl fr a := by
  unfold vs_lt at h
  unfold vs_nb at *
  rw [Int32.lt_iff_toInt_lt, Int32.lt_iff_toInt_lt, ← Int32.toInt_inj] at h
  rw [Int32.lt_iff_toInt_lt, Int32.le_iff_toInt_le, ← Int32.toInt_inj] at hb ⊢
  omega
theorem vs_cuts {V : List (Nat → Int32)} (hs : vs_sorted V) (pl fr : Int32) : ∃ k, vs_cut V pl fr k := by
  have key : ∀ n, n ≤ V.length → ∃ k, k ≤ n ∧ ∀ (i : Nat) (r : Nat → Int32), i < n → V[i]? = some r → (i < k ↔ vs_nb pl fr r) := by
    intro n
    induction n with
    | zero => exact fun _ => ⟨0, Nat.le_refl _, fun i r h => absurd h (Nat.not_lt_zero _)⟩
    | succ n ih =>
      intro hn
      have hr : V[n]? = some (V[n]'(by omega)) := List.getElem?_eq_getElem (by omega)
      by_cases hb : vs_nb pl fr (V[n]'(by omega))
      · refine ⟨n + 1, Nat.le_refl _, fun i r hi h => ⟨fun _ => ?_, fun _ => hi⟩⟩
        rcases Nat.lt_or_ge i n with q | q
        · exact vs_lt_nb (hs i n r _ q h hr) hb
        · obtain rfl : i = n := by omega
          rw [hr] at h
          rw [← Option.some.inj h]
          exact hb
      · obtain ⟨k, hk, h⟩ := ih (by omega)
        refine ⟨k, by omega, fun i r hi hir => ?_⟩
        rcases Nat.lt_or_ge i n with q | q
        · exact h i r q hir
        · obtain rfl : i = n := by omega
          rw [hr] at hir
          rw [← Option.some.inj hir]
          exact ⟨fun z => absurd z (by omega), fun z => absurd z hb⟩
  obtain ⟨k, hk, h⟩ := key V.length (Nat.le_refl _)
  exact ⟨k, hk, fun i r hir => h i r (List.getElem?_eq_some_iff.mp hir).1 hir⟩
theorem vs_lt_c {a b a' b' : Nat → Int32} (ha2 : a' 2 = a 2) (ha0 : a' 0 = a 0) (hb2 : b' 2 = b 2) (hb0 : b' 0 = b 0) (h : vs_lt a b) : vs_lt a' b' := by
  unfold vs_lt at *
  rw [ha2, ha0, hb2, hb0]
  exact h
theorem vs_put_sorted {V V' : List (Nat → Int32)} {pl fr vl : Int32} {k : Nat} (hs : vs_sorted V) (hc : vs_cut V pl fr k) (hp : vs_put V pl fr vl k V') : vs_sorted V' := by
  rcases hp with ⟨r0, h0, hr, e2, e0, rfl⟩ | ⟨hm, r1, f0, -, f2, rfl⟩
  · have col : ∀ (i : Nat) (r : Nat → Int32), (V.set (k - 1) (upd r0 1 vl))[i]? = some r → ∃ r', V[i]? = some r' ∧ r 2 = r' 2 ∧ r 0 = r' 0 := by
      intro i r h
      rw [List.getElem?_set] at h
      by_cases q : k - 1 = i
      · subst q
        rw [if_pos rfl, if_pos (List.getElem?_eq_some_iff.mp hr).1] at h
        obtain rfl := Option.some.inj h
        exact ⟨r0, hr, rfl, rfl⟩
      · rw [if_neg q] at h
        exact ⟨r, h, rfl, rfl⟩
    intro i j ri rj hij hi hj
    obtain ⟨ri', hi', a1, a2⟩ := col i ri hi
    obtain ⟨rj', hj', b1, b2⟩ := col j rj hj
    exact vs_lt_c a1 a2 b1 b2 (hs i j ri' rj' hij hi' hj')
  · have lo : ∀ (i : Nat) (r : Nat → Int32), i < k → V[i]? = some r → vs_lt r r1 := by
      intro i r hi hr
      have h1 := (hc.2 i r hr).mp hi
      unfold vs_lt
      rw [f2, f0]
      rcases h1 with h1 | ⟨h1, h2⟩
      · exact Or.inl h1
      · refine Or.inr ⟨h1, ?_⟩
        have hkk : k - 1 < V.length := by have := hc.1; omega
        have hr2 : V[k - 1]? = some (V[k - 1]'hkk) := List.getElem?_eq_getElem hkk
        have h3 := (hc.2 (k - 1) _ hr2).mp (by omega)
        have h4 := hm _ (by omega) hr2
        rcases Nat.lt_or_ge i (k - 1) with q | q
        · have h5 := hs i (k - 1) r _ q hr hr2
          unfold vs_lt at h5
          unfold vs_nb at h3
          rw [Int32.lt_iff_toInt_lt, Int32.le_iff_toInt_le, ← Int32.toInt_inj] at h3
          rw [Int32.lt_iff_toInt_lt, Int32.lt_iff_toInt_lt, ← Int32.toInt_inj, h1] at h5
          rw [Int32.lt_iff_toInt_lt]
          omega
        · obtain rfl : i = k - 1 := by omega
          rw [hr2] at hr
          obtain rfl := Option.some.inj hr
          rw [Int32.le_iff_toInt_le] at h2
          rw [Int32.lt_iff_toInt_lt]
          have h6 : ¬ ((V[k - 1]'hkk) 0).toInt = fr.toInt := fun z => h4 ⟨h1, Int32.toInt_inj.mp z⟩
          omega
    have hi' : ∀ (i : Nat) (r : Nat → Int32), k ≤ i → V[i]? = some r → vs_lt r1 r := by
      intro i r hi hr
      have h1 : ¬ vs_nb pl fr r := fun z => absurd ((hc.2 i r hr).mpr z) (by omega)
      unfold vs_nb at h1
      unfold vs_lt
      rw [f2, f0]
      rw [Int32.lt_iff_toInt_lt, Int32.le_iff_toInt_le, ← Int32.toInt_inj] at h1
      rw [Int32.lt_iff_toInt_lt, Int32.lt_iff_toInt_lt, ← Int32.toInt_inj]
      omega
    intro i j ri rj hij hri hrj
    rw [ls_ins hc.1] at hri hrj
    by_cases h1 : i < k
    · rw [if_pos h1] at hri
      by_cases h2 : j < k
      · rw [if_pos h2] at hrj; exact hs i j ri rj hij hri hrj
      · rw [if_neg h2] at hrj
        by_cases h3 : j = k
        · rw [if_pos h3] at hrj; obtain rfl := Option.some.inj hrj; exact lo i ri h1 hri
        · rw [if_neg h3] at hrj; exact hs i (j - 1) ri rj (by omega) hri hrj
    · rw [if_neg h1] at hri
      rw [if_neg (by omega), if_neg (by omega)] at hrj
      by_cases h3 : i = k
      · rw [if_pos h3] at hri; obtain rfl := Option.some.inj hri; exact hi' (j - 1) rj (by omega) hrj
      · rw [if_neg h3] at hri; exact hs (i - 1) (j - 1) ri rj (by omega) hri hrj
/-- a property of each line -/
def vs_all (P : (Nat → Int32) → Prop) (V : List (Nat → Int32)) : Prop := ∀ (i : Nat) (r : Nat → Int32), V[i]? = some r → P r
theorem vs_all_mem {P : (Nat → Int32) → Prop} {V : List (Nat → Int32)} : vs_all P V ↔ ∀ r ∈ V, P r :=
  ⟨fun h r hr => by obtain ⟨i, hi⟩ := List.getElem?_of_mem hr; exact h i r hi, fun h i r hi => h r (List.mem_of_getElem? hi)⟩
theorem vs_all_set {P : (Nat → Int32) → Prop} {V : List (Nat → Int32)} {i : Nat} {x : Nat → Int32} (h : vs_all P V) (hx : P x) : vs_all P (V.set i x) := by
  rw [vs_all_mem] at *
  intro r hr
  rcases List.mem_or_eq_of_mem_set hr with q | q
  · exact h r q
  · rw [q]; exact hx
theorem vs_all_ins {P : (Nat → Int32) → Prop} {V : List (Nat → Int32)} {k : Nat} {x : Nat → Int32} (h : vs_all P V) (hx : P x) : vs_all P (V.take k ++ x :: V.drop k) := by
  rw [vs_all_mem] at *
  intro r hr
  rcases List.mem_append.mp hr with q | q
  · exact h r (List.mem_of_mem_take q)
  · rcases List.mem_cons.mp q with q | q
    · rw [q]; exact hx
    · exact h r (List.mem_of_mem_drop q)
theorem vs_all_map {P : (Nat → Int32) → Prop} {V : List (Nat → Int32)} {F : (Nat → Int32) → (Nat → Int32)} (h : vs_all P V) (hF : ∀ r, P r → P (F r)) : vs_all P (V.map F) := by
  rw [vs_all_mem] at *
  intro r hr
  obtain ⟨r', h1, rfl⟩ := List.mem_map.mp hr
  exact hF r' (h r' h1)
theorem vs_all_filter {P : (Nat → Int32) → Prop} {V : List (Nat → Int32)} {q : (Nat → Int32) → Bool} (h : vs_all P V) : vs_all P (V.filter q) := by
  rw [vs_all_mem] at *
  exact fun r hr => h r (List.mem_filter.mp hr).1
/-- a VERSION's place is one of 48 -/
def vs_pl (r : Nat → Int32) : Prop := ∃ p9, p9 < 48 ∧ r 2 = nI p9
/-- a ROW's KEY is one of 16 -/
def rs_ky (r : Nat → Int32) : Prop := ∃ kn, kn < 16 ∧ r 1 = nI kn
theorem vs_put_pl {V V' : List (Nat → Int32)} {fr vl : Int32} {k p : Nat} (h : vs_all vs_pl V) (hp9 : p < 48) (hp : vs_put V (nI p) fr vl k V') : vs_all vs_pl V' := by
  rcases hp with ⟨r0, h0, hr, e2, e0, rfl⟩ | ⟨hm, r1, f0, -, f2, rfl⟩
  · exact vs_all_set h ⟨p, hp9, e2⟩
  · exact vs_all_ins h ⟨p, hp9, f2⟩
theorem vs_put_len {V V' : List (Nat → Int32)} {pl fr vl : Int32} {k : Nat} (hk : k ≤ V.length) (hp : vs_put V pl fr vl k V') : V'.length ≤ V.length + 1 := by
  rcases hp with ⟨r0, h0, hr, e2, e0, rfl⟩ | ⟨hm, r1, f0, -, f2, rfl⟩
  · rw [List.length_set]; omega
  · rw [ls_ins_len hk]; omega
theorem vs_cut_mono {V : List (Nat → Int32)} {pl f1 f2 : Int32} {k1 k2 : Nat} (h1 : vs_cut V pl f1 k1) (h2 : vs_cut V pl f2 k2) (hf : f1 ≤ f2) : k1 ≤ k2 := by
  rcases Nat.lt_or_ge k2 k1 with q | q
  · have hk : k2 < V.length := by have := h1.1; omega
    have hr : V[k2]? = some (V[k2]'hk) := List.getElem?_eq_getElem hk
    have a := (h1.2 k2 _ hr).mp q
    have b : vs_nb pl f2 (V[k2]'hk) := by
      rcases a with a | ⟨a, b⟩
      · exact Or.inl a
      · refine Or.inr ⟨a, ?_⟩
        rw [Int32.le_iff_toInt_le] at *
        omega
    exact absurd ((h2.2 k2 _ hr).mpr b) (Nat.lt_irrefl _)
  · exact q
theorem jr_ky {V : List (Nat → Int32)} {ru : Nat → Int32} {n : Nat} {low : Int32} (r : Nat → Int32) (h : rs_ky r) : rs_ky (jr_row V ru n low r) := by
  obtain ⟨kn, h1, h2⟩ := h
  refine ⟨kn, h1, ?_⟩
  unfold jr_row
  split
  · exact h2
  · exact h2
theorem cw_ky {V : List (Nat → Int32)} {ru : Nat → Int32} {n : Nat} {ky : Int32} (r : Nat → Int32) (h : rs_ky r) : rs_ky (cw_row V ru n ky r) := by
  obtain ⟨kn, h1, h2⟩ := h
  refine ⟨kn, h1, ?_⟩
  unfold cw_row cr_new
  split
  · split
    · exact h2
    · exact h2
  · exact h2
end
section
/-! the public methods -/
def xi_ok (x : Nat → Int32) (V : List (Nat → Int32)) (fV : Nat → Int32) (R : List (Nat → Int32)) (fR : Nat → Int32) (Lo : List (Nat → Int32)) (fO : Nat → Int32) (n3 : Nat) : Prop :=
  sh_wf 3 160 fV V ∧ sh_wf 12 96 fR R ∧ sh_wf 11 192 fO Lo ∧ vs_sorted V ∧ vs_all vs_pl V ∧ vs_all rs_ky R ∧ x 6 = nI n3 ∧ n3 ≤ 3
def xr_bad (wh v : Int32) : Prop := wh < 0 ∨ 4 ≤ wh ∨ v < 0 ∨ (wh = 3 ∧ 1000 < v) ∨ (¬ wh = 3 ∧ 1 < v)
theorem xr_ok {wh v : Int32} (h1 : ¬ wh < 0) (h2 : ¬ 4 ≤ wh) (h3 : ¬ v < 0) (h4 : (wh = 3 ∧ v ≤ 1000) ∨ (¬ wh = 3 ∧ v ≤ 1)) : ¬ xr_bad wh v := by
  intro q
  rcases q with q | q | q | q | q
  · exact h1 q
  · exact h2 q
  · exact h3 q
  · rcases h4 with h | h
    · exact sh_nlt h.2 q.2
    · exact h.1 q.1
  · rcases h4 with h | h
    · exact q.1 h.1
    · exact sh_nlt h.2 q.2
theorem xk_nat {k : Int32} (h : ¬ xk_b k = 0) : ∃ kn : Nat, kn < 16 ∧ k = nI kn := by
  have h2 := rs_n2 h
  exact sh_nat (n := 16) (by decide) h2.1 h2.2
end
section
set_option maxHeartbeats 4000000 in
set_option maxRecDepth 100000 in
/-- table() -/
theorem c_X_table (l : Launch) (dC : Nat → ClassId) (dI : Nat → Nat → Nat) (cA : ClassId) (sz : Nat) (a : Nat → Nat) (x ru ma jo : Nat → Int32) (gv tk : Int32) (kV : Nat) (fV : Nat → Int32) (kR : Nat) (fR : Nat → Int32) (kO : Nat) (fO : Nat → Int32) : Met l qy_X_table qw_X_table ({ frames := 0, cells := 0, slots := 0, locals := 0 }) (mk_mu [.ref (a 0)] sz (dC, dI) vwCl [(cA, .int)] (wX a cA x ru ma jo gv tk kV fV kR fR kO fO)) (mk_muQ (S := Nat → Int32) (fun r u => (¬ x 6 < 3 ∧ r = -3 ∧ u = x) ∨ (x 6 < 3 ∧ ¬ x 12 = 0 ∧ r = -5 ∧ u = x) ∨ (x 6 < 3 ∧ x 12 = 0 ∧ r = x 6 + 1 - 1 ∧ u = upd x 6 (x 6 + 1))) (fun u => (wX a cA u ru ma jo gv tk kV fV kR fR kO fO)) (dC, dI) vwCl [(cA, .int)] (va_A (wX a cA x ru ma jo gv tk kV fV kR fR kO fO) sz)) 0 0 (va_A (wX a cA x ru ma jo gv tk kV fV kR fR kO fO) sz) := by
  refine Met.ofW (cc := qb_X_table) (maxL := 1) (ret := (some .int)) (by decide) rfl ?_
  intro p e s m args below meth c s₁ B hml hpre
  obtain ⟨rfl, hsz, hP, hK, hD0⟩ := hpre
  have hx := B.exec
  have hb := B.bytes
  have hr := B.returns
  have hts0 := atoms_spec (ws := qw_X_table) B.pre
  have hts := fun w (h : w ∈ lw_gd) => hts0 w (List.mem_cons_of_mem _ h)
  have hown : s.vm.findClass qR_X = some m.cls := findClass_of_methodNamed B.named
  have hlocks := B.notSynchronized
  subst hsz
  have hD := hD0.self (sz := s.heap.size)
  generalize hAe : va_A (wX a cA x ru ma jo gv tk kV fV kR fR kO fO) s.heap.size = A at hD ⊢
  have hA : ∀ q : Nat, s.heap.size ≤ q → A q := fun q h => by rw [← hAe]; exact Or.inr h
  have hS : va_S A s.heap s.heap [] := va_S.rf
  have hl := lv_entry ([.ref (a 0)]) (n := 1) (Nat.le_of_ble_eq_true rfl)
  rw [lg_entry_eq]
  generalize (lg_sl ([.ref (a 0)]) ++ List.replicate (1 - (lg_sl ([.ref (a 0)])).length) Slot.unset).toArray = ls at hl ⊢
  have hl : lv_has ls 1 [(0, .ref (a 0))] := hl
  have hP : va_P (dC, dI) vwCl (wX a cA x ru ma jo gv tk kV fV kR fR kO fO) s.heap := hP
  refine mk_start (A := A) hP (fun H locs hP hS => ?_)
  refine lv_aload_n hx hb qd_X_table_0 rfl (lv_at hl 0 rfl) ?_
  refine va_get (D := (dC, dI)) (ci := 0) (v := .int (x 6)) (C := qR_X) (T := qT_X) (N := 13) hx hb hts qin_X hown hK hP 0 rfl rfl 6 (by decide) (hts _ mw_122) (fun _ h9 => h9) rfl qd_X_table_1 ?_
  refine lv_iconst (v := 3) hx hb qd_X_table_4 (by decide) ?_
  refine lv_icmp_lt (tgt := 11) hx hb qd_X_table_5 (by decide) (fun c_1 => ?_) (fun c_1 => ?_)
  · refine lv_aload_n hx hb qd_X_table_11 rfl (lv_at hl 0 rfl) ?_
    refine va_get (D := (dC, dI)) (ci := 0) (v := .int (x 12)) (C := qR_X) (T := qT_X) (N := 13) hx hb hts qin_X hown hK hP 0 rfl rfl 12 (by decide) (hts _ mw_128) (fun _ h9 => h9) rfl qd_X_table_12 ?_
    refine lv_if_eq (tgt := 21) hx hb qd_X_table_15 (by decide) (fun c_2 => ?_) (fun c_2 => ?_)
    · refine lv_aload_n hx hb qd_X_table_21 rfl (lv_at hl 0 rfl) ?_
      refine lv_dup hx hb qd_X_table_22 rfl ?_
      refine va_get (D := (dC, dI)) (ci := 0) (v := .int (x 6)) (C := qR_X) (T := qT_X) (N := 13) hx hb hts qin_X hown hK hP 0 rfl rfl 6 (by decide) (hts _ mw_122) (fun _ h9 => h9) rfl qd_X_table_23 ?_
      refine lv_iconst (v := 1) hx hb qd_X_table_26 (by decide) ?_
      refine lv_iadd hx hb qd_X_table_27 ?_
      refine va_put (D := (dC, dI)) (ci := 0) (v := .int ((x 6) + 1)) (ty := .int) (C := qR_X) (T := qT_X) (N := 13) hx hb hts qin_X qty_X qtyok_X qnm_X hown hK hP hD hS 0 rfl rfl 6 (by decide) (hts _ mw_122) (fun _ h9 => h9) rfl (by decide +kernel) rfl rfl (Nat.le_of_ble_eq_true rfl) qd_X_table_28 (fun H locs hP hD hS => ?_)
      have hP : va_P (dC, dI) vwCl (wX a cA (upd x 6 ((x 6) + 1)) ru ma jo gv tk kV fV kR fR kO fO) H := hP
      have hD : va_D A (wX a cA (upd x 6 ((x 6) + 1)) ru ma jo gv tk kV fV kR fR kO fO) := hD
      refine lv_aload_n hx hb qd_X_table_31 rfl (lv_at hl 0 rfl) ?_
      refine va_get (D := (dC, dI)) (ci := 0) (v := .int ((x 6) + 1)) (C := qR_X) (T := qT_X) (N := 13) hx hb hts qin_X hown hK hP 0 rfl rfl 6 (by decide) (hts _ mw_122) (fun _ h9 => h9) rfl qd_X_table_32 ?_
      refine lv_iconst (v := 1) hx hb qd_X_table_35 (by decide) ?_
      refine lv_isub hx hb qd_X_table_36 ?_
      exact mk_miret (upd x 6 (x 6 + 1)) hx hb hr hlocks hP hK hD hS qd_X_table_37 (Or.inr (Or.inr ⟨c_1, c_2, rfl, rfl⟩))
    · refine lv_bipush (v := (-5)) hx hb qd_X_table_18 (by decide) ?_
      exact mk_miret x hx hb hr hlocks hP hK hD hS qd_X_table_20 (Or.inr (Or.inl ⟨c_1, c_2, rfl, rfl⟩))
  · refine lv_bipush (v := (-3)) hx hb qd_X_table_8 (by decide) ?_
    exact mk_miret x hx hb hr hlocks hP hK hD hS qd_X_table_10 (Or.inl ⟨c_1, rfl, rfl⟩)
set_option maxHeartbeats 4000000 in
set_option maxRecDepth 100000 in
/-- rule(what, v) -/
theorem c_X_rule (l : Launch) (dC : Nat → ClassId) (dI : Nat → Nat → Nat) (cA : ClassId) (sz : Nat) (a : Nat → Nat) (x ru ma jo : Nat → Int32) (gv tk : Int32) (kV : Nat) (fV : Nat → Int32) (kR : Nat) (fR : Nat → Int32) (kO : Nat) (fO : Nat → Int32) (wh v : Int32) : Met l qy_X_rule qw_X_rule ({ frames := 0, cells := 0, slots := 0, locals := 0 }) (mk_mu [.ref (a 0), .int wh, .int v] sz (dC, dI) vwCl [(cA, .int)] (wX a cA x ru ma jo gv tk kV fV kR fR kO fO)) (mk_muQ (S := Nat → Int32) (fun r u => (xr_bad wh v ∧ r = -1 ∧ u = ru) ∨ (¬ xr_bad wh v ∧ ¬ x 12 = 0 ∧ r = -5 ∧ u = ru) ∨ (¬ xr_bad wh v ∧ x 12 = 0 ∧ ∃ w', w' < 4 ∧ wh = nI w' ∧ r = ru w' ∧ u = upd ru w' v)) (fun u => (wX a cA x u ma jo gv tk kV fV kR fR kO fO)) (dC, dI) vwCl [(cA, .int)] (va_A (wX a cA x ru ma jo gv tk kV fV kR fR kO fO) sz)) 0 0 (va_A (wX a cA x ru ma jo gv tk kV fV kR fR kO fO) sz) := by
  refine Met.ofW (cc := qb_X_rule) (maxL := 4) (ret := (some .int)) (by decide) rfl ?_
  intro p e s m args below meth c s₁ B hml hpre
  obtain ⟨rfl, hsz, hP, hK, hD0⟩ := hpre
  have hx := B.exec
  have hb := B.bytes
  have hr := B.returns
  have hts0 := atoms_spec (ws := qw_X_rule) B.pre
  have hts := fun w (h : w ∈ lw_gd) => hts0 w (List.mem_cons_of_mem _ h)
  have hown : s.vm.findClass qR_X = some m.cls := findClass_of_methodNamed B.named
  have hlocks := B.notSynchronized
  subst hsz
  have hD := hD0.self (sz := s.heap.size)
  generalize hAe : va_A (wX a cA x ru ma jo gv tk kV fV kR fR kO fO) s.heap.size = A at hD ⊢
  have hA : ∀ q : Nat, s.heap.size ≤ q → A q := fun q h => by rw [← hAe]; exact Or.inr h
  have hS : va_S A s.heap s.heap [] := va_S.rf
  have hl := lv_entry ([.ref (a 0), .int wh, .int v]) (n := 4) (Nat.le_of_ble_eq_true rfl)
  rw [lg_entry_eq]
  generalize (lg_sl ([.ref (a 0), .int wh, .int v]) ++ List.replicate (4 - (lg_sl ([.ref (a 0), .int wh, .int v])).length) Slot.unset).toArray = ls at hl ⊢
  have hl : lv_has ls 4 [(0, .ref (a 0)), (1, .int wh), (2, .int v)] := hl
  have hP : va_P (dC, dI) vwCl (wX a cA x ru ma jo gv tk kV fV kR fR kO fO) s.heap := hP
  refine mk_start (A := A) hP (fun H locs hP hS => ?_)
  refine lv_iload_n hx hb qd_X_rule_0 rfl (lv_at hl 1 rfl) ?_
  refine lv_if_lt (tgt := 29) hx hb qd_X_rule_1 (by decide) (fun c_1 => ?_) (fun c_1 => ?_)
  · refine lv_iconst (v := (-1)) hx hb qd_X_rule_29 (by decide) ?_
    exact mk_miret ru hx hb hr hlocks hP hK hD hS qd_X_rule_30 (Or.inl ⟨Or.inl c_1, rfl, rfl⟩)
  · refine lv_iload_n hx hb qd_X_rule_4 rfl (lv_at hl 1 rfl) ?_
    refine lv_iconst (v := 4) hx hb qd_X_rule_5 (by decide) ?_
    refine lv_icmp_ge (tgt := 29) hx hb qd_X_rule_6 (by decide) (fun c_2 => ?_) (fun c_2 => ?_)
    · refine lv_iconst (v := (-1)) hx hb qd_X_rule_29 (by decide) ?_
      exact mk_miret ru hx hb hr hlocks hP hK hD hS qd_X_rule_30 (Or.inl ⟨Or.inr (Or.inl c_2), rfl, rfl⟩)
    · refine lv_iload_n hx hb qd_X_rule_9 rfl (lv_at hl 2 rfl) ?_
      refine lv_if_lt (tgt := 29) hx hb qd_X_rule_10 (by decide) (fun c_3 => ?_) (fun c_3 => ?_)
      · refine lv_iconst (v := (-1)) hx hb qd_X_rule_29 (by decide) ?_
        exact mk_miret ru hx hb hr hlocks hP hK hD hS qd_X_rule_30 (Or.inl ⟨Or.inr (Or.inr (Or.inl c_3)), rfl, rfl⟩)
      · refine lv_iload_n hx hb qd_X_rule_13 rfl (lv_at hl 2 rfl) ?_
        refine lv_iload_n hx hb qd_X_rule_14 rfl (lv_at hl 1 rfl) ?_
        refine lv_iconst (v := 3) hx hb qd_X_rule_15 (by decide) ?_
        refine lv_icmp_ne (tgt := 25) hx hb qd_X_rule_16 (by decide) (fun c_4 => ?_) (fun c_4 => ?_)
        · refine lv_iconst (v := 1) hx hb qd_X_rule_25 (by decide) ?_
          refine lv_icmp_le (tgt := 31) hx hb qd_X_rule_26 (by decide) (fun c_5 => ?_) (fun c_5 => ?_)
          · have hg : ¬ xr_bad wh v := xr_ok c_1 c_2 c_3 (Or.inr ⟨c_4, c_5⟩)
            obtain ⟨w', hw', ew⟩ := sh_nat (n := 4) (by decide) c_1 c_2
            refine lv_aload_n hx hb qd_X_rule_31 rfl (lv_at hl 0 rfl) ?_
            refine va_get (D := (dC, dI)) (ci := 0) (v := .int (x 12)) (C := qR_X) (T := qT_X) (N := 13) hx hb hts qin_X hown hK hP 0 rfl rfl 12 (by decide) (hts _ mw_128) (fun _ h9 => h9) rfl qd_X_rule_32 ?_
            refine lv_if_eq (tgt := 41) hx hb qd_X_rule_35 (by decide) (fun c_6 => ?_) (fun c_6 => ?_)
            · refine lv_aload_n hx hb qd_X_rule_41 rfl (lv_at hl 0 rfl) ?_
              refine va_get (D := (dC, dI)) (ci := 0) (v := .ref (a 1)) (C := qR_X) (T := qT_X) (N := 13) hx hb hts qin_X hown hK hP 0 rfl rfl 0 (by decide) (hts _ mw_116) (fun _ h9 => h9) rfl qd_X_rule_42 ?_
              refine lv_iload_n hx hb qd_X_rule_45 rfl (lv_at hl 1 rfl) ?_
              refine mk_rw (y := nI w') (ew) ?_
              refine va_iald (i := (nI w')) hx hb hK hP 1 0 rfl rfl (vp_in_nI (by omega) (by omega)) qd_X_rule_46 ?_
              refine mk_rw (y := ru w') (congrArg _ (nI_clamp (by omega))) ?_
              refine lv_istore_n (lv' := [(3, .int (ru w')), (0, .ref (a 0)), (1, .int wh), (2, .int v)]) hx hb qd_X_rule_47 rfl hl (by decide) rfl (fun ls hl => ?_)
              refine lv_aload_n hx hb qd_X_rule_48 rfl (lv_at hl 1 rfl) ?_
              refine va_get (D := (dC, dI)) (ci := 0) (v := .ref (a 1)) (C := qR_X) (T := qT_X) (N := 13) hx hb hts qin_X hown hK hP 0 rfl rfl 0 (by decide) (hts _ mw_116) (fun _ h9 => h9) rfl qd_X_rule_49 ?_
              refine lv_iload_n hx hb qd_X_rule_52 rfl (lv_at hl 2 rfl) ?_
              refine lv_iload_n hx hb qd_X_rule_53 rfl (lv_at hl 3 rfl) ?_
              refine mk_rw2 (y := nI w') ew ?_
              refine va_iast (i := (nI w')) (x := v) hx hb hK hP hD hS 1 0 rfl rfl (vp_in_nI (by omega) (by omega)) qd_X_rule_54 (fun H locs hP hD hS => ?_)
              rw [show Int32.toNatClampNeg (nI w') = w' from (nI_clamp (by omega))] at hP hD
              have hP : va_P (dC, dI) vwCl (wX a cA x (upd ru w' v) ma jo gv tk kV fV kR fR kO fO) H := hP
              have hD : va_D A (wX a cA x (upd ru w' v) ma jo gv tk kV fV kR fR kO fO) := hD
              refine lv_iload_n hx hb qd_X_rule_55 rfl (lv_at hl 0 rfl) ?_
              exact mk_miret (upd ru w' v) hx hb hr hlocks hP hK hD hS qd_X_rule_56 (Or.inr (Or.inr ⟨hg, c_6, w', hw', ew, rfl, rfl⟩))
            · refine lv_bipush (v := (-5)) hx hb qd_X_rule_38 (by decide) ?_
              exact mk_miret ru hx hb hr hlocks hP hK hD hS qd_X_rule_40 (Or.inr (Or.inl ⟨hg, c_6, rfl, rfl⟩))
          · refine lv_iconst (v := (-1)) hx hb qd_X_rule_29 (by decide) ?_
            exact mk_miret ru hx hb hr hlocks hP hK hD hS qd_X_rule_30 (Or.inl ⟨Or.inr (Or.inr (Or.inr (Or.inr ⟨c_4, sh_lt_of c_5⟩))), rfl, rfl⟩)
        · refine lv_sipush (v := 1000) hx hb qd_X_rule_19 (by decide) ?_
          refine lv_goto (tgt := 26) hx hb qd_X_rule_22 (by decide) ?_
          refine lv_icmp_le (tgt := 31) hx hb qd_X_rule_26 (by decide) (fun c_7 => ?_) (fun c_7 => ?_)
          · have hg : ¬ xr_bad wh v := xr_ok c_1 c_2 c_3 (Or.inl ⟨c_4, c_7⟩)
            obtain ⟨w', hw', ew⟩ := sh_nat (n := 4) (by decide) c_1 c_2
            refine lv_aload_n hx hb qd_X_rule_31 rfl (lv_at hl 0 rfl) ?_
            refine va_get (D := (dC, dI)) (ci := 0) (v := .int (x 12)) (C := qR_X) (T := qT_X) (N := 13) hx hb hts qin_X hown hK hP 0 rfl rfl 12 (by decide) (hts _ mw_128) (fun _ h9 => h9) rfl qd_X_rule_32 ?_
            refine lv_if_eq (tgt := 41) hx hb qd_X_rule_35 (by decide) (fun c_8 => ?_) (fun c_8 => ?_)
            · refine lv_aload_n hx hb qd_X_rule_41 rfl (lv_at hl 0 rfl) ?_
              refine va_get (D := (dC, dI)) (ci := 0) (v := .ref (a 1)) (C := qR_X) (T := qT_X) (N := 13) hx hb hts qin_X hown hK hP 0 rfl rfl 0 (by decide) (hts _ mw_116) (fun _ h9 => h9) rfl qd_X_rule_42 ?_
              refine lv_iload_n hx hb qd_X_rule_45 rfl (lv_at hl 1 rfl) ?_
              refine mk_rw (y := nI w') (ew) ?_
              refine va_iald (i := (nI w')) hx hb hK hP 1 0 rfl rfl (vp_in_nI (by omega) (by omega)) qd_X_rule_46 ?_
              refine mk_rw (y := ru w') (congrArg _ (nI_clamp (by omega))) ?_
              refine lv_istore_n (lv' := [(3, .int (ru w')), (0, .ref (a 0)), (1, .int wh), (2, .int v)]) hx hb qd_X_rule_47 rfl hl (by decide) rfl (fun ls hl => ?_)
              refine lv_aload_n hx hb qd_X_rule_48 rfl (lv_at hl 1 rfl) ?_
              refine va_get (D := (dC, dI)) (ci := 0) (v := .ref (a 1)) (C := qR_X) (T := qT_X) (N := 13) hx hb hts qin_X hown hK hP 0 rfl rfl 0 (by decide) (hts _ mw_116) (fun _ h9 => h9) rfl qd_X_rule_49 ?_
              refine lv_iload_n hx hb qd_X_rule_52 rfl (lv_at hl 2 rfl) ?_
              refine lv_iload_n hx hb qd_X_rule_53 rfl (lv_at hl 3 rfl) ?_
              refine mk_rw2 (y := nI w') ew ?_
              refine va_iast (i := (nI w')) (x := v) hx hb hK hP hD hS 1 0 rfl rfl (vp_in_nI (by omega) (by omega)) qd_X_rule_54 (fun H locs hP hD hS => ?_)
              rw [show Int32.toNatClampNeg (nI w') = w' from (nI_clamp (by omega))] at hP hD
              have hP : va_P (dC, dI) vwCl (wX a cA x (upd ru w' v) ma jo gv tk kV fV kR fR kO fO) H := hP
              have hD : va_D A (wX a cA x (upd ru w' v) ma jo gv tk kV fV kR fR kO fO) := hD
              refine lv_iload_n hx hb qd_X_rule_55 rfl (lv_at hl 0 rfl) ?_
              exact mk_miret (upd ru w' v) hx hb hr hlocks hP hK hD hS qd_X_rule_56 (Or.inr (Or.inr ⟨hg, c_8, w', hw', ew, rfl, rfl⟩))
            · refine lv_bipush (v := (-5)) hx hb qd_X_rule_38 (by decide) ?_
              exact mk_miret ru hx hb hr hlocks hP hK hD hS qd_X_rule_40 (Or.inr (Or.inl ⟨hg, c_8, rfl, rfl⟩))
          · refine lv_iconst (v := (-1)) hx hb qd_X_rule_29 (by decide) ?_
            exact mk_miret ru hx hb hr hlocks hP hK hD hS qd_X_rule_30 (Or.inl ⟨Or.inr (Or.inr (Or.inr (Or.inl ⟨c_4, sh_lt_of c_7⟩))), rfl, rfl⟩)
set_option maxHeartbeats 4000000 in
set_option maxRecDepth 100000 in
/-- there(i, what) (that it answers) -/
theorem c_X_there (l : Launch) (dC : Nat → ClassId) (dI : Nat → Nat → Nat) (cA : ClassId) (sz : Nat) (a : Nat → Nat) (x ru ma jo : Nat → Int32) (gv tk : Int32) (V : List (Nat → Int32)) (fV : Nat → Int32) (R : List (Nat → Int32)) (fR : Nat → Int32) (Lo : List (Nat → Int32)) (fO : Nat → Int32) (n3 : Nat) (hi : xi_ok x V fV R fR Lo fO n3) (i wh : Int32) : Met l qy_X_there qw_X_there ({ frames := 2, cells := 0, slots := 0, locals := 44 }) (mk_ro [.ref (a 0), .int i, .int wh] sz (dC, dI) vwCl [(cA, .int)] (wX a cA x ru ma jo gv tk V.length fV R.length fR Lo.length fO)) (mk_roQ (fun _ => True) sz) 0 0 (mk_new sz) := by
  refine Met.ofW (cc := qb_X_there) (maxL := 3) (ret := (some .int)) (by decide) rfl ?_
  intro p e s m args below meth c s₁ B hml hpre
  obtain ⟨rfl, hsz, hP, hK⟩ := hpre
  have hx := B.exec
  have hb := B.bytes
  have hr := B.returns
  have hts0 := atoms_spec (ws := qw_X_there) B.pre
  have hts := fun w (h : w ∈ lw_gd) => hts0 w (List.mem_cons_of_mem _ h)
  have hown : s.vm.findClass qR_X = some m.cls := findClass_of_methodNamed B.named
  have hlocks := B.notSynchronized
  subst hsz
  have hA : ∀ q : Nat, s.heap.size ≤ q → mk_new s.heap.size q := fun _ h => h
  have hS : va_S (mk_new s.heap.size) s.heap s.heap [] := va_S.rf
  have hl := lv_entry ([.ref (a 0), .int i, .int wh]) (n := 3) (Nat.le_of_ble_eq_true rfl)
  rw [lg_entry_eq]
  generalize (lg_sl ([.ref (a 0), .int i, .int wh]) ++ List.replicate (3 - (lg_sl ([.ref (a 0), .int i, .int wh])).length) Slot.unset).toArray = ls at hl ⊢
  have hl : lv_has ls 3 [(0, .ref (a 0)), (1, .int i), (2, .int wh)] := hl
  have hP : va_P (dC, dI) vwCl (wX a cA x ru ma jo gv tk V.length fV R.length fR Lo.length fO) s.heap := hP
  refine mk_start (A := (mk_new s.heap.size)) hP (fun H locs hP hS => ?_)
  obtain ⟨hV, hR, hO, hsort, hpl, hky, hn3, h3⟩ := id hi
  obtain ⟨hokV, hlenV, -, -, -⟩ := id hV
  obtain ⟨hokR, hlenR, -, -, -⟩ := id hR
  obtain ⟨hokO, hlenO, -, -, -⟩ := id hO
  refine lv_iload_n hx hb qd_X_there_0 rfl (lv_at hl 1 rfl) ?_
  refine lv_if_lt (tgt := 25) hx hb qd_X_there_1 (by decide) (fun c_1 => ?_) (fun c_1 => ?_)
  · refine lv_iconst (v := (-1)) hx hb qd_X_there_25 (by decide) ?_
    exact mk_iret hx hb hr hlocks hS qd_X_there_26 (trivial)
  · refine lv_iload_n hx hb qd_X_there_4 rfl (lv_at hl 1 rfl) ?_
    refine lv_aload_n hx hb qd_X_there_5 rfl (lv_at hl 0 rfl) ?_
    refine va_get (D := (dC, dI)) (ci := 0) (v := .ref (a 7)) (C := qR_X) (T := qT_X) (N := 13) hx hb hts qin_X hown hK hP 0 rfl rfl 3 (by decide) (hts _ mw_119) (fun _ h9 => h9) rfl qd_X_there_6 ?_
    refine mk_calli (va_runV (As := []) (rest := [.int i]) ⟨hx, hb, hml, hown, hts⟩ (c_R_size l dC dI cA H.size (a 7) (a 8) (a 9) fR R hR) (cwV 0 hts gc_X_94 rfl rfl rfl (by decide +kernel) ⟨Nat.le_of_ble_eq_true rfl, Nat.le_of_ble_eq_true rfl⟩) (mk_roV hP [7, 8, 9] rfl hK (va_recv hK hP (ci := 3) (q0 := 7) rfl rfl)) rfl rfl hl.1 rfl (lv_room (Nat.le_of_ble_eq_true rfl)) qd_X_there_9 ⟨(Nat.zero_le _), (Nat.zero_le _)⟩) hS hA hP (fun r_2 H locs hr_2 hP hS => ?_)
    refine lv_icmp_ge (tgt := 25) hx hb qd_X_there_12 (by decide) (fun c_3 => ?_) (fun c_3 => ?_)
    · refine lv_iconst (v := (-1)) hx hb qd_X_there_25 (by decide) ?_
      exact mk_iret hx hb hr hlocks hS qd_X_there_26 (trivial)
    · refine lv_iload_n hx hb qd_X_there_15 rfl (lv_at hl 2 rfl) ?_
      refine lv_if_lt (tgt := 25) hx hb qd_X_there_16 (by decide) (fun c_4 => ?_) (fun c_4 => ?_)
      · refine lv_iconst (v := (-1)) hx hb qd_X_there_25 (by decide) ?_
        exact mk_iret hx hb hr hlocks hS qd_X_there_26 (trivial)
      · refine lv_iload_n hx hb qd_X_there_19 rfl (lv_at hl 2 rfl) ?_
        refine lv_bipush (v := 6) hx hb qd_X_there_20 (by decide) ?_
        refine lv_icmp_lt (tgt := 27) hx hb qd_X_there_22 (by decide) (fun c_5 => ?_) (fun c_5 => ?_)
        · refine lv_aload_n hx hb qd_X_there_27 rfl (lv_at hl 0 rfl) ?_
          refine va_get (D := (dC, dI)) (ci := 0) (v := .ref (a 7)) (C := qR_X) (T := qT_X) (N := 13) hx hb hts qin_X hown hK hP 0 rfl rfl 3 (by decide) (hts _ mw_119) (fun _ h9 => h9) rfl qd_X_there_28 ?_
          refine lv_iload_n hx hb qd_X_there_31 rfl (lv_at hl 1 rfl) ?_
          refine lv_iload_n hx hb qd_X_there_32 rfl (lv_at hl 2 rfl) ?_
          refine mk_calli (va_runV (As := [.int i, .int wh]) (rest := []) ⟨hx, hb, hml, hown, hts⟩ (c_R_get l dC dI cA H.size (a 7) (a 8) (a 9) fR R hR i wh) (cwV 2 hts gc_X_129 rfl rfl rfl (by decide +kernel) ⟨Nat.le_of_ble_eq_true rfl, Nat.le_of_ble_eq_true rfl⟩) (mk_roV hP [7, 8, 9] rfl hK (va_recv hK hP (ci := 3) (q0 := 7) rfl rfl)) rfl rfl hl.1 rfl (lv_room (Nat.le_of_ble_eq_true rfl)) qd_X_there_33 ⟨(Nat.zero_le _), (Nat.zero_le _)⟩) hS hA hP (fun r_6 H locs hr_6 hP hS => ?_)
          exact mk_iret hx hb hr hlocks hS qd_X_there_36 (trivial)
        · refine lv_iconst (v := (-1)) hx hb qd_X_there_25 (by decide) ?_
          exact mk_iret hx hb hr hlocks hS qd_X_there_26 (trivial)
set_option maxHeartbeats 4000000 in
set_option maxRecDepth 100000 in
/-- out(i, what) (that it answers) -/
theorem c_X_out (l : Launch) (dC : Nat → ClassId) (dI : Nat → Nat → Nat) (cA : ClassId) (sz : Nat) (a : Nat → Nat) (x ru ma jo : Nat → Int32) (gv tk : Int32) (V : List (Nat → Int32)) (fV : Nat → Int32) (R : List (Nat → Int32)) (fR : Nat → Int32) (Lo : List (Nat → Int32)) (fO : Nat → Int32) (n3 : Nat) (hi : xi_ok x V fV R fR Lo fO n3) (i wh : Int32) : Met l qy_X_out qw_X_out ({ frames := 2, cells := 0, slots := 0, locals := 44 }) (mk_ro [.ref (a 0), .int i, .int wh] sz (dC, dI) vwCl [(cA, .int)] (wX a cA x ru ma jo gv tk V.length fV R.length fR Lo.length fO)) (mk_roQ (fun _ => True) sz) 0 0 (mk_new sz) := by
  refine Met.ofW (cc := qb_X_out) (maxL := 3) (ret := (some .int)) (by decide) rfl ?_
  intro p e s m args below meth c s₁ B hml hpre
  obtain ⟨rfl, hsz, hP, hK⟩ := hpre
  have hx := B.exec
  have hb := B.bytes
  have hr := B.returns
  have hts0 := atoms_spec (ws := qw_X_out) B.pre
  have hts := fun w (h : w ∈ lw_gd) => hts0 w (List.mem_cons_of_mem _ h)
  have hown : s.vm.findClass qR_X = some m.cls := findClass_of_methodNamed B.named
  have hlocks := B.notSynchronized
  subst hsz
  have hA : ∀ q : Nat, s.heap.size ≤ q → mk_new s.heap.size q := fun _ h => h
  have hS : va_S (mk_new s.heap.size) s.heap s.heap [] := va_S.rf
  have hl := lv_entry ([.ref (a 0), .int i, .int wh]) (n := 3) (Nat.le_of_ble_eq_true rfl)
  rw [lg_entry_eq]
  generalize (lg_sl ([.ref (a 0), .int i, .int wh]) ++ List.replicate (3 - (lg_sl ([.ref (a 0), .int i, .int wh])).length) Slot.unset).toArray = ls at hl ⊢
  have hl : lv_has ls 3 [(0, .ref (a 0)), (1, .int i), (2, .int wh)] := hl
  have hP : va_P (dC, dI) vwCl (wX a cA x ru ma jo gv tk V.length fV R.length fR Lo.length fO) s.heap := hP
  refine mk_start (A := (mk_new s.heap.size)) hP (fun H locs hP hS => ?_)
  obtain ⟨hV, hR, hO, hsort, hpl, hky, hn3, h3⟩ := id hi
  obtain ⟨hokV, hlenV, -, -, -⟩ := id hV
  obtain ⟨hokR, hlenR, -, -, -⟩ := id hR
  obtain ⟨hokO, hlenO, -, -, -⟩ := id hO
  refine lv_iload_n hx hb qd_X_out_0 rfl (lv_at hl 1 rfl) ?_
  refine lv_iconst (v := (-1)) hx hb qd_X_out_1 (by decide) ?_
  refine lv_icmp_ne (tgt := 13) hx hb qd_X_out_2 (by decide) (fun c_1 => ?_) (fun c_1 => ?_)
  · refine lv_iload_n hx hb qd_X_out_13 rfl (lv_at hl 1 rfl) ?_
    refine lv_if_lt (tgt := 44) hx hb qd_X_out_14 (by decide) (fun c_2 => ?_) (fun c_2 => ?_)
    · refine lv_iconst (v := (-1)) hx hb qd_X_out_44 (by decide) ?_
      exact mk_iret hx hb hr hlocks hS qd_X_out_45 (trivial)
    · refine lv_iload_n hx hb qd_X_out_17 rfl (lv_at hl 1 rfl) ?_
      refine lv_aload_n hx hb qd_X_out_18 rfl (lv_at hl 0 rfl) ?_
      refine va_get (D := (dC, dI)) (ci := 0) (v := .ref (a 10)) (C := qR_X) (T := qT_X) (N := 13) hx hb hts qin_X hown hK hP 0 rfl rfl 4 (by decide) (hts _ mw_120) (fun _ h9 => h9) rfl qd_X_out_19 ?_
      refine mk_calli (va_runV (As := []) (rest := [.int i]) ⟨hx, hb, hml, hown, hts⟩ (c_O_size l dC dI cA H.size (a 10) (a 11) (a 12) gv tk fO Lo hO) (cwV 0 hts gc_X_118 rfl rfl rfl (by decide +kernel) ⟨Nat.le_of_ble_eq_true rfl, Nat.le_of_ble_eq_true rfl⟩) (mk_roV hP [10, 11, 12] rfl hK (va_recv hK hP (ci := 2) (q0 := 10) rfl rfl)) rfl rfl hl.1 rfl (lv_room (Nat.le_of_ble_eq_true rfl)) qd_X_out_22 ⟨(Nat.zero_le _), (Nat.zero_le _)⟩) hS hA hP (fun r_3 H locs hr_3 hP hS => ?_)
      refine lv_icmp_ge (tgt := 44) hx hb qd_X_out_25 (by decide) (fun c_4 => ?_) (fun c_4 => ?_)
      · refine lv_iconst (v := (-1)) hx hb qd_X_out_44 (by decide) ?_
        exact mk_iret hx hb hr hlocks hS qd_X_out_45 (trivial)
      · refine lv_iload_n hx hb qd_X_out_28 rfl (lv_at hl 2 rfl) ?_
        refine lv_if_lt (tgt := 44) hx hb qd_X_out_29 (by decide) (fun c_5 => ?_) (fun c_5 => ?_)
        · refine lv_iconst (v := (-1)) hx hb qd_X_out_44 (by decide) ?_
          exact mk_iret hx hb hr hlocks hS qd_X_out_45 (trivial)
        · refine lv_iload_n hx hb qd_X_out_32 rfl (lv_at hl 2 rfl) ?_
          refine lv_iconst (v := 5) hx hb qd_X_out_33 (by decide) ?_
          refine lv_iconst (v := 2) hx hb qd_X_out_34 (by decide) ?_
          refine lv_aload_n hx hb qd_X_out_35 rfl (lv_at hl 0 rfl) ?_
          refine va_get (D := (dC, dI)) (ci := 0) (v := .int (x 6)) (C := qR_X) (T := qT_X) (N := 13) hx hb hts qin_X hown hK hP 0 rfl rfl 6 (by decide) (hts _ mw_122) (fun _ h9 => h9) rfl qd_X_out_36 ?_
          refine lv_imul hx hb qd_X_out_39 ?_
          refine lv_iadd hx hb qd_X_out_40 ?_
          refine lv_icmp_lt (tgt := 46) hx hb qd_X_out_41 (by decide) (fun c_6 => ?_) (fun c_6 => ?_)
          · refine lv_aload_n hx hb qd_X_out_46 rfl (lv_at hl 0 rfl) ?_
            refine va_get (D := (dC, dI)) (ci := 0) (v := .ref (a 10)) (C := qR_X) (T := qT_X) (N := 13) hx hb hts qin_X hown hK hP 0 rfl rfl 4 (by decide) (hts _ mw_120) (fun _ h9 => h9) rfl qd_X_out_47 ?_
            refine lv_iload_n hx hb qd_X_out_50 rfl (lv_at hl 1 rfl) ?_
            refine lv_iload_n hx hb qd_X_out_51 rfl (lv_at hl 2 rfl) ?_
            refine mk_calli (va_runV (As := [.int i, .int wh]) (rest := []) ⟨hx, hb, hml, hown, hts⟩ (c_O_get l dC dI cA H.size (a 10) (a 11) (a 12) gv tk fO Lo hO i wh) (cwV 2 hts gc_X_119 rfl rfl rfl (by decide +kernel) ⟨Nat.le_of_ble_eq_true rfl, Nat.le_of_ble_eq_true rfl⟩) (mk_roV hP [10, 11, 12] rfl hK (va_recv hK hP (ci := 2) (q0 := 10) rfl rfl)) rfl rfl hl.1 rfl (lv_room (Nat.le_of_ble_eq_true rfl)) qd_X_out_52 ⟨(Nat.zero_le _), (Nat.zero_le _)⟩) hS hA hP (fun r_7 H locs hr_7 hP hS => ?_)
            exact mk_iret hx hb hr hlocks hS qd_X_out_55 (trivial)
          · refine lv_iconst (v := (-1)) hx hb qd_X_out_44 (by decide) ?_
            exact mk_iret hx hb hr hlocks hS qd_X_out_45 (trivial)
  · refine lv_aload_n hx hb qd_X_out_5 rfl (lv_at hl 0 rfl) ?_
    refine va_get (D := (dC, dI)) (ci := 0) (v := .ref (a 10)) (C := qR_X) (T := qT_X) (N := 13) hx hb hts qin_X hown hK hP 0 rfl rfl 4 (by decide) (hts _ mw_120) (fun _ h9 => h9) rfl qd_X_out_6 ?_
    refine mk_calli (va_runV (As := []) (rest := []) ⟨hx, hb, hml, hown, hts⟩ (c_O_size l dC dI cA H.size (a 10) (a 11) (a 12) gv tk fO Lo hO) (cwV 0 hts gc_X_118 rfl rfl rfl (by decide +kernel) ⟨Nat.le_of_ble_eq_true rfl, Nat.le_of_ble_eq_true rfl⟩) (mk_roV hP [10, 11, 12] rfl hK (va_recv hK hP (ci := 2) (q0 := 10) rfl rfl)) rfl rfl hl.1 rfl (lv_room (Nat.le_of_ble_eq_true rfl)) qd_X_out_9 ⟨(Nat.zero_le _), (Nat.zero_le _)⟩) hS hA hP (fun r_8 H locs hr_8 hP hS => ?_)
    exact mk_iret hx hb hr hlocks hS qd_X_out_12 (trivial)
set_option maxHeartbeats 4000000 in
set_option maxRecDepth 100000 in
/-- asOf(table, key, time) (that it answers) -/
theorem c_X_asOf (l : Launch) (dC : Nat → ClassId) (dI : Nat → Nat → Nat) (cA : ClassId) (sz : Nat) (a : Nat → Nat) (x ru ma jo : Nat → Int32) (gv tk : Int32) (V : List (Nat → Int32)) (fV : Nat → Int32) (R : List (Nat → Int32)) (fR : Nat → Int32) (Lo : List (Nat → Int32)) (fO : Nat → Int32) (n3 : Nat) (hi : xi_ok x V fV R fR Lo fO n3) (t ky tm : Int32) : Met l qy_X_asOf qw_X_asOf ({ frames := 3, cells := 0, slots := 0, locals := 74 }) (mk_ro [.ref (a 0), .int t, .int ky, .int tm] sz (dC, dI) vwCl [(cA, .int)] (wX a cA x ru ma jo gv tk V.length fV R.length fR Lo.length fO)) (mk_roQ (fun _ => True) sz) 0 0 (mk_new sz) := by
  refine Met.ofW (cc := qb_X_asOf) (maxL := 5) (ret := (some .int)) (by decide) rfl ?_
  intro p e s m args below meth c s₁ B hml hpre
  obtain ⟨rfl, hsz, hP, hK⟩ := hpre
  have hx := B.exec
  have hb := B.bytes
  have hr := B.returns
  have hts0 := atoms_spec (ws := qw_X_asOf) B.pre
  have hts := fun w (h : w ∈ lw_gd) => hts0 w (List.mem_cons_of_mem _ h)
  have hown : s.vm.findClass qR_X = some m.cls := findClass_of_methodNamed B.named
  have hlocks := B.notSynchronized
  subst hsz
  have hA : ∀ q : Nat, s.heap.size ≤ q → mk_new s.heap.size q := fun _ h => h
  have hS : va_S (mk_new s.heap.size) s.heap s.heap [] := va_S.rf
  have hl := lv_entry ([.ref (a 0), .int t, .int ky, .int tm]) (n := 5) (Nat.le_of_ble_eq_true rfl)
  rw [lg_entry_eq]
  generalize (lg_sl ([.ref (a 0), .int t, .int ky, .int tm]) ++ List.replicate (5 - (lg_sl ([.ref (a 0), .int t, .int ky, .int tm])).length) Slot.unset).toArray = ls at hl ⊢
  have hl : lv_has ls 5 [(0, .ref (a 0)), (1, .int t), (2, .int ky), (3, .int tm)] := hl
  have hP : va_P (dC, dI) vwCl (wX a cA x ru ma jo gv tk V.length fV R.length fR Lo.length fO) s.heap := hP
  refine mk_start (A := (mk_new s.heap.size)) hP (fun H locs hP hS => ?_)
  obtain ⟨hV, hR, hO, hsort, hpl, hky, hn3, h3⟩ := id hi
  obtain ⟨hokV, hlenV, -, -, -⟩ := id hV
  obtain ⟨hokR, hlenR, -, -, -⟩ := id hR
  obtain ⟨hokO, hlenO, -, -, -⟩ := id hO
  refine lv_aload_n hx hb qd_X_asOf_0 rfl (lv_at hl 0 rfl) ?_
  refine lv_iload_n hx hb qd_X_asOf_1 rfl (lv_at hl 1 rfl) ?_
  refine mk_calli (va_runV (As := [.int t]) (rest := []) ⟨hx, hb, hml, hown, hts⟩ (c_X_isTable l dC dI cA H.size a x ru ma jo gv tk V.length fV R.length fR Lo.length fO t) (cwV 1 hts gc_X_48 rfl rfl rfl (by decide +kernel) ⟨Nat.le_of_ble_eq_true rfl, Nat.le_of_ble_eq_true rfl⟩) (mk_roV hP [0, 1, 2, 3, 4, 5, 6, 7, 8, 9, 10, 11, 12] rfl hK (va_recv hK hP (ci := 0) (q0 := 0) rfl rfl)) rfl rfl hl.1 rfl (lv_room (Nat.le_of_ble_eq_true rfl)) qd_X_asOf_2 ⟨(Nat.zero_le _), (Nat.zero_le _)⟩) hS hA hP (fun r_1 H locs hr_1 hP hS => ?_)
  obtain rfl : r_1 = xt_b (x 6) t := hr_1
  refine lv_if_eq (tgt := 22) hx hb qd_X_asOf_5 (by decide) (fun c_2 => ?_) (fun c_2 => ?_)
  · refine lv_iconst (v := (-1)) hx hb qd_X_asOf_22 (by decide) ?_
    exact mk_iret hx hb hr hlocks hS qd_X_asOf_23 (trivial)
  · refine lv_iload_n hx hb qd_X_asOf_8 rfl (lv_at hl 2 rfl) ?_
    refine mk_calli (va_runS (As := [.int ky]) (rest := []) ⟨hx, hb, hml, hown, hts⟩ (c_X_isKey l dC dI cA H.size ky) (va_cwS 1 hts gc_X_52 rfl rfl rfl (by decide +kernel) ⟨Nat.le_of_ble_eq_true rfl, Nat.le_of_ble_eq_true rfl⟩) (mk_roS hP [] rfl hK) rfl rfl hl.1 rfl (lv_room (Nat.le_of_ble_eq_true rfl)) qd_X_asOf_9 ⟨(Nat.zero_le _), (Nat.zero_le _)⟩) hS hA hP (fun r_3 H locs hr_3 hP hS => ?_)
    obtain rfl : r_3 = xk_b ky := hr_3
    refine lv_if_eq (tgt := 22) hx hb qd_X_asOf_12 (by decide) (fun c_4 => ?_) (fun c_4 => ?_)
    · refine lv_iconst (v := (-1)) hx hb qd_X_asOf_22 (by decide) ?_
      exact mk_iret hx hb hr hlocks hS qd_X_asOf_23 (trivial)
    · refine lv_iload_n hx hb qd_X_asOf_15 rfl (lv_at hl 3 rfl) ?_
      refine mk_calli (va_runS (As := [.int tm]) (rest := []) ⟨hx, hb, hml, hown, hts⟩ (c_X_isTime l dC dI cA H.size tm) (va_cwS 1 hts gc_X_55 rfl rfl rfl (by decide +kernel) ⟨Nat.le_of_ble_eq_true rfl, Nat.le_of_ble_eq_true rfl⟩) (mk_roS hP [] rfl hK) rfl rfl hl.1 rfl (lv_room (Nat.le_of_ble_eq_true rfl)) qd_X_asOf_16 ⟨(Nat.zero_le _), (Nat.zero_le _)⟩) hS hA hP (fun r_5 H locs hr_5 hP hS => ?_)
      obtain rfl : r_5 = xm_b tm := hr_5
      refine lv_if_ne (tgt := 24) hx hb qd_X_asOf_19 (by decide) (fun c_6 => ?_) (fun c_6 => ?_)
      · obtain ⟨t', ht', et, -⟩ := xt_nat c_2
        obtain ⟨kn, hkn, ek⟩ := xk_nat c_4
        refine lv_aload_n hx hb qd_X_asOf_24 rfl (lv_at hl 0 rfl) ?_
        refine va_get (D := (dC, dI)) (ci := 0) (v := .ref (a 4)) (C := qR_X) (T := qT_X) (N := 13) hx hb hts qin_X hown hK hP 0 rfl rfl 2 (by decide) (hts _ mw_118) (fun _ h9 => h9) rfl qd_X_asOf_25 ?_
        refine lv_iload_n hx hb qd_X_asOf_28 rfl (lv_at hl 1 rfl) ?_
        refine lv_iload_n hx hb qd_X_asOf_29 rfl (lv_at hl 2 rfl) ?_
        refine mk_calli (va_runS (As := [.int t, .int ky]) (rest := [.ref (a 4)]) ⟨hx, hb, hml, hown, hts⟩ (c_X_placeOf l dC dI cA H.size t ky) (va_cwS 2 hts gc_X_75 rfl rfl rfl (by decide +kernel) ⟨Nat.le_of_ble_eq_true rfl, Nat.le_of_ble_eq_true rfl⟩) (mk_roS hP [] rfl hK) rfl rfl hl.1 rfl (lv_room (Nat.le_of_ble_eq_true rfl)) qd_X_asOf_30 ⟨(Nat.zero_le _), (Nat.zero_le _)⟩) hS hA hP (fun r_7 H locs hr_7 hP hS => ?_)
        obtain rfl : r_7 = t * 16 + ky := hr_7
        refine mk_rw (y := nI (t' * 16 + kn)) (by rw [et, ek, show (16 : Int32) = nI 16 from rfl, pk_mul, nI_add]) ?_
        refine lv_iload_n hx hb qd_X_asOf_33 rfl (lv_at hl 3 rfl) ?_
        refine lv_aload_n hx hb qd_X_asOf_34 rfl (lv_at hl 0 rfl) ?_
        refine va_get (D := (dC, dI)) (ci := 0) (v := .ref (a 1)) (C := qR_X) (T := qT_X) (N := 13) hx hb hts qin_X hown hK hP 0 rfl rfl 0 (by decide) (hts _ mw_116) (fun _ h9 => h9) rfl qd_X_asOf_35 ?_
        refine lv_iconst (v := 0) hx hb qd_X_asOf_38 (by decide) ?_
        refine va_iald (i := 0) hx hb hK hP 1 0 rfl rfl (show ¬ ((0 : Int32) < 0 ∨ 4 ≤ (0 : Int32).toNatClampNeg) from by decide) qd_X_asOf_39 ?_
        refine mk_rw (y := ru 0) (rfl) ?_
        refine lv_isub hx hb qd_X_asOf_40 ?_
        obtain ⟨k0, hk0⟩ := vs_cuts hsort (nI (t' * 16 + kn)) (tm - ru 0)
        refine mk_calli (va_runV (As := [.int (nI (t' * 16 + kn)), .int (tm - (ru 0))]) (rest := []) ⟨hx, hb, hml, hown, hts⟩ (c_V_lineAsOf l dC dI cA H.size (a 4) (a 5) (a 6) fV V hV (nI (t' * 16 + kn)) (tm - (ru 0)) k0 hk0 (nI_nm2 (by omega))) (cwV 2 hts gc_X_122 rfl rfl rfl (by decide +kernel) ⟨Nat.le_of_ble_eq_true rfl, Nat.le_of_ble_eq_true rfl⟩) (mk_roV hP [4, 5, 6] rfl hK (va_recv hK hP (ci := 5) (q0 := 4) rfl rfl)) rfl rfl hl.1 rfl (lv_room (Nat.le_of_ble_eq_true rfl)) qd_X_asOf_41 ⟨(Nat.zero_le _), (Nat.zero_le _)⟩) hS hA hP (fun r_8 H locs hr_8 hP hS => ?_)
        refine lv_istore (lv' := [(4, .int r_8), (0, .ref (a 0)), (1, .int t), (2, .int ky), (3, .int tm)]) hx hb qd_X_asOf_44 hl (by decide) rfl (fun ls hl => ?_)
        refine lv_iload hx hb qd_X_asOf_46 (lv_at hl 0 rfl) ?_
        refine lv_if_ge (tgt := 56) hx hb qd_X_asOf_48 (by decide) (fun c_9 => ?_) (fun c_9 => ?_)
        · refine lv_aload_n hx hb qd_X_asOf_56 rfl (lv_at hl 1 rfl) ?_
          refine va_get (D := (dC, dI)) (ci := 0) (v := .ref (a 4)) (C := qR_X) (T := qT_X) (N := 13) hx hb hts qin_X hown hK hP 0 rfl rfl 2 (by decide) (hts _ mw_118) (fun _ h9 => h9) rfl qd_X_asOf_57 ?_
          refine lv_iload hx hb qd_X_asOf_60 (lv_at hl 0 rfl) ?_
          refine lv_iconst (v := 1) hx hb qd_X_asOf_62 (by decide) ?_
          refine mk_calli (va_runV (As := [.int r_8, .int 1]) (rest := []) ⟨hx, hb, hml, hown, hts⟩ (c_V_get l dC dI cA H.size (a 4) (a 5) (a 6) fV V hV r_8 1) (cwV 2 hts gc_X_125 rfl rfl rfl (by decide +kernel) ⟨Nat.le_of_ble_eq_true rfl, Nat.le_of_ble_eq_true rfl⟩) (mk_roV hP [4, 5, 6] rfl hK (va_recv hK hP (ci := 5) (q0 := 4) rfl rfl)) rfl rfl hl.1 rfl (lv_room (Nat.le_of_ble_eq_true rfl)) qd_X_asOf_63 ⟨(Nat.zero_le _), (Nat.zero_le _)⟩) hS hA hP (fun r_10 H locs hr_10 hP hS => ?_)
          exact mk_iret hx hb hr hlocks hS qd_X_asOf_66 (trivial)
        · refine lv_bipush (v := (-2)) hx hb qd_X_asOf_51 (by decide) ?_
          refine lv_goto (tgt := 66) hx hb qd_X_asOf_53 (by decide) ?_
          exact mk_iret hx hb hr hlocks hS qd_X_asOf_66 (trivial)
      · refine lv_iconst (v := (-1)) hx hb qd_X_asOf_22 (by decide) ?_
        exact mk_iret hx hb hr hlocks hS qd_X_asOf_23 (trivial)
set_option maxHeartbeats 4000000 in
set_option maxRecDepth 100000 in
/-- version(table, key, i, what) (that it answers) -/
theorem c_X_version (l : Launch) (dC : Nat → ClassId) (dI : Nat → Nat → Nat) (cA : ClassId) (sz : Nat) (a : Nat → Nat) (x ru ma jo : Nat → Int32) (gv tk : Int32) (V : List (Nat → Int32)) (fV : Nat → Int32) (R : List (Nat → Int32)) (fR : Nat → Int32) (Lo : List (Nat → Int32)) (fO : Nat → Int32) (n3 : Nat) (hi : xi_ok x V fV R fR Lo fO n3) (t ky i wh : Int32) : Met l qy_X_version qw_X_version ({ frames := 4, cells := 0, slots := 0, locals := 94 }) (mk_ro [.ref (a 0), .int t, .int ky, .int i, .int wh] sz (dC, dI) vwCl [(cA, .int)] (wX a cA x ru ma jo gv tk V.length fV R.length fR Lo.length fO)) (mk_roQ (fun _ => True) sz) 0 0 (mk_new sz) := by
  refine Met.ofW (cc := qb_X_version) (maxL := 6) (ret := (some .int)) (by decide) rfl ?_
  intro p e s m args below meth c s₁ B hml hpre
  obtain ⟨rfl, hsz, hP, hK⟩ := hpre
  have hx := B.exec
  have hb := B.bytes
  have hr := B.returns
  have hts0 := atoms_spec (ws := qw_X_version) B.pre
  have hts := fun w (h : w ∈ lw_gd) => hts0 w (List.mem_cons_of_mem _ h)
  have hown : s.vm.findClass qR_X = some m.cls := findClass_of_methodNamed B.named
  have hlocks := B.notSynchronized
  subst hsz
  have hA : ∀ q : Nat, s.heap.size ≤ q → mk_new s.heap.size q := fun _ h => h
  have hS : va_S (mk_new s.heap.size) s.heap s.heap [] := va_S.rf
  have hl := lv_entry ([.ref (a 0), .int t, .int ky, .int i, .int wh]) (n := 6) (Nat.le_of_ble_eq_true rfl)
  rw [lg_entry_eq]
  generalize (lg_sl ([.ref (a 0), .int t, .int ky, .int i, .int wh]) ++ List.replicate (6 - (lg_sl ([.ref (a 0), .int t, .int ky, .int i, .int wh])).length) Slot.unset).toArray = ls at hl ⊢
  have hl : lv_has ls 6 [(0, .ref (a 0)), (1, .int t), (2, .int ky), (3, .int i), (4, .int wh)] := hl
  have hP : va_P (dC, dI) vwCl (wX a cA x ru ma jo gv tk V.length fV R.length fR Lo.length fO) s.heap := hP
  refine mk_start (A := (mk_new s.heap.size)) hP (fun H locs hP hS => ?_)
  obtain ⟨hV, hR, hO, hsort, hpl, hky, hn3, h3⟩ := id hi
  obtain ⟨hokV, hlenV, -, -, -⟩ := id hV
  obtain ⟨hokR, hlenR, -, -, -⟩ := id hR
  obtain ⟨hokO, hlenO, -, -, -⟩ := id hO
  refine lv_aload_n hx hb qd_X_version_0 rfl (lv_at hl 0 rfl) ?_
  refine lv_iload_n hx hb qd_X_version_1 rfl (lv_at hl 1 rfl) ?_
  refine mk_calli (va_runV (As := [.int t]) (rest := []) ⟨hx, hb, hml, hown, hts⟩ (c_X_isTable l dC dI cA H.size a x ru ma jo gv tk V.length fV R.length fR Lo.length fO t) (cwV 1 hts gc_X_48 rfl rfl rfl (by decide +kernel) ⟨Nat.le_of_ble_eq_true rfl, Nat.le_of_ble_eq_true rfl⟩) (mk_roV hP [0, 1, 2, 3, 4, 5, 6, 7, 8, 9, 10, 11, 12] rfl hK (va_recv hK hP (ci := 0) (q0 := 0) rfl rfl)) rfl rfl hl.1 rfl (lv_room (Nat.le_of_ble_eq_true rfl)) qd_X_version_2 ⟨(Nat.zero_le _), (Nat.zero_le _)⟩) hS hA hP (fun r_1 H locs hr_1 hP hS => ?_)
  obtain rfl : r_1 = xt_b (x 6) t := hr_1
  refine lv_if_eq (tgt := 26) hx hb qd_X_version_5 (by decide) (fun c_2 => ?_) (fun c_2 => ?_)
  · refine lv_iconst (v := (-1)) hx hb qd_X_version_26 (by decide) ?_
    exact mk_iret hx hb hr hlocks hS qd_X_version_27 (trivial)
  · refine lv_iload_n hx hb qd_X_version_8 rfl (lv_at hl 2 rfl) ?_
    refine mk_calli (va_runS (As := [.int ky]) (rest := []) ⟨hx, hb, hml, hown, hts⟩ (c_X_isKey l dC dI cA H.size ky) (va_cwS 1 hts gc_X_52 rfl rfl rfl (by decide +kernel) ⟨Nat.le_of_ble_eq_true rfl, Nat.le_of_ble_eq_true rfl⟩) (mk_roS hP [] rfl hK) rfl rfl hl.1 rfl (lv_room (Nat.le_of_ble_eq_true rfl)) qd_X_version_9 ⟨(Nat.zero_le _), (Nat.zero_le _)⟩) hS hA hP (fun r_3 H locs hr_3 hP hS => ?_)
    obtain rfl : r_3 = xk_b ky := hr_3
    refine lv_if_eq (tgt := 26) hx hb qd_X_version_12 (by decide) (fun c_4 => ?_) (fun c_4 => ?_)
    · refine lv_iconst (v := (-1)) hx hb qd_X_version_26 (by decide) ?_
      exact mk_iret hx hb hr hlocks hS qd_X_version_27 (trivial)
    · refine mk_after (σ := Unit) (fun y9 H locs ls => (¬ xt_b (x 6) t = 0 ∧ ¬ xk_b ky = 0) ∧ va_P (dC, dI) vwCl (wX a cA x ru ma jo gv tk V.length fV R.length fR Lo.length fO) H ∧ va_S (mk_new s.heap.size) s.heap H locs ∧ lv_has ls 6 [(0, .ref (a 0)), (1, .int t), (2, .int ky), (3, .int i), (4, .int wh)]) (fun ls => F0 m 28 ls []) (fun y9 H locs ls hI => ?_) (fun J_5 => ?_)
      · obtain ⟨z9, rfl⟩ : ∃ z, z = y9 := ⟨_, rfl⟩
        obtain ⟨hinv, hP, hS, hl⟩ := hI
        have hinv : ¬ xt_b (x 6) t = 0 ∧ ¬ xk_b ky = 0 := hinv
        have hP : va_P (dC, dI) vwCl (wX a cA x ru ma jo gv tk V.length fV R.length fR Lo.length fO) H := hP
        have hl : lv_has ls 6 [(0, .ref (a 0)), (1, .int t), (2, .int ky), (3, .int i), (4, .int wh)] := hl
        obtain ⟨t', ht', et, -⟩ := xt_nat hinv.1
        obtain ⟨kn, hkn, ek⟩ := xk_nat hinv.2
        refine lv_iload_n hx hb qd_X_version_28 rfl (lv_at hl 1 rfl) ?_
        refine lv_iload_n hx hb qd_X_version_29 rfl (lv_at hl 2 rfl) ?_
        refine mk_calli (va_runS (As := [.int t, .int ky]) (rest := []) ⟨hx, hb, hml, hown, hts⟩ (c_X_placeOf l dC dI cA H.size t ky) (va_cwS 2 hts gc_X_75 rfl rfl rfl (by decide +kernel) ⟨Nat.le_of_ble_eq_true rfl, Nat.le_of_ble_eq_true rfl⟩) (mk_roS hP [] rfl hK) rfl rfl hl.1 rfl (lv_room (Nat.le_of_ble_eq_true rfl)) qd_X_version_30 ⟨(Nat.zero_le _), (Nat.zero_le _)⟩) hS hA hP (fun r_6 H locs hr_6 hP hS => ?_)
        obtain rfl : r_6 = t * 16 + ky := hr_6
        refine mk_rw (y := nI (t' * 16 + kn)) (by rw [et, ek, show (16 : Int32) = nI 16 from rfl, pk_mul, nI_add]) ?_
        obtain ⟨k0, hk0⟩ := vs_cuts hsort (nI (t' * 16 + kn)) 0
        obtain ⟨k1, hk1⟩ := vs_cuts hsort (nI (t' * 16 + kn)) 100000
        have hkk := vs_cut_mono hk0 hk1 (by decide)
        refine lv_istore (lv' := [(5, .int (nI (t' * 16 + kn))), (0, .ref (a 0)), (1, .int t), (2, .int ky), (3, .int i), (4, .int wh)]) hx hb qd_X_version_33 hl (by decide) rfl (fun ls hl => ?_)
        refine lv_iload_n hx hb qd_X_version_35 rfl (lv_at hl 4 rfl) ?_
        refine lv_if_lt (tgt := 52) hx hb qd_X_version_36 (by decide) (fun c_7 => ?_) (fun c_7 => ?_)
        · refine lv_iconst (v := (-1)) hx hb qd_X_version_52 (by decide) ?_
          exact mk_iret hx hb hr hlocks hS qd_X_version_53 (trivial)
        · refine lv_iload_n hx hb qd_X_version_39 rfl (lv_at hl 4 rfl) ?_
          refine lv_aload_n hx hb qd_X_version_40 rfl (lv_at hl 1 rfl) ?_
          refine va_get (D := (dC, dI)) (ci := 0) (v := .ref (a 4)) (C := qR_X) (T := qT_X) (N := 13) hx hb hts qin_X hown hK hP 0 rfl rfl 2 (by decide) (hts _ mw_118) (fun _ h9 => h9) rfl qd_X_version_41 ?_
          refine lv_iload hx hb qd_X_version_44 (lv_at hl 0 rfl) ?_
          refine mk_calli (va_runV (As := [.int (nI (t' * 16 + kn))]) (rest := [.int i]) ⟨hx, hb, hml, hown, hts⟩ (c_V_sizeAt l dC dI cA H.size (a 4) (a 5) (a 6) fV V hV (nI (t' * 16 + kn)) k0 k1 hk0 hk1 hkk) (cwV 1 hts gc_X_87 rfl rfl rfl (by decide +kernel) ⟨Nat.le_of_ble_eq_true rfl, Nat.le_of_ble_eq_true rfl⟩) (mk_roV hP [4, 5, 6] rfl hK (va_recv hK hP (ci := 5) (q0 := 4) rfl rfl)) rfl rfl hl.1 rfl (lv_room (Nat.le_of_ble_eq_true rfl)) qd_X_version_46 ⟨(Nat.zero_le _), (Nat.zero_le _)⟩) hS hA hP (fun r_8 H locs hr_8 hP hS => ?_)
          refine lv_icmp_lt (tgt := 54) hx hb qd_X_version_49 (by decide) (fun c_9 => ?_) (fun c_9 => ?_)
          · refine lv_aload_n hx hb qd_X_version_54 rfl (lv_at hl 1 rfl) ?_
            refine va_get (D := (dC, dI)) (ci := 0) (v := .ref (a 4)) (C := qR_X) (T := qT_X) (N := 13) hx hb hts qin_X hown hK hP 0 rfl rfl 2 (by decide) (hts _ mw_118) (fun _ h9 => h9) rfl qd_X_version_55 ?_
            refine lv_aload_n hx hb qd_X_version_58 rfl (lv_at hl 1 rfl) ?_
            refine va_get (D := (dC, dI)) (ci := 0) (v := .ref (a 4)) (C := qR_X) (T := qT_X) (N := 13) hx hb hts qin_X hown hK hP 0 rfl rfl 2 (by decide) (hts _ mw_118) (fun _ h9 => h9) rfl qd_X_version_59 ?_
            refine lv_iload hx hb qd_X_version_62 (lv_at hl 0 rfl) ?_
            refine mk_calli (va_runV (As := [.int (nI (t' * 16 + kn))]) (rest := [.ref (a 4)]) ⟨hx, hb, hml, hown, hts⟩ (c_V_startOf l dC dI cA H.size (a 4) (a 5) (a 6) fV V hV (nI (t' * 16 + kn)) k0 hk0) (cwV 1 hts gc_X_126 rfl rfl rfl (by decide +kernel) ⟨Nat.le_of_ble_eq_true rfl, Nat.le_of_ble_eq_true rfl⟩) (mk_roV hP [4, 5, 6] rfl hK (va_recv hK hP (ci := 5) (q0 := 4) rfl rfl)) rfl rfl hl.1 rfl (lv_room (Nat.le_of_ble_eq_true rfl)) qd_X_version_64 ⟨(Nat.zero_le _), (Nat.zero_le _)⟩) hS hA hP (fun r_10 H locs hr_10 hP hS => ?_)
            refine lv_iload_n hx hb qd_X_version_67 rfl (lv_at hl 4 rfl) ?_
            refine lv_iadd hx hb qd_X_version_68 ?_
            refine lv_iload hx hb qd_X_version_69 (lv_at hl 5 rfl) ?_
            refine mk_calli (va_runV (As := [.int (r_10 + i), .int wh]) (rest := []) ⟨hx, hb, hml, hown, hts⟩ (c_V_get l dC dI cA H.size (a 4) (a 5) (a 6) fV V hV (r_10 + i) wh) (cwV 2 hts gc_X_125 rfl rfl rfl (by decide +kernel) ⟨Nat.le_of_ble_eq_true rfl, Nat.le_of_ble_eq_true rfl⟩) (mk_roV hP [4, 5, 6] rfl hK (va_recv hK hP (ci := 5) (q0 := 4) rfl rfl)) rfl rfl hl.1 rfl (lv_room (Nat.le_of_ble_eq_true rfl)) qd_X_version_71 ⟨(Nat.zero_le _), (Nat.zero_le _)⟩) hS hA hP (fun r_11 H locs hr_11 hP hS => ?_)
            exact mk_iret hx hb hr hlocks hS qd_X_version_74 (trivial)
          · refine lv_iconst (v := (-1)) hx hb qd_X_version_52 (by decide) ?_
            exact mk_iret hx hb hr hlocks hS qd_X_version_53 (trivial)
      · refine lv_iload hx hb qd_X_version_15 (lv_at hl 4 rfl) ?_
        refine lv_if_eq (tgt := 28) hx hb qd_X_version_17 (by decide) (fun c_12 => ?_) (fun c_12 => ?_)
        · exact J_5 () H locs ls ⟨⟨c_2, c_4⟩, hP, hS, lv_sub hl [0, 1, 2, 3, 4] rfl⟩
        · refine lv_iload hx hb qd_X_version_20 (lv_at hl 4 rfl) ?_
          refine lv_iconst (v := 1) hx hb qd_X_version_22 (by decide) ?_
          refine lv_icmp_eq (tgt := 28) hx hb qd_X_version_23 (by decide) (fun c_13 => ?_) (fun c_13 => ?_)
          · exact J_5 () H locs ls ⟨⟨c_2, c_4⟩, hP, hS, lv_sub hl [0, 1, 2, 3, 4] rfl⟩
          · refine lv_iconst (v := (-1)) hx hb qd_X_version_26 (by decide) ?_
            exact mk_iret hx hb hr hlocks hS qd_X_version_27 (trivial)
end
section
theorem sw_out {x : Int32} {n : Nat} (hn : n < 2 ^ 30) (h : x < 0 ∨ nI (n + 1) ≤ x) : x.toInt < 0 ∨ (n : Int) < x.toInt := by
  rcases h with h | h
  · rw [Int32.lt_iff_toInt_lt, Int32.toInt_zero] at h; exact Or.inl h
  · rw [Int32.le_iff_toInt_le, nI_toInt (by omega)] at h; exact Or.inr (by omega)
/-- behind a CHANGE -/
def xo_change (n3 : Nat) (x ru ma : Nat → Int32) (gv tk : Int32) (V R Lo : List (Nat → Int32)) (t ky fr vl r : Int32) (x' : Nat → Int32) (gv' tk' : Int32) (V' R' Lo' : List (Nat → Int32)) : Prop :=
  ((xt_b (x 6) t = 0 ∨ xk_b ky = 0 ∨ xm_b fr = 0 ∨ (¬ vl = -1 ∧ xv_b vl = 0)) ∧ r = -1 ∧ x' = x ∧ gv' = gv ∧ tk' = tk ∧ V' = V ∧ R' = R ∧ Lo' = Lo) ∨
  (¬ xt_b (x 6) t = 0 ∧ ¬ xk_b ky = 0 ∧ ¬ xm_b fr = 0 ∧ (vl = -1 ∨ ¬ xv_b vl = 0) ∧
    ((¬ xl_b ma ru (x 7) t fr = 0 ∧ r = -4 ∧ x' = upd x 11 (x 11 + 1) ∧ gv' = gv ∧ tk' = tk ∧ V' = V ∧ R' = R ∧ Lo' = Lo) ∨
     (xl_b ma ru (x 7) t fr = 0 ∧ 160 ≤ V.length ∧ r = -3 ∧ x' = x ∧ gv' = gv ∧ tk' = tk ∧ V' = V ∧ R' = R ∧ Lo' = Lo) ∨
     (xl_b ma ru (x 7) t fr = 0 ∧ V.length < 160 ∧ x' = upd x 12 1 ∧ ∃ t' kn k0 k1 k2 : Nat, t' < 3 ∧ t = nI t' ∧ kn < 16 ∧ ky = nI kn ∧ vs_cut V (nI (t' * 16 + kn)) fr k0 ∧ vs_put V (nI (t' * 16 + kn)) fr vl k0 V' ∧
       R' = R.map (cw_row V' ru n3 ky) ∧ Lo' = [] ++ R.flatMap (cw_o V' ru n3 ky) ∧ gv' = gv + nI (sw_n (cw_dg V' ru n3 ky) R R.length) ∧ tk' = tk + nI (sw_n (cw_dt V' ru ky) R R.length) ∧
       vs_cut V' (nI (t' * 16 + kn)) 0 k1 ∧ vs_cut V' (nI (t' * 16 + kn)) 100000 k2 ∧ k1 ≤ k2 ∧ r = nI (k2 - k1))))
/-- behind a ROW -/
def xo_row (n3 : Nat) (x ru ma : Nat → Int32) (gv : Int32) (V R Lo : List (Nat → Int32)) (ky tm vl r : Int32) (x' : Nat → Int32) (gv' : Int32) (R' Lo' : List (Nat → Int32)) : Prop :=
  ((xk_b ky = 0 ∨ xm_b tm = 0 ∨ xv_b vl = 0 ∨ x 6 = 0) ∧ r = -1 ∧ x' = x ∧ gv' = gv ∧ R' = R ∧ Lo' = Lo) ∨
  (¬ xk_b ky = 0 ∧ ¬ xm_b tm = 0 ∧ ¬ xv_b vl = 0 ∧ ¬ x 6 = 0 ∧
    ((¬ x 7 < tm ∧ r = -4 ∧ x' = upd x 11 (x 11 + 1) ∧ gv' = gv ∧ R' = R ∧ Lo' = Lo) ∨
     (x 7 < tm ∧ (96 ≤ R.length ∨ ¬ x 8 < 30000) ∧ r = -3 ∧ x' = x ∧ gv' = gv ∧ R' = R ∧ Lo' = Lo) ∨
     (x 7 < tm ∧ R.length < 96 ∧ x 8 < 30000 ∧ r = x 8 ∧ x' = upd (upd x 12 1) 8 (x 8 + 1) ∧ ∃ R1, rs_add R (x 8) ky tm vl R1 ∧ R' = R1.map (jr_row V ru n3 (xt_low ma n3)) ∧ Lo' = [] ++ R1.flatMap (jr_out V ru n3 (xt_low ma n3)) ∧ gv' = gv + nI (sw_n (jr_d V ru n3 (xt_low ma n3)) R1 R1.length))))
/-- behind a mark() -/
def xo_mark (n3 : Nat) (x ru ma : Nat → Int32) (gv : Int32) (V R Lo : List (Nat → Int32)) (t tm r : Int32) (x' ma' : Nat → Int32) (gv' : Int32) (V' R' Lo' : List (Nat → Int32)) : Prop :=
  (((¬ t = -1 ∧ xt_b (x 6) t = 0) ∨ tm < 0 ∨ 100000 < tm) ∧ r = -1 ∧ x' = x ∧ ma' = ma ∧ gv' = gv ∧ V' = V ∧ R' = R ∧ Lo' = Lo) ∨
  ((t = -1 ∨ ¬ xt_b (x 6) t = 0) ∧ ¬ tm < 0 ∧ ¬ 100000 < tm ∧ ∃ (xx mm : Nat → Int32) (bf : Int32),
    ((xt_b (x 6) t = 0 ∧ bf = x 7 ∧ xx = upd (upd x 12 1) 7 tm ∧ mm = ma) ∨ (¬ xt_b (x 6) t = 0 ∧ bf = ma t.toNatClampNeg ∧ xx = upd x 12 1 ∧ mm = upd ma t.toNatClampNeg tm)) ∧
    ((¬ bf < tm ∧ r = -2 ∧ x' = x ∧ ma' = ma ∧ gv' = gv ∧ V' = V ∧ R' = R ∧ Lo' = Lo) ∨
     (bf < tm ∧ r = bf ∧ ma' = mm ∧ ∃ R1, R1 = R.map (jr_row V ru n3 (xt_low mm n3)) ∧ R' = R1.filter (rs_keep (xx 7 - ru 3)) ∧ Lo' = [] ++ R.flatMap (jr_out V ru n3 (xt_low mm n3)) ∧ gv' = gv + nI (sw_n (jr_d V ru n3 (xt_low mm n3)) R R.length) ∧
       V' = dv (nd_b (ru 0) (xx 7 - ru 3) R') V ∧ x' = upd (upd xx 9 (xx 9 + nI (R1.length - R'.length))) 10 (xx 10 + nI (V.length - V'.length)))))
theorem rs_add_ky {R R1 : List (Nat → Int32)} {nu ky tm vl : Int32} (h : vs_all rs_ky R) (hk : ¬ xk_b ky = 0) (ha : rs_add R nu ky tm vl R1) : vs_all rs_ky R1 := by
  obtain ⟨k, r1, hp, e0, e1, e2, e3, e4, e5, rfl⟩ := ha
  obtain ⟨kn, h1, h2⟩ := xk_nat hk
  exact vs_all_ins h ⟨kn, h1, e1.trans h2⟩
theorem rs_add_len {R R1 : List (Nat → Int32)} {nu ky tm vl : Int32} (ha : rs_add R nu ky tm vl R1) : R1.length = R.length + 1 := by
  obtain ⟨k, r1, hp, e0, e1, e2, e3, e4, e5, rfl⟩ := ha
  exact ls_ins_len hp.1
theorem jr_flen (V : List (Nat → Int32)) (ru : Nat → Int32) (n : Nat) (low : Int32) (R : List (Nat → Int32)) : (R.flatMap (jr_out V ru n low)).length ≤ R.length := by
  have h := sw_o_len (Lo := []) (R := R) (k := 1) (jr_out_len V ru n low) R.length (Nat.le_refl _)
  rw [sw_o_all] at h
  simpa using h
theorem cw_flen (V : List (Nat → Int32)) (ru : Nat → Int32) (n : Nat) (ky : Int32) (R : List (Nat → Int32)) : (R.flatMap (cw_o V ru n ky)).length ≤ 2 * R.length := by
  have h := sw_o_len (Lo := []) (R := R) (k := 2) (cw_o_len V ru n ky) R.length (Nat.le_refl _)
  rw [sw_o_all] at h
  simpa using h
theorem dv_sub (nd : (Nat → Int32) → Option (Nat → Int32) → Bool) : ∀ L, (dv nd L).Sublist L := by
  intro L
  induction L with
  | nil => exact List.Sublist.refl _
  | cons r t ih =>
    unfold dv
    split
    · exact List.Sublist.cons _ ih
    · exact List.Sublist.cons₂ _ ih
theorem vs_sorted_pw {V : List (Nat → Int32)} : vs_sorted V ↔ V.Pairwise vs_lt := by
  rw [List.pairwise_iff_getElem]
  constructor
  · intro h i j hi hj hij
    exact h i j _ _ hij (List.getElem?_eq_getElem hi) (List.getElem?_eq_getElem hj)
  · intro h i j ri rj hij h1 h2
    obtain ⟨hi, e1⟩ := List.getElem?_eq_some_iff.mp h1
    obtain ⟨hj, e2⟩ := List.getElem?_eq_some_iff.mp h2
    rw [← e1, ← e2]
    exact h i j hi hj hij
theorem dv_sorted {nd : (Nat → Int32) → Option (Nat → Int32) → Bool} {V : List (Nat → Int32)} (h : vs_sorted V) : vs_sorted (dv nd V) := by
  rw [vs_sorted_pw] at *
  exact h.sublist (dv_sub nd V)
theorem dv_pl {nd : (Nat → Int32) → Option (Nat → Int32) → Bool} {V : List (Nat → Int32)} (h : vs_all vs_pl V) : vs_all vs_pl (dv nd V) := by
  rw [vs_all_mem] at *
  exact fun r hr => h r ((dv_sub nd V).subset hr)
theorem xt_one {n t : Int32} (h : ¬ xt_b n t = 0) : xt_b n t = 1 := if_pos (rs_n2 h)
end
section
set_option maxHeartbeats 4000000 in
set_option maxRecDepth 100000 in
/-- count(what) (that it answers) -/
theorem c_X_count (l : Launch) (dC : Nat → ClassId) (dI : Nat → Nat → Nat) (cA : ClassId) (sz : Nat) (a : Nat → Nat) (x ru ma jo : Nat → Int32) (gv tk : Int32) (V : List (Nat → Int32)) (fV : Nat → Int32) (R : List (Nat → Int32)) (fR : Nat → Int32) (Lo : List (Nat → Int32)) (fO : Nat → Int32) (n3 : Nat) (hi : xi_ok x V fV R fR Lo fO n3) (wh : Int32) : Met l qy_X_count qw_X_count ({ frames := 2, cells := 0, slots := 0, locals := 44 }) (mk_roN [Cond.fieldLinkNest "AsOfJoins" 133 "AsOfJoins$Outs" "gives" "I" "AsOfJoins", Cond.fieldLinkNest "AsOfJoins" 136 "AsOfJoins$Outs" "takes" "I" "AsOfJoins"] [.ref (a 0), .int wh] sz (dC, dI) vwCl [(cA, .int)] (wX a cA x ru ma jo gv tk V.length fV R.length fR Lo.length fO)) (mk_roQ (fun _ => True) sz) 0 0 (mk_new sz) := by
  refine Met.ofW (cc := qb_X_count) (maxL := 2) (ret := (some .int)) (by decide) rfl ?_
  intro p e s m args below meth c s₁ B hml hpre
  obtain ⟨rfl, hsz, hP, hK, hN⟩ := hpre
  have hx := B.exec
  have hb := B.bytes
  have hr := B.returns
  have hts0 := atoms_spec (ws := qw_X_count) B.pre
  have hts := fun w (h : w ∈ lw_gd) => hts0 w (List.mem_cons_of_mem _ h)
  have hown : s.vm.findClass qR_X = some m.cls := findClass_of_methodNamed B.named
  have hlocks := B.notSynchronized
  subst hsz
  have hA : ∀ q : Nat, s.heap.size ≤ q → mk_new s.heap.size q := fun _ h => h
  have hS : va_S (mk_new s.heap.size) s.heap s.heap [] := va_S.rf
  have hl := lv_entry ([.ref (a 0), .int wh]) (n := 2) (Nat.le_of_ble_eq_true rfl)
  rw [lg_entry_eq]
  generalize (lg_sl ([.ref (a 0), .int wh]) ++ List.replicate (2 - (lg_sl ([.ref (a 0), .int wh])).length) Slot.unset).toArray = ls at hl ⊢
  have hl : lv_has ls 2 [(0, .ref (a 0)), (1, .int wh)] := hl
  have hP : va_P (dC, dI) vwCl (wX a cA x ru ma jo gv tk V.length fV R.length fR Lo.length fO) s.heap := hP
  refine mk_start (A := (mk_new s.heap.size)) hP (fun H locs hP hS => ?_)
  obtain ⟨hV, hR, hO, hsort, hpl, hky, hn3, h3⟩ := id hi
  obtain ⟨hokV, hlenV, -, -, -⟩ := id hV
  obtain ⟨hokR, hlenR, -, -, -⟩ := id hR
  obtain ⟨hokO, hlenO, -, -, -⟩ := id hO
  refine lv_iload_n hx hb qd_X_count_0 rfl (lv_at hl 1 rfl) ?_
  rcases pk_ix wh (n := 18) (by decide) with hq | hq | ⟨j, hj, rfl⟩
  · refine lv_tableOut (tgt := 204) hx hb qd_X_count_1 (sw_out (n := 17) (by decide) (Or.inl hq)) (by decide) ?_
    refine lv_iconst (v := (-1)) hx hb qd_X_count_204 (by decide) ?_
    exact mk_iret hx hb hr hlocks hS qd_X_count_205 (trivial)
  · refine lv_tableOut (tgt := 204) hx hb qd_X_count_1 (sw_out (n := 17) (by decide) (Or.inr hq)) (by decide) ?_
    refine lv_iconst (v := (-1)) hx hb qd_X_count_204 (by decide) ?_
    exact mk_iret hx hb hr hlocks hS qd_X_count_205 (trivial)
  · rcases (show j = 0 ∨ j = 1 ∨ j = 2 ∨ j = 3 ∨ j = 4 ∨ j = 5 ∨ j = 6 ∨ j = 7 ∨ j = 8 ∨ j = 9 ∨ j = 10 ∨ j = 11 ∨ j = 12 ∨ j = 13 ∨ j = 14 ∨ j = 15 ∨ j = 16 ∨ j = 17 by omega) with rfl | rfl | rfl | rfl | rfl | rfl | rfl | rfl | rfl | rfl | rfl | rfl | rfl | rfl | rfl | rfl | rfl | rfl
    · refine lv_tableIn (off := 87) (tgt := 88) hx hb qd_X_count_1 (by decide) (by decide) (by decide) (by decide) ?_
      refine lv_aload_n hx hb qd_X_count_88 rfl (lv_at hl 0 rfl) ?_
      refine va_get (D := (dC, dI)) (ci := 0) (v := .int (x 6)) (C := qR_X) (T := qT_X) (N := 13) hx hb hts qin_X hown hK hP 0 rfl rfl 6 (by decide) (hts _ mw_122) (fun _ h9 => h9) rfl qd_X_count_89 ?_
      exact mk_iret hx hb hr hlocks hS qd_X_count_92 (trivial)
    · refine lv_tableIn (off := 92) (tgt := 93) hx hb qd_X_count_1 (by decide) (by decide) (by decide) (by decide) ?_
      refine lv_aload_n hx hb qd_X_count_93 rfl (lv_at hl 0 rfl) ?_
      refine va_get (D := (dC, dI)) (ci := 0) (v := .ref (a 4)) (C := qR_X) (T := qT_X) (N := 13) hx hb hts qin_X hown hK hP 0 rfl rfl 2 (by decide) (hts _ mw_118) (fun _ h9 => h9) rfl qd_X_count_94 ?_
      refine mk_calli (va_runV (As := []) (rest := []) ⟨hx, hb, hml, hown, hts⟩ (c_V_size l dC dI cA H.size (a 4) (a 5) (a 6) fV V hV) (cwV 0 hts gc_X_68 rfl rfl rfl (by decide +kernel) ⟨Nat.le_of_ble_eq_true rfl, Nat.le_of_ble_eq_true rfl⟩) (mk_roV hP [4, 5, 6] rfl hK (va_recv hK hP (ci := 5) (q0 := 4) rfl rfl)) rfl rfl hl.1 rfl (lv_room (Nat.le_of_ble_eq_true rfl)) qd_X_count_97 ⟨(Nat.zero_le _), (Nat.zero_le _)⟩) hS hA hP (fun r_1 H locs hr_1 hP hS => ?_)
      exact mk_iret hx hb hr hlocks hS qd_X_count_100 (trivial)
    · refine lv_tableIn (off := 100) (tgt := 101) hx hb qd_X_count_1 (by decide) (by decide) (by decide) (by decide) ?_
      refine lv_aload_n hx hb qd_X_count_101 rfl (lv_at hl 0 rfl) ?_
      refine va_get (D := (dC, dI)) (ci := 0) (v := .ref (a 7)) (C := qR_X) (T := qT_X) (N := 13) hx hb hts qin_X hown hK hP 0 rfl rfl 3 (by decide) (hts _ mw_119) (fun _ h9 => h9) rfl qd_X_count_102 ?_
      refine mk_calli (va_runV (As := []) (rest := []) ⟨hx, hb, hml, hown, hts⟩ (c_R_size l dC dI cA H.size (a 7) (a 8) (a 9) fR R hR) (cwV 0 hts gc_X_94 rfl rfl rfl (by decide +kernel) ⟨Nat.le_of_ble_eq_true rfl, Nat.le_of_ble_eq_true rfl⟩) (mk_roV hP [7, 8, 9] rfl hK (va_recv hK hP (ci := 3) (q0 := 7) rfl rfl)) rfl rfl hl.1 rfl (lv_room (Nat.le_of_ble_eq_true rfl)) qd_X_count_105 ⟨(Nat.zero_le _), (Nat.zero_le _)⟩) hS hA hP (fun r_2 H locs hr_2 hP hS => ?_)
      exact mk_iret hx hb hr hlocks hS qd_X_count_108 (trivial)
    · refine lv_tableIn (off := 108) (tgt := 109) hx hb qd_X_count_1 (by decide) (by decide) (by decide) (by decide) ?_
      refine lv_aload_n hx hb qd_X_count_109 rfl (lv_at hl 0 rfl) ?_
      refine va_get (D := (dC, dI)) (ci := 0) (v := .ref (a 7)) (C := qR_X) (T := qT_X) (N := 13) hx hb hts qin_X hown hK hP 0 rfl rfl 3 (by decide) (hts _ mw_119) (fun _ h9 => h9) rfl qd_X_count_110 ?_
      refine mk_calli (va_runV (As := []) (rest := []) ⟨hx, hb, hml, hown, hts⟩ (c_R_waiting l dC dI cA H.size (a 7) (a 8) (a 9) fR R hR) (cwV 0 hts gc_X_130 rfl rfl rfl (by decide +kernel) ⟨Nat.le_of_ble_eq_true rfl, Nat.le_of_ble_eq_true rfl⟩) (mk_roV hP [7, 8, 9] rfl hK (va_recv hK hP (ci := 3) (q0 := 7) rfl rfl)) rfl rfl hl.1 rfl (lv_room (Nat.le_of_ble_eq_true rfl)) qd_X_count_113 ⟨(Nat.zero_le _), (Nat.zero_le _)⟩) hS hA hP (fun r_3 H locs hr_3 hP hS => ?_)
      exact mk_iret hx hb hr hlocks hS qd_X_count_116 (trivial)
    · refine lv_tableIn (off := 116) (tgt := 117) hx hb qd_X_count_1 (by decide) (by decide) (by decide) (by decide) ?_
      refine lv_aload_n hx hb qd_X_count_117 rfl (lv_at hl 0 rfl) ?_
      refine va_get (D := (dC, dI)) (ci := 0) (v := .int (x 8)) (C := qR_X) (T := qT_X) (N := 13) hx hb hts qin_X hown hK hP 0 rfl rfl 8 (by decide) (hts _ mw_124) (fun _ h9 => h9) rfl qd_X_count_118 ?_
      exact mk_iret hx hb hr hlocks hS qd_X_count_121 (trivial)
    · refine lv_tableIn (off := 121) (tgt := 122) hx hb qd_X_count_1 (by decide) (by decide) (by decide) (by decide) ?_
      refine lv_aload_n hx hb qd_X_count_122 rfl (lv_at hl 0 rfl) ?_
      refine va_get (D := (dC, dI)) (ci := 0) (v := .ref (a 10)) (C := qR_X) (T := qT_X) (N := 13) hx hb hts qin_X hown hK hP 0 rfl rfl 4 (by decide) (hts _ mw_120) (fun _ h9 => h9) rfl qd_X_count_123 ?_
      refine va_getN (host := "AsOfJoins") (D := (dC, dI)) (ci := 2) (v := .int gv) (C := qR_O) (T := qT_O) (N := 3) hx hb hts qin_O hown hK hP 10 rfl rfl 1 (by decide) (va_Nw.use rfl (hN _ (List.mem_of_getElem? (i := 0) rfl))) (fun _ h9 => h9) rfl qd_X_count_126 ?_
      exact mk_iret hx hb hr hlocks hS qd_X_count_129 (trivial)
    · refine lv_tableIn (off := 129) (tgt := 130) hx hb qd_X_count_1 (by decide) (by decide) (by decide) (by decide) ?_
      refine lv_aload_n hx hb qd_X_count_130 rfl (lv_at hl 0 rfl) ?_
      refine va_get (D := (dC, dI)) (ci := 0) (v := .ref (a 10)) (C := qR_X) (T := qT_X) (N := 13) hx hb hts qin_X hown hK hP 0 rfl rfl 4 (by decide) (hts _ mw_120) (fun _ h9 => h9) rfl qd_X_count_131 ?_
      refine va_getN (host := "AsOfJoins") (D := (dC, dI)) (ci := 2) (v := .int tk) (C := qR_O) (T := qT_O) (N := 3) hx hb hts qin_O hown hK hP 10 rfl rfl 2 (by decide) (va_Nw.use rfl (hN _ (List.mem_of_getElem? (i := 1) rfl))) (fun _ h9 => h9) rfl qd_X_count_134 ?_
      exact mk_iret hx hb hr hlocks hS qd_X_count_137 (trivial)
    · refine lv_tableIn (off := 137) (tgt := 138) hx hb qd_X_count_1 (by decide) (by decide) (by decide) (by decide) ?_
      refine lv_aload_n hx hb qd_X_count_138 rfl (lv_at hl 0 rfl) ?_
      refine va_get (D := (dC, dI)) (ci := 0) (v := .int (x 9)) (C := qR_X) (T := qT_X) (N := 13) hx hb hts qin_X hown hK hP 0 rfl rfl 9 (by decide) (hts _ mw_125) (fun _ h9 => h9) rfl qd_X_count_139 ?_
      exact mk_iret hx hb hr hlocks hS qd_X_count_142 (trivial)
    · refine lv_tableIn (off := 142) (tgt := 143) hx hb qd_X_count_1 (by decide) (by decide) (by decide) (by decide) ?_
      refine lv_aload_n hx hb qd_X_count_143 rfl (lv_at hl 0 rfl) ?_
      refine va_get (D := (dC, dI)) (ci := 0) (v := .int (x 10)) (C := qR_X) (T := qT_X) (N := 13) hx hb hts qin_X hown hK hP 0 rfl rfl 10 (by decide) (hts _ mw_126) (fun _ h9 => h9) rfl qd_X_count_144 ?_
      exact mk_iret hx hb hr hlocks hS qd_X_count_147 (trivial)
    · refine lv_tableIn (off := 147) (tgt := 148) hx hb qd_X_count_1 (by decide) (by decide) (by decide) (by decide) ?_
      refine lv_aload_n hx hb qd_X_count_148 rfl (lv_at hl 0 rfl) ?_
      refine va_get (D := (dC, dI)) (ci := 0) (v := .int (x 11)) (C := qR_X) (T := qT_X) (N := 13) hx hb hts qin_X hown hK hP 0 rfl rfl 11 (by decide) (hts _ mw_127) (fun _ h9 => h9) rfl qd_X_count_149 ?_
      exact mk_iret hx hb hr hlocks hS qd_X_count_152 (trivial)
    · refine lv_tableIn (off := 152) (tgt := 153) hx hb qd_X_count_1 (by decide) (by decide) (by decide) (by decide) ?_
      refine lv_aload_n hx hb qd_X_count_153 rfl (lv_at hl 0 rfl) ?_
      refine va_get (D := (dC, dI)) (ci := 0) (v := .int (x 7)) (C := qR_X) (T := qT_X) (N := 13) hx hb hts qin_X hown hK hP 0 rfl rfl 7 (by decide) (hts _ mw_123) (fun _ h9 => h9) rfl qd_X_count_154 ?_
      exact mk_iret hx hb hr hlocks hS qd_X_count_157 (trivial)
    · refine lv_tableIn (off := 157) (tgt := 158) hx hb qd_X_count_1 (by decide) (by decide) (by decide) (by decide) ?_
      refine lv_aload_n hx hb qd_X_count_158 rfl (lv_at hl 0 rfl) ?_
      refine lv_iconst (v := 0) hx hb qd_X_count_159 (by decide) ?_
      refine mk_calli (va_runV (As := [.int 0]) (rest := []) ⟨hx, hb, hml, hown, hts⟩ (c_X_markOrNone l dC dI cA H.size a x ru ma jo gv tk V.length fV R.length fR Lo.length fO 0) (cwV 1 hts gc_X_142 rfl rfl rfl (by decide +kernel) ⟨Nat.le_of_ble_eq_true rfl, Nat.le_of_ble_eq_true rfl⟩) (mk_roV hP [0, 1, 2, 3, 4, 5, 6, 7, 8, 9, 10, 11, 12] rfl hK (va_recv hK hP (ci := 0) (q0 := 0) rfl rfl)) rfl rfl hl.1 rfl (lv_room (Nat.le_of_ble_eq_true rfl)) qd_X_count_160 ⟨(Nat.zero_le _), (Nat.zero_le _)⟩) hS hA hP (fun r_4 H locs hr_4 hP hS => ?_)
      exact mk_iret hx hb hr hlocks hS qd_X_count_163 (trivial)
    · refine lv_tableIn (off := 163) (tgt := 164) hx hb qd_X_count_1 (by decide) (by decide) (by decide) (by decide) ?_
      refine lv_aload_n hx hb qd_X_count_164 rfl (lv_at hl 0 rfl) ?_
      refine lv_iconst (v := 1) hx hb qd_X_count_165 (by decide) ?_
      refine mk_calli (va_runV (As := [.int 1]) (rest := []) ⟨hx, hb, hml, hown, hts⟩ (c_X_markOrNone l dC dI cA H.size a x ru ma jo gv tk V.length fV R.length fR Lo.length fO 1) (cwV 1 hts gc_X_142 rfl rfl rfl (by decide +kernel) ⟨Nat.le_of_ble_eq_true rfl, Nat.le_of_ble_eq_true rfl⟩) (mk_roV hP [0, 1, 2, 3, 4, 5, 6, 7, 8, 9, 10, 11, 12] rfl hK (va_recv hK hP (ci := 0) (q0 := 0) rfl rfl)) rfl rfl hl.1 rfl (lv_room (Nat.le_of_ble_eq_true rfl)) qd_X_count_166 ⟨(Nat.zero_le _), (Nat.zero_le _)⟩) hS hA hP (fun r_5 H locs hr_5 hP hS => ?_)
      exact mk_iret hx hb hr hlocks hS qd_X_count_169 (trivial)
    · refine lv_tableIn (off := 169) (tgt := 170) hx hb qd_X_count_1 (by decide) (by decide) (by decide) (by decide) ?_
      refine lv_aload_n hx hb qd_X_count_170 rfl (lv_at hl 0 rfl) ?_
      refine lv_iconst (v := 2) hx hb qd_X_count_171 (by decide) ?_
      refine mk_calli (va_runV (As := [.int 2]) (rest := []) ⟨hx, hb, hml, hown, hts⟩ (c_X_markOrNone l dC dI cA H.size a x ru ma jo gv tk V.length fV R.length fR Lo.length fO 2) (cwV 1 hts gc_X_142 rfl rfl rfl (by decide +kernel) ⟨Nat.le_of_ble_eq_true rfl, Nat.le_of_ble_eq_true rfl⟩) (mk_roV hP [0, 1, 2, 3, 4, 5, 6, 7, 8, 9, 10, 11, 12] rfl hK (va_recv hK hP (ci := 0) (q0 := 0) rfl rfl)) rfl rfl hl.1 rfl (lv_room (Nat.le_of_ble_eq_true rfl)) qd_X_count_172 ⟨(Nat.zero_le _), (Nat.zero_le _)⟩) hS hA hP (fun r_6 H locs hr_6 hP hS => ?_)
      exact mk_iret hx hb hr hlocks hS qd_X_count_175 (trivial)
    · refine lv_tableIn (off := 175) (tgt := 176) hx hb qd_X_count_1 (by decide) (by decide) (by decide) (by decide) ?_
      refine lv_aload_n hx hb qd_X_count_176 rfl (lv_at hl 0 rfl) ?_
      refine va_get (D := (dC, dI)) (ci := 0) (v := .ref (a 1)) (C := qR_X) (T := qT_X) (N := 13) hx hb hts qin_X hown hK hP 0 rfl rfl 0 (by decide) (hts _ mw_116) (fun _ h9 => h9) rfl qd_X_count_177 ?_
      refine lv_iconst (v := 0) hx hb qd_X_count_180 (by decide) ?_
      refine va_iald (i := 0) hx hb hK hP 1 0 rfl rfl (show ¬ ((0 : Int32) < 0 ∨ 4 ≤ (0 : Int32).toNatClampNeg) from by decide) qd_X_count_181 ?_
      refine mk_rw (y := ru 0) (rfl) ?_
      exact mk_iret hx hb hr hlocks hS qd_X_count_182 (trivial)
    · refine lv_tableIn (off := 182) (tgt := 183) hx hb qd_X_count_1 (by decide) (by decide) (by decide) (by decide) ?_
      refine lv_aload_n hx hb qd_X_count_183 rfl (lv_at hl 0 rfl) ?_
      refine va_get (D := (dC, dI)) (ci := 0) (v := .ref (a 1)) (C := qR_X) (T := qT_X) (N := 13) hx hb hts qin_X hown hK hP 0 rfl rfl 0 (by decide) (hts _ mw_116) (fun _ h9 => h9) rfl qd_X_count_184 ?_
      refine lv_iconst (v := 1) hx hb qd_X_count_187 (by decide) ?_
      refine va_iald (i := 1) hx hb hK hP 1 0 rfl rfl (show ¬ ((1 : Int32) < 0 ∨ 4 ≤ (1 : Int32).toNatClampNeg) from by decide) qd_X_count_188 ?_
      refine mk_rw (y := ru 1) (rfl) ?_
      exact mk_iret hx hb hr hlocks hS qd_X_count_189 (trivial)
    · refine lv_tableIn (off := 189) (tgt := 190) hx hb qd_X_count_1 (by decide) (by decide) (by decide) (by decide) ?_
      refine lv_aload_n hx hb qd_X_count_190 rfl (lv_at hl 0 rfl) ?_
      refine va_get (D := (dC, dI)) (ci := 0) (v := .ref (a 1)) (C := qR_X) (T := qT_X) (N := 13) hx hb hts qin_X hown hK hP 0 rfl rfl 0 (by decide) (hts _ mw_116) (fun _ h9 => h9) rfl qd_X_count_191 ?_
      refine lv_iconst (v := 2) hx hb qd_X_count_194 (by decide) ?_
      refine va_iald (i := 2) hx hb hK hP 1 0 rfl rfl (show ¬ ((2 : Int32) < 0 ∨ 4 ≤ (2 : Int32).toNatClampNeg) from by decide) qd_X_count_195 ?_
      refine mk_rw (y := ru 2) (rfl) ?_
      exact mk_iret hx hb hr hlocks hS qd_X_count_196 (trivial)
    · refine lv_tableIn (off := 196) (tgt := 197) hx hb qd_X_count_1 (by decide) (by decide) (by decide) (by decide) ?_
      refine lv_aload_n hx hb qd_X_count_197 rfl (lv_at hl 0 rfl) ?_
      refine va_get (D := (dC, dI)) (ci := 0) (v := .ref (a 1)) (C := qR_X) (T := qT_X) (N := 13) hx hb hts qin_X hown hK hP 0 rfl rfl 0 (by decide) (hts _ mw_116) (fun _ h9 => h9) rfl qd_X_count_198 ?_
      refine lv_iconst (v := 3) hx hb qd_X_count_201 (by decide) ?_
      refine va_iald (i := 3) hx hb hK hP 1 0 rfl rfl (show ¬ ((3 : Int32) < 0 ∨ 4 ≤ (3 : Int32).toNatClampNeg) from by decide) qd_X_count_202 ?_
      refine mk_rw (y := ru 3) (rfl) ?_
      exact mk_iret hx hb hr hlocks hS qd_X_count_203 (trivial)
set_option maxHeartbeats 4000000 in
set_option maxRecDepth 100000 in
/-- change(table, key, from, value) -/
theorem c_X_change (l : Launch) (dC : Nat → ClassId) (dI : Nat → Nat → Nat) (cA : ClassId) (sz : Nat) (a : Nat → Nat) (x ru ma jo : Nat → Int32) (gv tk : Int32) (V : List (Nat → Int32)) (fV : Nat → Int32) (R : List (Nat → Int32)) (fR : Nat → Int32) (Lo : List (Nat → Int32)) (fO : Nat → Int32) (n3 : Nat) (hi : xi_ok x V fV R fR Lo fO n3) (t ky fr vl : Int32) : Met l qy_X_change qw_X_change ({ frames := 6, cells := 0, slots := 0, locals := 172 }) (mk_mu [.ref (a 0), .int t, .int ky, .int fr, .int vl] sz (dC, dI) vwCl [(cA, .int)] (wX a cA x ru ma jo gv tk V.length fV R.length fR Lo.length fO)) (mk_muQ (S := (Nat → Int32) × (Nat → Int32) × Int32 × Int32 × (List (Nat → Int32) × (Nat → Int32)) × (List (Nat → Int32) × (Nat → Int32)) × (List (Nat → Int32) × (Nat → Int32))) (fun r u => xo_change n3 x ru ma gv tk V R Lo t ky fr vl r u.1 u.2.2.1 u.2.2.2.1 u.2.2.2.2.1.1 u.2.2.2.2.2.1.1 u.2.2.2.2.2.2.1 ∧ xi_ok u.1 u.2.2.2.2.1.1 u.2.2.2.2.1.2 u.2.2.2.2.2.1.1 u.2.2.2.2.2.1.2 u.2.2.2.2.2.2.1 u.2.2.2.2.2.2.2 n3) (fun u => (wX a cA u.1 ru ma u.2.1 u.2.2.1 u.2.2.2.1 u.2.2.2.2.1.1.length u.2.2.2.2.1.2 u.2.2.2.2.2.1.1.length u.2.2.2.2.2.1.2 u.2.2.2.2.2.2.1.length u.2.2.2.2.2.2.2)) (dC, dI) vwCl [(cA, .int)] (va_A (wX a cA x ru ma jo gv tk V.length fV R.length fR Lo.length fO) sz)) 0 0 (va_A (wX a cA x ru ma jo gv tk V.length fV R.length fR Lo.length fO) sz) := by
  refine Met.ofW (cc := qb_X_change) (maxL := 6) (ret := (some .int)) (by decide) rfl ?_
  intro p e s m args below meth c s₁ B hml hpre
  obtain ⟨rfl, hsz, hP, hK, hD0⟩ := hpre
  have hx := B.exec
  have hb := B.bytes
  have hr := B.returns
  have hts0 := atoms_spec (ws := qw_X_change) B.pre
  have hts := fun w (h : w ∈ lw_gd) => hts0 w (List.mem_cons_of_mem _ h)
  have hown : s.vm.findClass qR_X = some m.cls := findClass_of_methodNamed B.named
  have hlocks := B.notSynchronized
  subst hsz
  have hD := hD0.self (sz := s.heap.size)
  generalize hAe : va_A (wX a cA x ru ma jo gv tk V.length fV R.length fR Lo.length fO) s.heap.size = A at hD ⊢
  have hA : ∀ q : Nat, s.heap.size ≤ q → A q := fun q h => by rw [← hAe]; exact Or.inr h
  have hS : va_S A s.heap s.heap [] := va_S.rf
  have hl := lv_entry ([.ref (a 0), .int t, .int ky, .int fr, .int vl]) (n := 6) (Nat.le_of_ble_eq_true rfl)
  rw [lg_entry_eq]
  generalize (lg_sl ([.ref (a 0), .int t, .int ky, .int fr, .int vl]) ++ List.replicate (6 - (lg_sl ([.ref (a 0), .int t, .int ky, .int fr, .int vl])).length) Slot.unset).toArray = ls at hl ⊢
  have hl : lv_has ls 6 [(0, .ref (a 0)), (1, .int t), (2, .int ky), (3, .int fr), (4, .int vl)] := hl
  have hP : va_P (dC, dI) vwCl (wX a cA x ru ma jo gv tk V.length fV R.length fR Lo.length fO) s.heap := hP
  refine mk_start (A := A) hP (fun H locs hP hS => ?_)
  obtain ⟨hV, hR, hO, hsort, hpl, hky, hn3, h3⟩ := id hi
  obtain ⟨hokV, hlenV, -, -, -⟩ := id hV
  obtain ⟨hokR, hlenR, -, -, -⟩ := id hR
  obtain ⟨hokO, hlenO, -, -, -⟩ := id hO
  refine lv_aload_n hx hb qd_X_change_0 rfl (lv_at hl 0 rfl) ?_
  refine lv_iload_n hx hb qd_X_change_1 rfl (lv_at hl 1 rfl) ?_
  refine mk_calli (va_runV (As := [.int t]) (rest := []) ⟨hx, hb, hml, hown, hts⟩ (c_X_isTable l dC dI cA H.size a x ru ma jo gv tk V.length fV R.length fR Lo.length fO t) (cwV 1 hts gc_X_48 rfl rfl rfl (by decide +kernel) ⟨Nat.le_of_ble_eq_true rfl, Nat.le_of_ble_eq_true rfl⟩) (mk_roV hP [0, 1, 2, 3, 4, 5, 6, 7, 8, 9, 10, 11, 12] rfl hK (va_recv hK hP (ci := 0) (q0 := 0) rfl rfl)) rfl rfl hl.1 rfl (lv_room (Nat.le_of_ble_eq_true rfl)) qd_X_change_2 ⟨(Nat.zero_le _), (Nat.zero_le _)⟩) hS hA hP (fun r_1 H locs hr_1 hP hS => ?_)
  obtain rfl : r_1 = xt_b (x 6) t := hr_1
  refine lv_if_eq (tgt := 36) hx hb qd_X_change_5 (by decide) (fun c_2 => ?_) (fun c_2 => ?_)
  · refine lv_iconst (v := (-1)) hx hb qd_X_change_36 (by decide) ?_
    exact mk_miret (x, jo, gv, tk, (V, fV), (R, fR), (Lo, fO)) hx hb hr hlocks hP hK hD hS qd_X_change_37 ⟨Or.inl ⟨Or.inl c_2, rfl, rfl, rfl, rfl, rfl, rfl, rfl⟩, hi⟩
  · refine lv_iload_n hx hb qd_X_change_8 rfl (lv_at hl 2 rfl) ?_
    refine mk_calli (va_runS (As := [.int ky]) (rest := []) ⟨hx, hb, hml, hown, hts⟩ (c_X_isKey l dC dI cA H.size ky) (va_cwS 1 hts gc_X_52 rfl rfl rfl (by decide +kernel) ⟨Nat.le_of_ble_eq_true rfl, Nat.le_of_ble_eq_true rfl⟩) (mk_roS hP [] rfl hK) rfl rfl hl.1 rfl (lv_room (Nat.le_of_ble_eq_true rfl)) qd_X_change_9 ⟨(Nat.zero_le _), (Nat.zero_le _)⟩) hS hA hP (fun r_3 H locs hr_3 hP hS => ?_)
    obtain rfl : r_3 = xk_b ky := hr_3
    refine lv_if_eq (tgt := 36) hx hb qd_X_change_12 (by decide) (fun c_4 => ?_) (fun c_4 => ?_)
    · refine lv_iconst (v := (-1)) hx hb qd_X_change_36 (by decide) ?_
      exact mk_miret (x, jo, gv, tk, (V, fV), (R, fR), (Lo, fO)) hx hb hr hlocks hP hK hD hS qd_X_change_37 ⟨Or.inl ⟨Or.inr (Or.inl c_4), rfl, rfl, rfl, rfl, rfl, rfl, rfl⟩, hi⟩
    · refine lv_iload_n hx hb qd_X_change_15 rfl (lv_at hl 3 rfl) ?_
      refine mk_calli (va_runS (As := [.int fr]) (rest := []) ⟨hx, hb, hml, hown, hts⟩ (c_X_isTime l dC dI cA H.size fr) (va_cwS 1 hts gc_X_55 rfl rfl rfl (by decide +kernel) ⟨Nat.le_of_ble_eq_true rfl, Nat.le_of_ble_eq_true rfl⟩) (mk_roS hP [] rfl hK) rfl rfl hl.1 rfl (lv_room (Nat.le_of_ble_eq_true rfl)) qd_X_change_16 ⟨(Nat.zero_le _), (Nat.zero_le _)⟩) hS hA hP (fun r_5 H locs hr_5 hP hS => ?_)
      obtain rfl : r_5 = xm_b fr := hr_5
      refine lv_if_eq (tgt := 36) hx hb qd_X_change_19 (by decide) (fun c_6 => ?_) (fun c_6 => ?_)
      · refine lv_iconst (v := (-1)) hx hb qd_X_change_36 (by decide) ?_
        exact mk_miret (x, jo, gv, tk, (V, fV), (R, fR), (Lo, fO)) hx hb hr hlocks hP hK hD hS qd_X_change_37 ⟨Or.inl ⟨Or.inr (Or.inr (Or.inl c_6)), rfl, rfl, rfl, rfl, rfl, rfl, rfl⟩, hi⟩
      · refine mk_after (σ := Unit) (fun y9 H locs ls => (¬ xt_b (x 6) t = 0 ∧ ¬ xk_b ky = 0 ∧ ¬ xm_b fr = 0 ∧ (vl = -1 ∨ ¬ xv_b vl = 0)) ∧ va_P (dC, dI) vwCl (wX a cA x ru ma jo gv tk V.length fV R.length fR Lo.length fO) H ∧ va_D A (wX a cA x ru ma jo gv tk V.length fV R.length fR Lo.length fO) ∧ va_S A s.heap H locs ∧ lv_has ls 6 [(0, .ref (a 0)), (1, .int t), (2, .int ky), (3, .int fr), (4, .int vl)]) (fun ls => F0 m 38 ls []) (fun y9 H locs ls hI => ?_) (fun J_7 => ?_)
        · obtain ⟨z9, rfl⟩ : ∃ z, z = y9 := ⟨_, rfl⟩
          obtain ⟨hinv, hP, hD, hS, hl⟩ := hI
          have hinv : ¬ xt_b (x 6) t = 0 ∧ ¬ xk_b ky = 0 ∧ ¬ xm_b fr = 0 ∧ (vl = -1 ∨ ¬ xv_b vl = 0) := hinv
          have hP : va_P (dC, dI) vwCl (wX a cA x ru ma jo gv tk V.length fV R.length fR Lo.length fO) H := hP
          have hD : va_D A (wX a cA x ru ma jo gv tk V.length fV R.length fR Lo.length fO) := hD
          have hl : lv_has ls 6 [(0, .ref (a 0)), (1, .int t), (2, .int ky), (3, .int fr), (4, .int vl)] := hl
          obtain ⟨t', ht', et, -⟩ := xt_nat hinv.1
          obtain ⟨kn, hkn, ek⟩ := xk_nat hinv.2.1
          have htb : xt_b (x 6) t = 1 := xt_one hinv.1
          refine lv_aload_n hx hb qd_X_change_38 rfl (lv_at hl 0 rfl) ?_
          refine lv_iload_n hx hb qd_X_change_39 rfl (lv_at hl 1 rfl) ?_
          refine lv_iload_n hx hb qd_X_change_40 rfl (lv_at hl 3 rfl) ?_
          refine mk_calli (va_runV (As := [.int t, .int fr]) (rest := []) ⟨hx, hb, hml, hown, hts⟩ (c_X_isLateChange l dC dI cA H.size a x ru ma jo gv tk V.length fV R.length fR Lo.length fO t fr htb) (cwV 2 hts gc_X_61 rfl rfl rfl (by decide +kernel) ⟨Nat.le_of_ble_eq_true rfl, Nat.le_of_ble_eq_true rfl⟩) (mk_roV hP [0, 1, 2, 3, 4, 5, 6, 7, 8, 9, 10, 11, 12] rfl hK (va_recv hK hP (ci := 0) (q0 := 0) rfl rfl)) rfl rfl hl.1 rfl (lv_room (Nat.le_of_ble_eq_true rfl)) qd_X_change_41 ⟨(Nat.zero_le _), (Nat.zero_le _)⟩) hS hA hP (fun r_8 H locs hr_8 hP hS => ?_)
          obtain rfl : r_8 = xl_b ma ru (x 7) t fr := hr_8
          refine lv_if_eq (tgt := 60) hx hb qd_X_change_44 (by decide) (fun c_9 => ?_) (fun c_9 => ?_)
          · refine lv_aload_n hx hb qd_X_change_60 rfl (lv_at hl 0 rfl) ?_
            refine va_get (D := (dC, dI)) (ci := 0) (v := .ref (a 4)) (C := qR_X) (T := qT_X) (N := 13) hx hb hts qin_X hown hK hP 0 rfl rfl 2 (by decide) (hts _ mw_118) (fun _ h9 => h9) rfl qd_X_change_61 ?_
            refine mk_calli (va_runV (As := []) (rest := []) ⟨hx, hb, hml, hown, hts⟩ (c_V_size l dC dI cA H.size (a 4) (a 5) (a 6) fV V hV) (cwV 0 hts gc_X_68 rfl rfl rfl (by decide +kernel) ⟨Nat.le_of_ble_eq_true rfl, Nat.le_of_ble_eq_true rfl⟩) (mk_roV hP [4, 5, 6] rfl hK (va_recv hK hP (ci := 5) (q0 := 4) rfl rfl)) rfl rfl hl.1 rfl (lv_room (Nat.le_of_ble_eq_true rfl)) qd_X_change_64 ⟨(Nat.zero_le _), (Nat.zero_le _)⟩) hS hA hP (fun r_10 H locs hr_10 hP hS => ?_)
            obtain rfl : r_10 = nI V.length := hr_10
            refine lv_sipush (v := 160) hx hb qd_X_change_67 (by decide) ?_
            refine lv_icmp_lt (tgt := 76) hx hb qd_X_change_70 (by decide) (fun c_11 => ?_) (fun c_11 => ?_)
            · have hroom : V.length < 160 := (nI_ltI (by omega) (by decide)).mp c_11
              refine lv_aload_n hx hb qd_X_change_76 rfl (lv_at hl 0 rfl) ?_
              refine mk_mcallv (wr := []) (wf := (fun u => (wX a cA (upd x 12 1) ru ma jo gv tk V.length fV R.length fR u.1.length u.2))) (va_runV (As := []) (rest := []) ⟨hx, hb, hml, hown, hts⟩ (c_X_begin l dC dI cA H.size a x ru ma jo gv tk V.length fV R.length fR fO Lo hO) (cwV 0 hts gc_X_72 rfl rfl rfl (by decide +kernel) ⟨Nat.le_of_ble_eq_true rfl, Nat.le_of_ble_eq_true rfl⟩) (mk_muP hP hD [0, 1, 2, 3, 4, 5, 6, 7, 8, 9, 10, 11, 12] (by decide) rfl hK (va_recv hK hP (ci := 0) (q0 := 0) rfl rfl)) rfl rfl hl.1 rfl (lv_room (Nat.le_of_ble_eq_true rfl)) qd_X_change_77 ⟨(Nat.zero_le _), (Nat.zero_le _)⟩) hS hA hP hD [0, 1, 2, 3, 4, 5, 6, 7, 8, 9, 10, 11, 12] [] [0, 1, 2, 3, 4, 5, 6, 7, 8, 9, 10, 11, 12] rfl rfl (by decide) (by decide) (by decide) (fun _ => rfl) (fun u_13 H locs hu_13 hP hD hS => ?_)
              obtain ⟨Q1, f1⟩ := u_13
              obtain ⟨rfl, hok1⟩ : Q1 = [] ∧ sh_ok 11 f1 Q1 := hu_13
              have hO1 : sh_wf 11 192 f1 [] := ⟨hok1, by decide, by decide, by decide, by decide⟩
              have hP : va_P (dC, dI) vwCl (wX a cA (upd x 12 1) ru ma jo gv tk V.length fV R.length fR (([] : List (Nat → Int32)).length) f1) H := hP
              have hD : va_D A (wX a cA (upd x 12 1) ru ma jo gv tk V.length fV R.length fR (([] : List (Nat → Int32)).length) f1) := hD
              refine lv_iload_n hx hb qd_X_change_80 rfl (lv_at hl 1 rfl) ?_
              refine lv_iload_n hx hb qd_X_change_81 rfl (lv_at hl 2 rfl) ?_
              refine mk_calli (va_runS (As := [.int t, .int ky]) (rest := []) ⟨hx, hb, hml, hown, hts⟩ (c_X_placeOf l dC dI cA H.size t ky) (va_cwS 2 hts gc_X_75 rfl rfl rfl (by decide +kernel) ⟨Nat.le_of_ble_eq_true rfl, Nat.le_of_ble_eq_true rfl⟩) (mk_roS hP [] rfl hK) rfl rfl hl.1 rfl (lv_room (Nat.le_of_ble_eq_true rfl)) qd_X_change_82 ⟨(Nat.zero_le _), (Nat.zero_le _)⟩) hS hA hP (fun r_14 H locs hr_14 hP hS => ?_)
              obtain rfl : r_14 = t * 16 + ky := hr_14
              refine mk_rw (y := nI (t' * 16 + kn)) (by rw [et, ek, show (16 : Int32) = nI 16 from rfl, pk_mul, nI_add]) ?_
              obtain ⟨k0, hk0⟩ := vs_cuts hsort (nI (t' * 16 + kn)) fr
              refine lv_istore (lv' := [(5, .int (nI (t' * 16 + kn))), (0, .ref (a 0)), (1, .int t), (2, .int ky), (3, .int fr), (4, .int vl)]) hx hb qd_X_change_85 hl (by decide) rfl (fun ls hl => ?_)
              refine lv_aload_n hx hb qd_X_change_87 rfl (lv_at hl 1 rfl) ?_
              refine va_get (D := (dC, dI)) (ci := 0) (v := .ref (a 4)) (C := qR_X) (T := qT_X) (N := 13) hx hb hts qin_X hown hK hP 0 rfl rfl 2 (by decide) (hts _ mw_118) (fun _ h9 => h9) rfl qd_X_change_88 ?_
              refine lv_iload hx hb qd_X_change_91 (lv_at hl 0 rfl) ?_
              refine lv_iload_n hx hb qd_X_change_93 rfl (lv_at hl 4 rfl) ?_
              refine lv_iload hx hb qd_X_change_94 (lv_at hl 5 rfl) ?_
              refine mk_mcallv (wr := [((a 0), .inr (0, [.ref (a 1), .ref (a 2), .ref (a 4), .ref (a 7), .ref (a 10), .ref (a 3), .int (x 6), .int (x 7), .int (x 8), .int (x 9), .int (x 10), .int (x 11), .int 1])), ((a 1), .inl (cA, 4, .inl ru)), ((a 2), .inl (cA, 3, .inl ma)), ((a 3), .inl (cA, 6, .inl jo)), ((a 7), .inr (3, [.ref (a 8)])), ((a 8), .inr (4, [.int (nI 12), .int (nI 96), .ref (a 9), .int (nI R.length)])), ((a 9), .inl (cA, (12 * 96), .inl fR)), ((a 10), .inr (2, [.ref (a 11), .int gv, .int tk])), ((a 11), .inr (4, [.int (nI 11), .int (nI 192), .ref (a 12), .int (nI (([] : List (Nat → Int32)).length))])), ((a 12), .inl (cA, (11 * 192), .inl f1))]) (wf := (fun u => (wX a cA (upd x 12 1) ru ma jo gv tk u.1.length u.2 R.length fR (([] : List (Nat → Int32)).length) f1))) (va_runV (As := [.int (nI (t' * 16 + kn)), .int fr, .int vl]) (rest := []) ⟨hx, hb, hml, hown, hts⟩ (c_V_put l dC dI cA H.size (a 4) (a 5) (a 6) fV V hV (nI (t' * 16 + kn)) fr vl k0 hk0 (nI_nm2 (by omega)) hroom) (cwV 3 hts gc_X_79 rfl rfl rfl (by decide +kernel) ⟨Nat.le_of_ble_eq_true rfl, Nat.le_of_ble_eq_true rfl⟩) (mk_muP hP hD [4, 5, 6] (by decide) rfl hK (va_recv hK hP (ci := 5) (q0 := 4) rfl rfl)) rfl rfl hl.1 rfl (lv_room (Nat.le_of_ble_eq_true rfl)) qd_X_change_96 ⟨(Nat.zero_le _), (Nat.zero_le _)⟩) hS hA hP hD [4, 5, 6] [0, 1, 2, 3, 7, 8, 9, 10, 11, 12] [0, 1, 2, 3, 10, 11, 12, 4, 5, 6, 7, 8, 9] rfl rfl (by decide) (by decide) (by decide) (fun _ => rfl) (fun u_16 H locs hu_16 hP hD hS => ?_)
              obtain ⟨V1, fV1⟩ := u_16
              obtain ⟨hput, hokV1⟩ : vs_put V (nI (t' * 16 + kn)) fr vl k0 V1 ∧ sh_ok 3 fV1 V1 := hu_16
              have hlp := vs_put_len hk0.1 hput
              have hV1 : sh_wf 3 160 fV1 V1 := ⟨hokV1, by omega, by decide, by decide, by decide⟩
              have hsort1 := vs_put_sorted hsort hk0 hput
              have hpl1 : vs_all vs_pl V1 := vs_put_pl hpl (by omega) hput
              have hP : va_P (dC, dI) vwCl (wX a cA (upd x 12 1) ru ma jo gv tk V1.length fV1 R.length fR (([] : List (Nat → Int32)).length) f1) H := hP
              have hD : va_D A (wX a cA (upd x 12 1) ru ma jo gv tk V1.length fV1 R.length fR (([] : List (Nat → Int32)).length) f1) := hD
              refine lv_aload_n hx hb qd_X_change_99 rfl (lv_at hl 1 rfl) ?_
              refine lv_iload_n hx hb qd_X_change_100 rfl (lv_at hl 3 rfl) ?_
              refine mk_mcallv (wr := []) (wf := (fun u => (wX a cA (upd x 12 1) ru ma u.1 u.2.2.2.1 u.2.2.2.2 V1.length fV1 u.2.1.1.length u.2.1.2 u.2.2.1.1.length u.2.2.1.2))) (va_runV (As := [.int ky]) (rest := []) ⟨hx, hb, hml, hown, hts⟩ (c_X_correctRows l dC dI cA H.size a (upd x 12 1) ru ma jo gv tk fV1 fR f1 V1 R ([]) hV1 hR hO1 (vs_cuts hsort1) n3 hn3 h3 hky ky (by simp only [List.length_nil]; omega)) (cwV 1 hts gc_X_83 rfl rfl rfl (by decide +kernel) ⟨Nat.le_of_ble_eq_true rfl, Nat.le_of_ble_eq_true rfl⟩) (mk_muP hP hD [0, 1, 2, 3, 4, 5, 6, 7, 8, 9, 10, 11, 12] (by decide) rfl hK (va_recv hK hP (ci := 0) (q0 := 0) rfl rfl)) rfl rfl hl.1 rfl (lv_room (Nat.le_of_ble_eq_true rfl)) qd_X_change_101 ⟨(Nat.zero_le _), (Nat.zero_le _)⟩) hS hA hP hD [0, 1, 2, 3, 4, 5, 6, 7, 8, 9, 10, 11, 12] [] [0, 1, 2, 3, 4, 5, 6, 7, 8, 9, 10, 11, 12] rfl rfl (by decide) (by decide) (by decide) (fun _ => rfl) (fun u_18 H locs hu_18 hP hD hS => ?_)
              obtain ⟨j3, ⟨R1, f3⟩, ⟨Q1, f4⟩, g1, k9⟩ := u_18
              obtain ⟨rfl, hok3, rfl, hok4, rfl, rfl⟩ : R1 = R.map (cw_row V1 ru n3 ky) ∧ sh_ok 12 f3 R1 ∧ Q1 = [] ++ R.flatMap (cw_o V1 ru n3 ky) ∧ sh_ok 11 f4 Q1 ∧ g1 = gv + nI (sw_n (cw_dg V1 ru n3 ky) R R.length) ∧ k9 = tk + nI (sw_n (cw_dt V1 ru ky) R R.length) := hu_18
              have hR1 : sh_wf 12 96 f3 (R.map (cw_row V1 ru n3 ky)) := ⟨hok3, by rw [List.length_map]; exact hlenR, by decide, by decide, by decide⟩
              have hky1 : vs_all rs_ky (R.map (cw_row V1 ru n3 ky)) := vs_all_map hky cw_ky
              obtain ⟨k1, hk1⟩ := vs_cuts hsort1 (nI (t' * 16 + kn)) 0
              obtain ⟨k2, hk2⟩ := vs_cuts hsort1 (nI (t' * 16 + kn)) 100000
              have hkk := vs_cut_mono hk1 hk2 (by decide)
              have hP : va_P (dC, dI) vwCl (wX a cA (upd x 12 1) ru ma j3 (gv + nI (sw_n (cw_dg V1 ru n3 ky) R R.length)) (tk + nI (sw_n (cw_dt V1 ru ky) R R.length)) V1.length fV1 ((R.map (cw_row V1 ru n3 ky)).length) f3 (([] ++ R.flatMap (cw_o V1 ru n3 ky)).length) f4) H := hP
              have hD : va_D A (wX a cA (upd x 12 1) ru ma j3 (gv + nI (sw_n (cw_dg V1 ru n3 ky) R R.length)) (tk + nI (sw_n (cw_dt V1 ru ky) R R.length)) V1.length fV1 ((R.map (cw_row V1 ru n3 ky)).length) f3 (([] ++ R.flatMap (cw_o V1 ru n3 ky)).length) f4) := hD
              refine lv_aload_n hx hb qd_X_change_104 rfl (lv_at hl 1 rfl) ?_
              refine va_get (D := (dC, dI)) (ci := 0) (v := .ref (a 4)) (C := qR_X) (T := qT_X) (N := 13) hx hb hts qin_X hown hK hP 0 rfl rfl 2 (by decide) (hts _ mw_118) (fun _ h9 => h9) rfl qd_X_change_105 ?_
              refine lv_iload hx hb qd_X_change_108 (lv_at hl 0 rfl) ?_
              refine mk_calli (va_runV (As := [.int (nI (t' * 16 + kn))]) (rest := []) ⟨hx, hb, hml, hown, hts⟩ (c_V_sizeAt l dC dI cA H.size (a 4) (a 5) (a 6) fV1 V1 hV1 (nI (t' * 16 + kn)) k1 k2 hk1 hk2 hkk) (cwV 1 hts gc_X_87 rfl rfl rfl (by decide +kernel) ⟨Nat.le_of_ble_eq_true rfl, Nat.le_of_ble_eq_true rfl⟩) (mk_roV hP [4, 5, 6] rfl hK (va_recv hK hP (ci := 5) (q0 := 4) rfl rfl)) rfl rfl hl.1 rfl (lv_room (Nat.le_of_ble_eq_true rfl)) qd_X_change_110 ⟨(Nat.zero_le _), (Nat.zero_le _)⟩) hS hA hP (fun r_19 H locs hr_19 hP hS => ?_)
              obtain rfl : r_19 = nI (k2 - k1) := hr_19
              exact mk_miret (upd x 12 1, j3, (gv + nI (sw_n (cw_dg V1 ru n3 ky) R R.length)), (tk + nI (sw_n (cw_dt V1 ru ky) R R.length)), (V1, fV1), (R.map (cw_row V1 ru n3 ky), f3), ([] ++ R.flatMap (cw_o V1 ru n3 ky), f4)) hx hb hr hlocks hP hK hD hS qd_X_change_113 ⟨Or.inr ⟨hinv.1, hinv.2.1, hinv.2.2.1, hinv.2.2.2, Or.inr (Or.inr ⟨c_9, hroom, rfl, t', kn, k0, k1, k2, ht', et, hkn, ek, hk0, hput, rfl, rfl, rfl, rfl, hk1, hk2, hkk, rfl⟩)⟩, hV1, hR1, ⟨hok4, by have := cw_flen V1 ru n3 ky R; simp only [List.nil_append]; omega, by decide, by decide, by decide⟩, hsort1, hpl1, hky1, hn3, h3⟩
            · refine lv_bipush (v := (-3)) hx hb qd_X_change_73 (by decide) ?_
              have hfull : 160 ≤ V.length := by rcases Nat.lt_or_ge V.length 160 with q | q; exact absurd (nI_lt q (by decide)) c_11; exact q
              exact mk_miret (x, jo, gv, tk, (V, fV), (R, fR), (Lo, fO)) hx hb hr hlocks hP hK hD hS qd_X_change_75 ⟨Or.inr ⟨hinv.1, hinv.2.1, hinv.2.2.1, hinv.2.2.2, Or.inr (Or.inl ⟨c_9, hfull, rfl, rfl, rfl, rfl, rfl, rfl, rfl⟩)⟩, hi⟩
          · refine lv_aload_n hx hb qd_X_change_47 rfl (lv_at hl 0 rfl) ?_
            refine lv_dup hx hb qd_X_change_48 rfl ?_
            refine va_get (D := (dC, dI)) (ci := 0) (v := .int (x 11)) (C := qR_X) (T := qT_X) (N := 13) hx hb hts qin_X hown hK hP 0 rfl rfl 11 (by decide) (hts _ mw_127) (fun _ h9 => h9) rfl qd_X_change_49 ?_
            refine lv_iconst (v := 1) hx hb qd_X_change_52 (by decide) ?_
            refine lv_iadd hx hb qd_X_change_53 ?_
            refine va_put (D := (dC, dI)) (ci := 0) (v := .int ((x 11) + 1)) (ty := .int) (C := qR_X) (T := qT_X) (N := 13) hx hb hts qin_X qty_X qtyok_X qnm_X hown hK hP hD hS 0 rfl rfl 11 (by decide) (hts _ mw_127) (fun _ h9 => h9) rfl (by decide +kernel) rfl rfl (Nat.le_of_ble_eq_true rfl) qd_X_change_54 (fun H locs hP hD hS => ?_)
            have hP : va_P (dC, dI) vwCl (wX a cA (upd x 11 ((x 11) + 1)) ru ma jo gv tk V.length fV R.length fR Lo.length fO) H := hP
            have hD : va_D A (wX a cA (upd x 11 ((x 11) + 1)) ru ma jo gv tk V.length fV R.length fR Lo.length fO) := hD
            refine lv_bipush (v := (-4)) hx hb qd_X_change_57 (by decide) ?_
            exact mk_miret (upd x 11 (x 11 + 1), jo, gv, tk, (V, fV), (R, fR), (Lo, fO)) hx hb hr hlocks hP hK hD hS qd_X_change_59 ⟨Or.inr ⟨hinv.1, hinv.2.1, hinv.2.2.1, hinv.2.2.2, Or.inl ⟨c_9, rfl, rfl, rfl, rfl, rfl, rfl, rfl⟩⟩, hi⟩
        · refine lv_iload hx hb qd_X_change_22 (lv_at hl 4 rfl) ?_
          refine lv_iconst (v := (-1)) hx hb qd_X_change_24 (by decide) ?_
          refine lv_icmp_eq (tgt := 38) hx hb qd_X_change_25 (by decide) (fun c_20 => ?_) (fun c_20 => ?_)
          · exact J_7 () H locs ls ⟨⟨c_2, c_4, c_6, Or.inl c_20⟩, hP, hD, hS, lv_sub hl [0, 1, 2, 3, 4] rfl⟩
          · refine lv_iload hx hb qd_X_change_28 (lv_at hl 4 rfl) ?_
            refine mk_calli (va_runS (As := [.int vl]) (rest := []) ⟨hx, hb, hml, hown, hts⟩ (c_X_isValue l dC dI cA H.size vl) (va_cwS 1 hts gc_X_58 rfl rfl rfl (by decide +kernel) ⟨Nat.le_of_ble_eq_true rfl, Nat.le_of_ble_eq_true rfl⟩) (mk_roS hP [] rfl hK) rfl rfl hl.1 rfl (lv_room (Nat.le_of_ble_eq_true rfl)) qd_X_change_30 ⟨(Nat.zero_le _), (Nat.zero_le _)⟩) hS hA hP (fun r_21 H locs hr_21 hP hS => ?_)
            obtain rfl : r_21 = xv_b vl := hr_21
            refine lv_if_ne (tgt := 38) hx hb qd_X_change_33 (by decide) (fun c_22 => ?_) (fun c_22 => ?_)
            · exact J_7 () H locs ls ⟨⟨c_2, c_4, c_6, Or.inr c_22⟩, hP, hD, hS, lv_sub hl [0, 1, 2, 3, 4] rfl⟩
            · refine lv_iconst (v := (-1)) hx hb qd_X_change_36 (by decide) ?_
              exact mk_miret (x, jo, gv, tk, (V, fV), (R, fR), (Lo, fO)) hx hb hr hlocks hP hK hD hS qd_X_change_37 ⟨Or.inl ⟨Or.inr (Or.inr (Or.inr ⟨c_20, c_22⟩)), rfl, rfl, rfl, rfl, rfl, rfl, rfl⟩, hi⟩
end
section
set_option maxHeartbeats 4000000 in
set_option maxRecDepth 100000 in
/-- row(key, time, value) -/
theorem c_X_row (l : Launch) (dC : Nat → ClassId) (dI : Nat → Nat → Nat) (cA : ClassId) (sz : Nat) (a : Nat → Nat) (x ru ma jo : Nat → Int32) (gv tk : Int32) (V : List (Nat → Int32)) (fV : Nat → Int32) (R : List (Nat → Int32)) (fR : Nat → Int32) (Lo : List (Nat → Int32)) (fO : Nat → Int32) (n3 : Nat) (hi : xi_ok x V fV R fR Lo fO n3) (ky tm vl : Int32) : Met l qy_X_row qw_X_row ({ frames := 5, cells := 0, slots := 0, locals := 152 }) (mk_mu [.ref (a 0), .int ky, .int tm, .int vl] sz (dC, dI) vwCl [(cA, .int)] (wX a cA x ru ma jo gv tk V.length fV R.length fR Lo.length fO)) (mk_muQ (S := (Nat → Int32) × (Nat → Int32) × Int32 × (List (Nat → Int32) × (Nat → Int32)) × (List (Nat → Int32) × (Nat → Int32))) (fun r u => xo_row n3 x ru ma gv V R Lo ky tm vl r u.1 u.2.2.1 u.2.2.2.1.1 u.2.2.2.2.1 ∧ xi_ok u.1 V fV u.2.2.2.1.1 u.2.2.2.1.2 u.2.2.2.2.1 u.2.2.2.2.2 n3) (fun u => (wX a cA u.1 ru ma u.2.1 u.2.2.1 tk V.length fV u.2.2.2.1.1.length u.2.2.2.1.2 u.2.2.2.2.1.length u.2.2.2.2.2)) (dC, dI) vwCl [(cA, .int)] (va_A (wX a cA x ru ma jo gv tk V.length fV R.length fR Lo.length fO) sz)) 0 0 (va_A (wX a cA x ru ma jo gv tk V.length fV R.length fR Lo.length fO) sz) := by
  refine Met.ofW (cc := qb_X_row) (maxL := 5) (ret := (some .int)) (by decide) rfl ?_
  intro p e s m args below meth c s₁ B hml hpre
  obtain ⟨rfl, hsz, hP, hK, hD0⟩ := hpre
  have hx := B.exec
  have hb := B.bytes
  have hr := B.returns
  have hts0 := atoms_spec (ws := qw_X_row) B.pre
  have hts := fun w (h : w ∈ lw_gd) => hts0 w (List.mem_cons_of_mem _ h)
  have hown : s.vm.findClass qR_X = some m.cls := findClass_of_methodNamed B.named
  have hlocks := B.notSynchronized
  subst hsz
  have hD := hD0.self (sz := s.heap.size)
  generalize hAe : va_A (wX a cA x ru ma jo gv tk V.length fV R.length fR Lo.length fO) s.heap.size = A at hD ⊢
  have hA : ∀ q : Nat, s.heap.size ≤ q → A q := fun q h => by rw [← hAe]; exact Or.inr h
  have hS : va_S A s.heap s.heap [] := va_S.rf
  have hl := lv_entry ([.ref (a 0), .int ky, .int tm, .int vl]) (n := 5) (Nat.le_of_ble_eq_true rfl)
  rw [lg_entry_eq]
  generalize (lg_sl ([.ref (a 0), .int ky, .int tm, .int vl]) ++ List.replicate (5 - (lg_sl ([.ref (a 0), .int ky, .int tm, .int vl])).length) Slot.unset).toArray = ls at hl ⊢
  have hl : lv_has ls 5 [(0, .ref (a 0)), (1, .int ky), (2, .int tm), (3, .int vl)] := hl
  have hP : va_P (dC, dI) vwCl (wX a cA x ru ma jo gv tk V.length fV R.length fR Lo.length fO) s.heap := hP
  refine mk_start (A := A) hP (fun H locs hP hS => ?_)
  obtain ⟨hV, hR, hO, hsort, hpl, hky, hn3, h3⟩ := id hi
  obtain ⟨hokV, hlenV, -, -, -⟩ := id hV
  obtain ⟨hokR, hlenR, -, -, -⟩ := id hR
  obtain ⟨hokO, hlenO, -, -, -⟩ := id hO
  refine lv_iload_n hx hb qd_X_row_0 rfl (lv_at hl 1 rfl) ?_
  refine mk_calli (va_runS (As := [.int ky]) (rest := []) ⟨hx, hb, hml, hown, hts⟩ (c_X_isKey l dC dI cA H.size ky) (va_cwS 1 hts gc_X_52 rfl rfl rfl (by decide +kernel) ⟨Nat.le_of_ble_eq_true rfl, Nat.le_of_ble_eq_true rfl⟩) (mk_roS hP [] rfl hK) rfl rfl hl.1 rfl (lv_room (Nat.le_of_ble_eq_true rfl)) qd_X_row_1 ⟨(Nat.zero_le _), (Nat.zero_le _)⟩) hS hA hP (fun r_1 H locs hr_1 hP hS => ?_)
  obtain rfl : r_1 = xk_b ky := hr_1
  refine lv_if_eq (tgt := 28) hx hb qd_X_row_4 (by decide) (fun c_2 => ?_) (fun c_2 => ?_)
  · refine lv_iconst (v := (-1)) hx hb qd_X_row_28 (by decide) ?_
    exact mk_miret (x, jo, gv, (R, fR), (Lo, fO)) hx hb hr hlocks hP hK hD hS qd_X_row_29 ⟨Or.inl ⟨Or.inl c_2, rfl, rfl, rfl, rfl, rfl⟩, hi⟩
  · refine lv_iload_n hx hb qd_X_row_7 rfl (lv_at hl 2 rfl) ?_
    refine mk_calli (va_runS (As := [.int tm]) (rest := []) ⟨hx, hb, hml, hown, hts⟩ (c_X_isTime l dC dI cA H.size tm) (va_cwS 1 hts gc_X_55 rfl rfl rfl (by decide +kernel) ⟨Nat.le_of_ble_eq_true rfl, Nat.le_of_ble_eq_true rfl⟩) (mk_roS hP [] rfl hK) rfl rfl hl.1 rfl (lv_room (Nat.le_of_ble_eq_true rfl)) qd_X_row_8 ⟨(Nat.zero_le _), (Nat.zero_le _)⟩) hS hA hP (fun r_3 H locs hr_3 hP hS => ?_)
    obtain rfl : r_3 = xm_b tm := hr_3
    refine lv_if_eq (tgt := 28) hx hb qd_X_row_11 (by decide) (fun c_4 => ?_) (fun c_4 => ?_)
    · refine lv_iconst (v := (-1)) hx hb qd_X_row_28 (by decide) ?_
      exact mk_miret (x, jo, gv, (R, fR), (Lo, fO)) hx hb hr hlocks hP hK hD hS qd_X_row_29 ⟨Or.inl ⟨Or.inr (Or.inl c_4), rfl, rfl, rfl, rfl, rfl⟩, hi⟩
    · refine lv_iload_n hx hb qd_X_row_14 rfl (lv_at hl 3 rfl) ?_
      refine mk_calli (va_runS (As := [.int vl]) (rest := []) ⟨hx, hb, hml, hown, hts⟩ (c_X_isValue l dC dI cA H.size vl) (va_cwS 1 hts gc_X_58 rfl rfl rfl (by decide +kernel) ⟨Nat.le_of_ble_eq_true rfl, Nat.le_of_ble_eq_true rfl⟩) (mk_roS hP [] rfl hK) rfl rfl hl.1 rfl (lv_room (Nat.le_of_ble_eq_true rfl)) qd_X_row_15 ⟨(Nat.zero_le _), (Nat.zero_le _)⟩) hS hA hP (fun r_5 H locs hr_5 hP hS => ?_)
      obtain rfl : r_5 = xv_b vl := hr_5
      refine lv_if_eq (tgt := 28) hx hb qd_X_row_18 (by decide) (fun c_6 => ?_) (fun c_6 => ?_)
      · refine lv_iconst (v := (-1)) hx hb qd_X_row_28 (by decide) ?_
        exact mk_miret (x, jo, gv, (R, fR), (Lo, fO)) hx hb hr hlocks hP hK hD hS qd_X_row_29 ⟨Or.inl ⟨Or.inr (Or.inr (Or.inl c_6)), rfl, rfl, rfl, rfl, rfl⟩, hi⟩
      · refine lv_aload_n hx hb qd_X_row_21 rfl (lv_at hl 0 rfl) ?_
        refine va_get (D := (dC, dI)) (ci := 0) (v := .int (x 6)) (C := qR_X) (T := qT_X) (N := 13) hx hb hts qin_X hown hK hP 0 rfl rfl 6 (by decide) (hts _ mw_122) (fun _ h9 => h9) rfl qd_X_row_22 ?_
        refine lv_if_ne (tgt := 30) hx hb qd_X_row_25 (by decide) (fun c_7 => ?_) (fun c_7 => ?_)
        · refine lv_iload_n hx hb qd_X_row_30 rfl (lv_at hl 2 rfl) ?_
          refine lv_aload_n hx hb qd_X_row_31 rfl (lv_at hl 0 rfl) ?_
          refine va_get (D := (dC, dI)) (ci := 0) (v := .int (x 7)) (C := qR_X) (T := qT_X) (N := 13) hx hb hts qin_X hown hK hP 0 rfl rfl 7 (by decide) (hts _ mw_123) (fun _ h9 => h9) rfl qd_X_row_32 ?_
          refine lv_icmp_gt (tgt := 51) hx hb qd_X_row_35 (by decide) (fun c_8 => ?_) (fun c_8 => ?_)
          · refine lv_aload_n hx hb qd_X_row_51 rfl (lv_at hl 0 rfl) ?_
            refine va_get (D := (dC, dI)) (ci := 0) (v := .ref (a 7)) (C := qR_X) (T := qT_X) (N := 13) hx hb hts qin_X hown hK hP 0 rfl rfl 3 (by decide) (hts _ mw_119) (fun _ h9 => h9) rfl qd_X_row_52 ?_
            refine mk_calli (va_runV (As := []) (rest := []) ⟨hx, hb, hml, hown, hts⟩ (c_R_size l dC dI cA H.size (a 7) (a 8) (a 9) fR R hR) (cwV 0 hts gc_X_94 rfl rfl rfl (by decide +kernel) ⟨Nat.le_of_ble_eq_true rfl, Nat.le_of_ble_eq_true rfl⟩) (mk_roV hP [7, 8, 9] rfl hK (va_recv hK hP (ci := 3) (q0 := 7) rfl rfl)) rfl rfl hl.1 rfl (lv_room (Nat.le_of_ble_eq_true rfl)) qd_X_row_55 ⟨(Nat.zero_le _), (Nat.zero_le _)⟩) hS hA hP (fun r_9 H locs hr_9 hP hS => ?_)
            obtain rfl : r_9 = nI R.length := hr_9
            refine lv_bipush (v := 96) hx hb qd_X_row_58 (by decide) ?_
            refine lv_icmp_ge (tgt := 73) hx hb qd_X_row_60 (by decide) (fun c_10 => ?_) (fun c_10 => ?_)
            · refine lv_bipush (v := (-3)) hx hb qd_X_row_73 (by decide) ?_
              exact mk_miret (x, jo, gv, (R, fR), (Lo, fO)) hx hb hr hlocks hP hK hD hS qd_X_row_75 ⟨Or.inr ⟨c_2, c_4, c_6, c_7, Or.inr (Or.inl ⟨c_8, Or.inl ((nI_leI (by decide) (by omega)).mp c_10), rfl, rfl, rfl, rfl, rfl⟩)⟩, hi⟩
            · refine lv_aload_n hx hb qd_X_row_63 rfl (lv_at hl 0 rfl) ?_
              refine va_get (D := (dC, dI)) (ci := 0) (v := .int (x 8)) (C := qR_X) (T := qT_X) (N := 13) hx hb hts qin_X hown hK hP 0 rfl rfl 8 (by decide) (hts _ mw_124) (fun _ h9 => h9) rfl qd_X_row_64 ?_
              refine lv_sipush (v := 30000) hx hb qd_X_row_67 (by decide) ?_
              refine lv_icmp_lt (tgt := 76) hx hb qd_X_row_70 (by decide) (fun c_11 => ?_) (fun c_11 => ?_)
              · have hroom : R.length < 96 := by rcases Nat.lt_or_ge R.length 96 with q | q; exact q; exact absurd (nI_le q (by omega)) c_10
                refine lv_aload_n hx hb qd_X_row_76 rfl (lv_at hl 0 rfl) ?_
                refine mk_mcallv (wr := []) (wf := (fun u => (wX a cA (upd x 12 1) ru ma jo gv tk V.length fV R.length fR u.1.length u.2))) (va_runV (As := []) (rest := []) ⟨hx, hb, hml, hown, hts⟩ (c_X_begin l dC dI cA H.size a x ru ma jo gv tk V.length fV R.length fR fO Lo hO) (cwV 0 hts gc_X_72 rfl rfl rfl (by decide +kernel) ⟨Nat.le_of_ble_eq_true rfl, Nat.le_of_ble_eq_true rfl⟩) (mk_muP hP hD [0, 1, 2, 3, 4, 5, 6, 7, 8, 9, 10, 11, 12] (by decide) rfl hK (va_recv hK hP (ci := 0) (q0 := 0) rfl rfl)) rfl rfl hl.1 rfl (lv_room (Nat.le_of_ble_eq_true rfl)) qd_X_row_77 ⟨(Nat.zero_le _), (Nat.zero_le _)⟩) hS hA hP hD [0, 1, 2, 3, 4, 5, 6, 7, 8, 9, 10, 11, 12] [] [0, 1, 2, 3, 4, 5, 6, 7, 8, 9, 10, 11, 12] rfl rfl (by decide) (by decide) (by decide) (fun _ => rfl) (fun u_13 H locs hu_13 hP hD hS => ?_)
                obtain ⟨Q1, f1⟩ := u_13
                obtain ⟨rfl, hok1⟩ : Q1 = [] ∧ sh_ok 11 f1 Q1 := hu_13
                have hO1 : sh_wf 11 192 f1 [] := ⟨hok1, by decide, by decide, by decide, by decide⟩
                have hP : va_P (dC, dI) vwCl (wX a cA (upd x 12 1) ru ma jo gv tk V.length fV R.length fR (([] : List (Nat → Int32)).length) f1) H := hP
                have hD : va_D A (wX a cA (upd x 12 1) ru ma jo gv tk V.length fV R.length fR (([] : List (Nat → Int32)).length) f1) := hD
                refine lv_aload_n hx hb qd_X_row_80 rfl (lv_at hl 0 rfl) ?_
                refine va_get (D := (dC, dI)) (ci := 0) (v := .int (x 8)) (C := qR_X) (T := qT_X) (N := 13) hx hb hts qin_X hown hK hP 0 rfl rfl 8 (by decide) (hts _ mw_124) (fun _ h9 => h9) rfl qd_X_row_81 ?_
                refine lv_istore (lv' := [(4, .int (x 8)), (0, .ref (a 0)), (1, .int ky), (2, .int tm), (3, .int vl)]) hx hb qd_X_row_84 hl (by decide) rfl (fun ls hl => ?_)
                refine lv_aload_n hx hb qd_X_row_86 rfl (lv_at hl 1 rfl) ?_
                refine lv_dup hx hb qd_X_row_87 rfl ?_
                refine va_get (D := (dC, dI)) (ci := 0) (v := .int (x 8)) (C := qR_X) (T := qT_X) (N := 13) hx hb hts qin_X hown hK hP 0 rfl rfl 8 (by decide) (hts _ mw_124) (fun _ h9 => h9) rfl qd_X_row_88 ?_
                refine lv_iconst (v := 1) hx hb qd_X_row_91 (by decide) ?_
                refine lv_iadd hx hb qd_X_row_92 ?_
                refine va_put (D := (dC, dI)) (ci := 0) (v := .int ((x 8) + 1)) (ty := .int) (C := qR_X) (T := qT_X) (N := 13) hx hb hts qin_X qty_X qtyok_X qnm_X hown hK hP hD hS 0 rfl rfl 8 (by decide) (hts _ mw_124) (fun _ h9 => h9) rfl (by decide +kernel) rfl rfl (Nat.le_of_ble_eq_true rfl) qd_X_row_93 (fun H locs hP hD hS => ?_)
                have hP : va_P (dC, dI) vwCl (wX a cA (upd (upd x 12 1) 8 ((x 8) + 1)) ru ma jo gv tk V.length fV R.length fR (([] : List (Nat → Int32)).length) f1) H := hP
                have hD : va_D A (wX a cA (upd (upd x 12 1) 8 ((x 8) + 1)) ru ma jo gv tk V.length fV R.length fR (([] : List (Nat → Int32)).length) f1) := hD
                refine lv_aload_n hx hb qd_X_row_96 rfl (lv_at hl 1 rfl) ?_
                refine va_get (D := (dC, dI)) (ci := 0) (v := .ref (a 7)) (C := qR_X) (T := qT_X) (N := 13) hx hb hts qin_X hown hK hP 0 rfl rfl 3 (by decide) (hts _ mw_119) (fun _ h9 => h9) rfl qd_X_row_97 ?_
                refine lv_iload hx hb qd_X_row_100 (lv_at hl 0 rfl) ?_
                refine lv_iload_n hx hb qd_X_row_102 rfl (lv_at hl 2 rfl) ?_
                refine lv_iload_n hx hb qd_X_row_103 rfl (lv_at hl 3 rfl) ?_
                refine lv_iload_n hx hb qd_X_row_104 rfl (lv_at hl 4 rfl) ?_
                refine mk_mcallv (wr := [((a 0), .inr (0, [.ref (a 1), .ref (a 2), .ref (a 4), .ref (a 7), .ref (a 10), .ref (a 3), .int (x 6), .int (x 7), .int ((x 8) + 1), .int (x 9), .int (x 10), .int (x 11), .int 1])), ((a 1), .inl (cA, 4, .inl ru)), ((a 2), .inl (cA, 3, .inl ma)), ((a 3), .inl (cA, 6, .inl jo)), ((a 4), .inr (5, [.ref (a 5)])), ((a 5), .inr (4, [.int (nI 3), .int (nI 160), .ref (a 6), .int (nI V.length)])), ((a 6), .inl (cA, (3 * 160), .inl fV)), ((a 10), .inr (2, [.ref (a 11), .int gv, .int tk])), ((a 11), .inr (4, [.int (nI 11), .int (nI 192), .ref (a 12), .int (nI (([] : List (Nat → Int32)).length))])), ((a 12), .inl (cA, (11 * 192), .inl f1))]) (wf := (fun u => (wX a cA (upd (upd x 12 1) 8 ((x 8) + 1)) ru ma jo gv tk V.length fV u.1.length u.2 (([] : List (Nat → Int32)).length) f1))) (va_runV (As := [.int (x 8), .int ky, .int tm, .int vl]) (rest := []) ⟨hx, hb, hml, hown, hts⟩ (c_R_add l dC dI cA H.size (a 7) (a 8) (a 9) fR R hR (x 8) ky tm vl hroom) (cwV 4 hts gc_X_98 rfl rfl rfl (by decide +kernel) ⟨Nat.le_of_ble_eq_true rfl, Nat.le_of_ble_eq_true rfl⟩) (mk_muP hP hD [7, 8, 9] (by decide) rfl hK (va_recv hK hP (ci := 3) (q0 := 7) rfl rfl)) rfl rfl hl.1 rfl (lv_room (Nat.le_of_ble_eq_true rfl)) qd_X_row_105 ⟨(Nat.zero_le _), (Nat.zero_le _)⟩) hS hA hP hD [7, 8, 9] [0, 1, 2, 3, 4, 5, 6, 10, 11, 12] [0, 1, 2, 3, 4, 5, 6, 10, 11, 12, 7, 8, 9] rfl rfl (by decide) (by decide) (by decide) (fun _ => rfl) (fun u_15 H locs hu_15 hP hD hS => ?_)
                obtain ⟨R1, fR1⟩ := u_15
                obtain ⟨hadd, hokR1⟩ : rs_add R (x 8) ky tm vl R1 ∧ sh_ok 12 fR1 R1 := hu_15
                have hla := rs_add_len hadd
                have hR1 : sh_wf 12 96 fR1 R1 := ⟨hokR1, by omega, by decide, by decide, by decide⟩
                have hky1 := rs_add_ky hky c_2 hadd
                have hP : va_P (dC, dI) vwCl (wX a cA (upd (upd x 12 1) 8 ((x 8) + 1)) ru ma jo gv tk V.length fV R1.length fR1 (([] : List (Nat → Int32)).length) f1) H := hP
                have hD : va_D A (wX a cA (upd (upd x 12 1) 8 ((x 8) + 1)) ru ma jo gv tk V.length fV R1.length fR1 (([] : List (Nat → Int32)).length) f1) := hD
                refine lv_aload_n hx hb qd_X_row_108 rfl (lv_at hl 1 rfl) ?_
                refine mk_mcallv (wr := []) (wf := (fun u => (wX a cA (upd (upd x 12 1) 8 ((x 8) + 1)) ru ma u.1 u.2.2.2 tk V.length fV u.2.1.1.length u.2.1.2 u.2.2.1.1.length u.2.2.1.2))) (va_runV (As := []) (rest := []) ⟨hx, hb, hml, hown, hts⟩ (c_X_joinRows l dC dI cA H.size a (upd (upd x 12 1) 8 ((x 8) + 1)) ru ma jo gv tk fV fR1 f1 V R1 ([]) hV hR1 hO1 (vs_cuts hsort) n3 hn3 h3 hky1 (by simp only [List.length_nil]; omega)) (cwV 0 hts gc_X_102 rfl rfl rfl (by decide +kernel) ⟨Nat.le_of_ble_eq_true rfl, Nat.le_of_ble_eq_true rfl⟩) (mk_muP hP hD [0, 1, 2, 3, 4, 5, 6, 7, 8, 9, 10, 11, 12] (by decide) rfl hK (va_recv hK hP (ci := 0) (q0 := 0) rfl rfl)) rfl rfl hl.1 rfl (lv_room (Nat.le_of_ble_eq_true rfl)) qd_X_row_109 ⟨(Nat.zero_le _), (Nat.zero_le _)⟩) hS hA hP hD [0, 1, 2, 3, 4, 5, 6, 7, 8, 9, 10, 11, 12] [] [0, 1, 2, 3, 4, 5, 6, 7, 8, 9, 10, 11, 12] rfl rfl (by decide) (by decide) (by decide) (fun _ => rfl) (fun u_17 H locs hu_17 hP hD hS => ?_)
                obtain ⟨j3, ⟨R2, f3⟩, ⟨Q1, f4⟩, g1⟩ := u_17
                obtain ⟨rfl, hok3, rfl, hok4, rfl⟩ : R2 = R1.map (jr_row V ru n3 (xt_low ma n3)) ∧ sh_ok 12 f3 R2 ∧ Q1 = [] ++ R1.flatMap (jr_out V ru n3 (xt_low ma n3)) ∧ sh_ok 11 f4 Q1 ∧ g1 = gv + nI (sw_n (jr_d V ru n3 (xt_low ma n3)) R1 R1.length) := hu_17
                have hP : va_P (dC, dI) vwCl (wX a cA (upd (upd x 12 1) 8 ((x 8) + 1)) ru ma j3 (gv + nI (sw_n (jr_d V ru n3 (xt_low ma n3)) R1 R1.length)) tk V.length fV ((R1.map (jr_row V ru n3 (xt_low ma n3))).length) f3 (([] ++ R1.flatMap (jr_out V ru n3 (xt_low ma n3))).length) f4) H := hP
                have hD : va_D A (wX a cA (upd (upd x 12 1) 8 ((x 8) + 1)) ru ma j3 (gv + nI (sw_n (jr_d V ru n3 (xt_low ma n3)) R1 R1.length)) tk V.length fV ((R1.map (jr_row V ru n3 (xt_low ma n3))).length) f3 (([] ++ R1.flatMap (jr_out V ru n3 (xt_low ma n3))).length) f4) := hD
                refine lv_iload hx hb qd_X_row_112 (lv_at hl 0 rfl) ?_
                exact mk_miret (upd (upd x 12 1) 8 (x 8 + 1), j3, gv + nI (sw_n (jr_d V ru n3 (xt_low ma n3)) R1 R1.length), (R1.map (jr_row V ru n3 (xt_low ma n3)), f3), ([] ++ R1.flatMap (jr_out V ru n3 (xt_low ma n3)), f4)) hx hb hr hlocks hP hK hD hS qd_X_row_114 ⟨Or.inr ⟨c_2, c_4, c_6, c_7, Or.inr (Or.inr ⟨c_8, hroom, c_11, rfl, rfl, R1, hadd, rfl, rfl, rfl⟩)⟩, hV, ⟨hok3, by rw [List.length_map]; omega, by decide, by decide, by decide⟩, ⟨hok4, by have := jr_flen V ru n3 (xt_low ma n3) R1; simp only [List.nil_append]; omega, by decide, by decide, by decide⟩, hsort, hpl, vs_all_map hky1 jr_ky, hn3, h3⟩
              · refine lv_bipush (v := (-3)) hx hb qd_X_row_73 (by decide) ?_
                exact mk_miret (x, jo, gv, (R, fR), (Lo, fO)) hx hb hr hlocks hP hK hD hS qd_X_row_75 ⟨Or.inr ⟨c_2, c_4, c_6, c_7, Or.inr (Or.inl ⟨c_8, Or.inr c_11, rfl, rfl, rfl, rfl, rfl⟩)⟩, hi⟩
          · refine lv_aload_n hx hb qd_X_row_38 rfl (lv_at hl 0 rfl) ?_
            refine lv_dup hx hb qd_X_row_39 rfl ?_
            refine va_get (D := (dC, dI)) (ci := 0) (v := .int (x 11)) (C := qR_X) (T := qT_X) (N := 13) hx hb hts qin_X hown hK hP 0 rfl rfl 11 (by decide) (hts _ mw_127) (fun _ h9 => h9) rfl qd_X_row_40 ?_
            refine lv_iconst (v := 1) hx hb qd_X_row_43 (by decide) ?_
            refine lv_iadd hx hb qd_X_row_44 ?_
            refine va_put (D := (dC, dI)) (ci := 0) (v := .int ((x 11) + 1)) (ty := .int) (C := qR_X) (T := qT_X) (N := 13) hx hb hts qin_X qty_X qtyok_X qnm_X hown hK hP hD hS 0 rfl rfl 11 (by decide) (hts _ mw_127) (fun _ h9 => h9) rfl (by decide +kernel) rfl rfl (Nat.le_of_ble_eq_true rfl) qd_X_row_45 (fun H locs hP hD hS => ?_)
            have hP : va_P (dC, dI) vwCl (wX a cA (upd x 11 ((x 11) + 1)) ru ma jo gv tk V.length fV R.length fR Lo.length fO) H := hP
            have hD : va_D A (wX a cA (upd x 11 ((x 11) + 1)) ru ma jo gv tk V.length fV R.length fR Lo.length fO) := hD
            refine lv_bipush (v := (-4)) hx hb qd_X_row_48 (by decide) ?_
            exact mk_miret (upd x 11 (x 11 + 1), jo, gv, (R, fR), (Lo, fO)) hx hb hr hlocks hP hK hD hS qd_X_row_50 ⟨Or.inr ⟨c_2, c_4, c_6, c_7, Or.inl ⟨c_8, rfl, rfl, rfl, rfl, rfl⟩⟩, hi⟩
        · refine lv_iconst (v := (-1)) hx hb qd_X_row_28 (by decide) ?_
          exact mk_miret (x, jo, gv, (R, fR), (Lo, fO)) hx hb hr hlocks hP hK hD hS qd_X_row_29 ⟨Or.inl ⟨Or.inr (Or.inr (Or.inr c_7)), rfl, rfl, rfl, rfl, rfl⟩, hi⟩
set_option maxHeartbeats 4000000 in
set_option maxRecDepth 100000 in
/-- mark(table, time) -/
theorem c_X_mark (l : Launch) (dC : Nat → ClassId) (dI : Nat → Nat → Nat) (cA : ClassId) (sz : Nat) (a : Nat → Nat) (x ru ma jo : Nat → Int32) (gv tk : Int32) (V : List (Nat → Int32)) (fV : Nat → Int32) (R : List (Nat → Int32)) (fR : Nat → Int32) (Lo : List (Nat → Int32)) (fO : Nat → Int32) (n3 : Nat) (hi : xi_ok x V fV R fR Lo fO n3) (t tm : Int32) : Met l qy_X_mark qw_X_mark ({ frames := 5, cells := 0, slots := 0, locals := 152 }) (mk_mu [.ref (a 0), .int t, .int tm] sz (dC, dI) vwCl [(cA, .int)] (wX a cA x ru ma jo gv tk V.length fV R.length fR Lo.length fO)) (mk_muQ (S := (Nat → Int32) × (Nat → Int32) × (Nat → Int32) × Int32 × (List (Nat → Int32) × (Nat → Int32)) × (List (Nat → Int32) × (Nat → Int32)) × (List (Nat → Int32) × (Nat → Int32))) (fun r u => xo_mark n3 x ru ma gv V R Lo t tm r u.1 u.2.1 u.2.2.2.1 u.2.2.2.2.1.1 u.2.2.2.2.2.1.1 u.2.2.2.2.2.2.1 ∧ xi_ok u.1 u.2.2.2.2.1.1 u.2.2.2.2.1.2 u.2.2.2.2.2.1.1 u.2.2.2.2.2.1.2 u.2.2.2.2.2.2.1 u.2.2.2.2.2.2.2 n3) (fun u => (wX a cA u.1 ru u.2.1 u.2.2.1 u.2.2.2.1 tk u.2.2.2.2.1.1.length u.2.2.2.2.1.2 u.2.2.2.2.2.1.1.length u.2.2.2.2.2.1.2 u.2.2.2.2.2.2.1.length u.2.2.2.2.2.2.2)) (dC, dI) vwCl [(cA, .int)] (va_A (wX a cA x ru ma jo gv tk V.length fV R.length fR Lo.length fO) sz)) 0 0 (va_A (wX a cA x ru ma jo gv tk V.length fV R.length fR Lo.length fO) sz) := by
  refine Met.ofW (cc := qb_X_mark) (maxL := 4) (ret := (some .int)) (by decide) rfl ?_
  intro p e s m args below meth c s₁ B hml hpre
  obtain ⟨rfl, hsz, hP, hK, hD0⟩ := hpre
  have hx := B.exec
  have hb := B.bytes
  have hr := B.returns
  have hts0 := atoms_spec (ws := qw_X_mark) B.pre
  have hts := fun w (h : w ∈ lw_gd) => hts0 w (List.mem_cons_of_mem _ h)
  have hown : s.vm.findClass qR_X = some m.cls := findClass_of_methodNamed B.named
  have hlocks := B.notSynchronized
  subst hsz
  have hD := hD0.self (sz := s.heap.size)
  generalize hAe : va_A (wX a cA x ru ma jo gv tk V.length fV R.length fR Lo.length fO) s.heap.size = A at hD ⊢
  have hA : ∀ q : Nat, s.heap.size ≤ q → A q := fun q h => by rw [← hAe]; exact Or.inr h
  have hS : va_S A s.heap s.heap [] := va_S.rf
  have hl := lv_entry ([.ref (a 0), .int t, .int tm]) (n := 4) (Nat.le_of_ble_eq_true rfl)
  rw [lg_entry_eq]
  generalize (lg_sl ([.ref (a 0), .int t, .int tm]) ++ List.replicate (4 - (lg_sl ([.ref (a 0), .int t, .int tm])).length) Slot.unset).toArray = ls at hl ⊢
  have hl : lv_has ls 4 [(0, .ref (a 0)), (1, .int t), (2, .int tm)] := hl
  have hP : va_P (dC, dI) vwCl (wX a cA x ru ma jo gv tk V.length fV R.length fR Lo.length fO) s.heap := hP
  refine mk_start (A := A) hP (fun H locs hP hS => ?_)
  obtain ⟨hV, hR, hO, hsort, hpl, hky, hn3, h3⟩ := id hi
  obtain ⟨hokV, hlenV, -, -, -⟩ := id hV
  obtain ⟨hokR, hlenR, -, -, -⟩ := id hR
  obtain ⟨hokO, hlenO, -, -, -⟩ := id hO
  refine mk_after (σ := Unit) (fun y9 H locs ls => (t = -1 ∨ ¬ xt_b (x 6) t = 0) ∧ va_P (dC, dI) vwCl (wX a cA x ru ma jo gv tk V.length fV R.length fR Lo.length fO) H ∧ va_D A (wX a cA x ru ma jo gv tk V.length fV R.length fR Lo.length fO) ∧ va_S A s.heap H locs ∧ lv_has ls 4 [(0, .ref (a 0)), (1, .int t), (2, .int tm)]) (fun ls => F0 m 13 ls []) (fun y9 H locs ls hI => ?_) (fun J_1 => ?_)
  · obtain ⟨z9, rfl⟩ : ∃ z, z = y9 := ⟨_, rfl⟩
    obtain ⟨hinv, hP, hD, hS, hl⟩ := hI
    have hinv : t = -1 ∨ ¬ xt_b (x 6) t = 0 := hinv
    have hP : va_P (dC, dI) vwCl (wX a cA x ru ma jo gv tk V.length fV R.length fR Lo.length fO) H := hP
    have hD : va_D A (wX a cA x ru ma jo gv tk V.length fV R.length fR Lo.length fO) := hD
    have hl : lv_has ls 4 [(0, .ref (a 0)), (1, .int t), (2, .int tm)] := hl
    have hin0 := hinv
    refine lv_iload_n hx hb qd_X_mark_13 rfl (lv_at hl 2 rfl) ?_
    refine lv_if_lt (tgt := 23) hx hb qd_X_mark_14 (by decide) (fun c_2 => ?_) (fun c_2 => ?_)
    · refine lv_iconst (v := (-1)) hx hb qd_X_mark_23 (by decide) ?_
      exact mk_miret (x, ma, jo, gv, (V, fV), (R, fR), (Lo, fO)) hx hb hr hlocks hP hK hD hS qd_X_mark_24 ⟨Or.inl ⟨Or.inr (Or.inl c_2), rfl, rfl, rfl, rfl, rfl, rfl, rfl⟩, hi⟩
    · refine lv_iload_n hx hb qd_X_mark_17 rfl (lv_at hl 2 rfl) ?_
      refine lv_ldc (v := 100000) hx hb hown (hts _ mw_178) qd_X_mark_18 ?_
      refine lv_icmp_le (tgt := 25) hx hb qd_X_mark_20 (by decide) (fun c_3 => ?_) (fun c_3 => ?_)
      · refine mk_meetH (D := (dC, dI)) (cl := vwCl) (ws := (wX a cA x ru ma jo gv tk V.length fV R.length fR Lo.length fO)) (A0 := A) (H0 := s.heap) (fun v => (xt_b (x 6) t = 0 ∧ v = x 7) ∨ (¬ xt_b (x 6) t = 0 ∧ v = ma t.toNatClampNeg)) (fun v => F0 m 46 ls (.int v :: [])) (fun v_5 H locs hv_5 hP hS => ?_) (fun J_4 => ?_)
        · have hv_5 : (xt_b (x 6) t = 0 ∧ v_5 = x 7) ∨ (¬ xt_b (x 6) t = 0 ∧ v_5 = ma t.toNatClampNeg) := hv_5
          refine lv_istore_n (lv' := [(3, .int v_5), (0, .ref (a 0)), (1, .int t), (2, .int tm)]) hx hb qd_X_mark_46 rfl hl (by decide) rfl (fun ls hl => ?_)
          refine lv_iload_n hx hb qd_X_mark_47 rfl (lv_at hl 3 rfl) ?_
          refine lv_iload_n hx hb qd_X_mark_48 rfl (lv_at hl 0 rfl) ?_
          refine lv_icmp_gt (tgt := 55) hx hb qd_X_mark_49 (by decide) (fun c_6 => ?_) (fun c_6 => ?_)
          · refine lv_aload_n hx hb qd_X_mark_55 rfl (lv_at hl 1 rfl) ?_
            refine mk_mcallv (wr := []) (wf := (fun u => (wX a cA (upd x 12 1) ru ma jo gv tk V.length fV R.length fR u.1.length u.2))) (va_runV (As := []) (rest := []) ⟨hx, hb, hml, hown, hts⟩ (c_X_begin l dC dI cA H.size a x ru ma jo gv tk V.length fV R.length fR fO Lo hO) (cwV 0 hts gc_X_72 rfl rfl rfl (by decide +kernel) ⟨Nat.le_of_ble_eq_true rfl, Nat.le_of_ble_eq_true rfl⟩) (mk_muP hP hD [0, 1, 2, 3, 4, 5, 6, 7, 8, 9, 10, 11, 12] (by decide) rfl hK (va_recv hK hP (ci := 0) (q0 := 0) rfl rfl)) rfl rfl hl.1 rfl (lv_room (Nat.le_of_ble_eq_true rfl)) qd_X_mark_56 ⟨(Nat.zero_le _), (Nat.zero_le _)⟩) hS hA hP hD [0, 1, 2, 3, 4, 5, 6, 7, 8, 9, 10, 11, 12] [] [0, 1, 2, 3, 4, 5, 6, 7, 8, 9, 10, 11, 12] rfl rfl (by decide) (by decide) (by decide) (fun _ => rfl) (fun u_8 H locs hu_8 hP hD hS => ?_)
            obtain ⟨Q1, f1⟩ := u_8
            obtain ⟨rfl, hok1⟩ : Q1 = [] ∧ sh_ok 11 f1 Q1 := hu_8
            have hO1 : sh_wf 11 192 f1 [] := ⟨hok1, by decide, by decide, by decide, by decide⟩
            have hP : va_P (dC, dI) vwCl (wX a cA (upd x 12 1) ru ma jo gv tk V.length fV R.length fR (([] : List (Nat → Int32)).length) f1) H := hP
            have hD : va_D A (wX a cA (upd x 12 1) ru ma jo gv tk V.length fV R.length fR (([] : List (Nat → Int32)).length) f1) := hD
            refine mk_after (σ := (Nat → Int32) × (Nat → Int32)) (fun y9 H locs ls => ((xt_b (x 6) t = 0 ∧ y9.1 = upd (upd x 12 1) 7 tm ∧ y9.2 = ma) ∨ (¬ xt_b (x 6) t = 0 ∧ y9.1 = upd x 12 1 ∧ y9.2 = upd ma t.toNatClampNeg tm)) ∧ va_P (dC, dI) vwCl (wX a cA y9.1 ru y9.2 jo gv tk V.length fV R.length fR (([] : List (Nat → Int32)).length) f1) H ∧ va_D A (wX a cA y9.1 ru y9.2 jo gv tk V.length fV R.length fR (([] : List (Nat → Int32)).length) f1) ∧ va_S A s.heap H locs ∧ lv_has ls 4 [(0, .ref (a 0)), (1, .int t), (2, .int tm), (3, .int v_5)]) (fun ls => F0 m 82 ls []) (fun y9 H locs ls hI => ?_) (fun J_9 => ?_)
            · obtain ⟨xx, mm⟩ := y9
              obtain ⟨hinv, hP, hD, hS, hl⟩ := hI
              have hinv : (xt_b (x 6) t = 0 ∧ xx = upd (upd x 12 1) 7 tm ∧ mm = ma) ∨ (¬ xt_b (x 6) t = 0 ∧ xx = upd x 12 1 ∧ mm = upd ma t.toNatClampNeg tm) := hinv
              have hP : va_P (dC, dI) vwCl (wX a cA xx ru mm jo gv tk V.length fV R.length fR (([] : List (Nat → Int32)).length) f1) H := hP
              have hD : va_D A (wX a cA xx ru mm jo gv tk V.length fV R.length fR (([] : List (Nat → Int32)).length) f1) := hD
              have hl : lv_has ls 4 [(0, .ref (a 0)), (1, .int t), (2, .int tm), (3, .int v_5)] := hl
              have hn3x : xx 6 = nI n3 := by rcases hinv with ⟨-, rfl, -⟩ | ⟨-, rfl, -⟩ <;> exact hn3
              refine lv_aload_n hx hb qd_X_mark_82 rfl (lv_at hl 0 rfl) ?_
              refine mk_mcallv (wr := []) (wf := (fun u => (wX a cA xx ru mm u.1 u.2.2.2 tk V.length fV u.2.1.1.length u.2.1.2 u.2.2.1.1.length u.2.2.1.2))) (va_runV (As := []) (rest := []) ⟨hx, hb, hml, hown, hts⟩ (c_X_joinRows l dC dI cA H.size a xx ru mm jo gv tk fV fR f1 V R ([]) hV hR hO1 (vs_cuts hsort) n3 hn3x h3 hky (by simp only [List.length_nil]; omega)) (cwV 0 hts gc_X_102 rfl rfl rfl (by decide +kernel) ⟨Nat.le_of_ble_eq_true rfl, Nat.le_of_ble_eq_true rfl⟩) (mk_muP hP hD [0, 1, 2, 3, 4, 5, 6, 7, 8, 9, 10, 11, 12] (by decide) rfl hK (va_recv hK hP (ci := 0) (q0 := 0) rfl rfl)) rfl rfl hl.1 rfl (lv_room (Nat.le_of_ble_eq_true rfl)) qd_X_mark_83 ⟨(Nat.zero_le _), (Nat.zero_le _)⟩) hS hA hP hD [0, 1, 2, 3, 4, 5, 6, 7, 8, 9, 10, 11, 12] [] [0, 1, 2, 3, 4, 5, 6, 7, 8, 9, 10, 11, 12] rfl rfl (by decide) (by decide) (by decide) (fun _ => rfl) (fun u_11 H locs hu_11 hP hD hS => ?_)
              obtain ⟨j3, ⟨R2, f3⟩, ⟨Q1, f4⟩, g1⟩ := u_11
              obtain ⟨rfl, hok3, rfl, hok4, rfl⟩ : R2 = R.map (jr_row V ru n3 (xt_low mm n3)) ∧ sh_ok 12 f3 R2 ∧ Q1 = [] ++ R.flatMap (jr_out V ru n3 (xt_low mm n3)) ∧ sh_ok 11 f4 Q1 ∧ g1 = gv + nI (sw_n (jr_d V ru n3 (xt_low mm n3)) R R.length) := hu_11
              have hR2 : sh_wf 12 96 f3 (R.map (jr_row V ru n3 (xt_low mm n3))) := ⟨hok3, by rw [List.length_map]; exact hlenR, by decide, by decide, by decide⟩
              have hP : va_P (dC, dI) vwCl (wX a cA xx ru mm j3 (gv + nI (sw_n (jr_d V ru n3 (xt_low mm n3)) R R.length)) tk V.length fV ((R.map (jr_row V ru n3 (xt_low mm n3))).length) f3 (([] ++ R.flatMap (jr_out V ru n3 (xt_low mm n3))).length) f4) H := hP
              have hD : va_D A (wX a cA xx ru mm j3 (gv + nI (sw_n (jr_d V ru n3 (xt_low mm n3)) R R.length)) tk V.length fV ((R.map (jr_row V ru n3 (xt_low mm n3))).length) f3 (([] ++ R.flatMap (jr_out V ru n3 (xt_low mm n3))).length) f4) := hD
              refine lv_aload_n hx hb qd_X_mark_86 rfl (lv_at hl 0 rfl) ?_
              refine lv_dup hx hb qd_X_mark_87 rfl ?_
              refine va_get (D := (dC, dI)) (ci := 0) (v := .int (xx 9)) (C := qR_X) (T := qT_X) (N := 13) hx hb hts qin_X hown hK hP 0 rfl rfl 9 (by decide) (hts _ mw_125) (fun _ h9 => h9) rfl qd_X_mark_88 ?_
              refine lv_aload_n hx hb qd_X_mark_91 rfl (lv_at hl 0 rfl) ?_
              refine va_get (D := (dC, dI)) (ci := 0) (v := .ref (a 7)) (C := qR_X) (T := qT_X) (N := 13) hx hb hts qin_X hown hK hP 0 rfl rfl 3 (by decide) (hts _ mw_119) (fun _ h9 => h9) rfl qd_X_mark_92 ?_
              refine lv_aload_n hx hb qd_X_mark_95 rfl (lv_at hl 0 rfl) ?_
              refine mk_calli (va_runV (As := []) (rest := [.ref (a 7), .int (xx 9), .ref (a 0)]) ⟨hx, hb, hml, hown, hts⟩ (c_X_horizon l dC dI cA H.size a xx ru mm j3 (gv + nI (sw_n (jr_d V ru n3 (xt_low mm n3)) R R.length)) tk V.length fV ((R.map (jr_row V ru n3 (xt_low mm n3))).length) f3 (([] ++ R.flatMap (jr_out V ru n3 (xt_low mm n3))).length) f4) (cwV 0 hts gc_X_109 rfl rfl rfl (by decide +kernel) ⟨Nat.le_of_ble_eq_true rfl, Nat.le_of_ble_eq_true rfl⟩) (mk_roV hP [0, 1, 2, 3, 4, 5, 6, 7, 8, 9, 10, 11, 12] rfl hK (va_recv hK hP (ci := 0) (q0 := 0) rfl rfl)) rfl rfl hl.1 rfl (lv_room (Nat.le_of_ble_eq_true rfl)) qd_X_mark_96 ⟨(Nat.zero_le _), (Nat.zero_le _)⟩) hS hA hP (fun r_12 H locs hr_12 hP hS => ?_)
              obtain rfl : r_12 = (xx 7 - ru 3) := hr_12
              refine mk_mcalli (wr := [((a 0), .inr (0, [.ref (a 1), .ref (a 2), .ref (a 4), .ref (a 7), .ref (a 10), .ref (a 3), .int (xx 6), .int (xx 7), .int (xx 8), .int (xx 9), .int (xx 10), .int (xx 11), .int (xx 12)])), ((a 1), .inl (cA, 4, .inl ru)), ((a 2), .inl (cA, 3, .inl mm)), ((a 3), .inl (cA, 6, .inl j3)), ((a 4), .inr (5, [.ref (a 5)])), ((a 5), .inr (4, [.int (nI 3), .int (nI 160), .ref (a 6), .int (nI V.length)])), ((a 6), .inl (cA, (3 * 160), .inl fV)), ((a 10), .inr (2, [.ref (a 11), .int (gv + nI (sw_n (jr_d V ru n3 (xt_low mm n3)) R R.length)), .int tk])), ((a 11), .inr (4, [.int (nI 11), .int (nI 192), .ref (a 12), .int (nI (([] ++ R.flatMap (jr_out V ru n3 (xt_low mm n3))).length))])), ((a 12), .inl (cA, (11 * 192), .inl f4))]) (wf := (fun u => (wX a cA xx ru mm j3 (gv + nI (sw_n (jr_d V ru n3 (xt_low mm n3)) R R.length)) tk V.length fV u.1.length u.2 (([] ++ R.flatMap (jr_out V ru n3 (xt_low mm n3))).length) f4))) (va_runV (As := [.int (xx 7 - ru 3)]) (rest := [.int (xx 9), .ref (a 0)]) ⟨hx, hb, hml, hown, hts⟩ (c_R_dropJoined l dC dI cA H.size (a 7) (a 8) (a 9) f3 (R.map (jr_row V ru n3 (xt_low mm n3))) hR2 (xx 7 - ru 3)) (cwV 1 hts gc_X_112 rfl rfl rfl (by decide +kernel) ⟨Nat.le_of_ble_eq_true rfl, Nat.le_of_ble_eq_true rfl⟩) (mk_muP hP hD [7, 8, 9] (by decide) rfl hK (va_recv hK hP (ci := 3) (q0 := 7) rfl rfl)) rfl rfl hl.1 rfl (lv_room (Nat.le_of_ble_eq_true rfl)) qd_X_mark_99 ⟨(Nat.zero_le _), (Nat.zero_le _)⟩) hS hA hP hD [7, 8, 9] [0, 1, 2, 3, 4, 5, 6, 10, 11, 12] [0, 1, 2, 3, 4, 5, 6, 10, 11, 12, 7, 8, 9] rfl rfl (by decide) (by decide) (by decide) (fun _ => rfl) (fun r_13 u_14 H locs hr_13 hP hD hS => ?_)
              obtain ⟨R9, f5⟩ := u_14
              obtain ⟨rfl, rfl, hok5⟩ : r_13 = nI ((R.map (jr_row V ru n3 (xt_low mm n3))).length - R9.length) ∧ R9 = (R.map (jr_row V ru n3 (xt_low mm n3))).filter (rs_keep (xx 7 - ru 3)) ∧ sh_ok 12 f5 R9 := hr_13
              have hlf := List.length_filter_le (rs_keep (xx 7 - ru 3)) (R.map (jr_row V ru n3 (xt_low mm n3)))
              have hR3 : sh_wf 12 96 f5 ((R.map (jr_row V ru n3 (xt_low mm n3))).filter (rs_keep (xx 7 - ru 3))) := ⟨hok5, by rw [List.length_map] at hlf; omega, by decide, by decide, by decide⟩
              have hP : va_P (dC, dI) vwCl (wX a cA xx ru mm j3 (gv + nI (sw_n (jr_d V ru n3 (xt_low mm n3)) R R.length)) tk V.length fV (((R.map (jr_row V ru n3 (xt_low mm n3))).filter (rs_keep (xx 7 - ru 3))).length) f5 (([] ++ R.flatMap (jr_out V ru n3 (xt_low mm n3))).length) f4) H := hP
              have hD : va_D A (wX a cA xx ru mm j3 (gv + nI (sw_n (jr_d V ru n3 (xt_low mm n3)) R R.length)) tk V.length fV (((R.map (jr_row V ru n3 (xt_low mm n3))).filter (rs_keep (xx 7 - ru 3))).length) f5 (([] ++ R.flatMap (jr_out V ru n3 (xt_low mm n3))).length) f4) := hD
              refine lv_iadd hx hb qd_X_mark_102 ?_
              refine va_put (D := (dC, dI)) (ci := 0) (v := .int ((xx 9) + (nI ((R.map (jr_row V ru n3 (xt_low mm n3))).length - ((R.map (jr_row V ru n3 (xt_low mm n3))).filter (rs_keep (xx 7 - ru 3))).length)))) (ty := .int) (C := qR_X) (T := qT_X) (N := 13) hx hb hts qin_X qty_X qtyok_X qnm_X hown hK hP hD hS 0 rfl rfl 9 (by decide) (hts _ mw_125) (fun _ h9 => h9) rfl (by decide +kernel) rfl rfl (Nat.le_of_ble_eq_true rfl) qd_X_mark_103 (fun H locs hP hD hS => ?_)
              have hP : va_P (dC, dI) vwCl (wX a cA (upd xx 9 ((xx 9) + (nI ((R.map (jr_row V ru n3 (xt_low mm n3))).length - ((R.map (jr_row V ru n3 (xt_low mm n3))).filter (rs_keep (xx 7 - ru 3))).length)))) ru mm j3 (gv + nI (sw_n (jr_d V ru n3 (xt_low mm n3)) R R.length)) tk V.length fV (((R.map (jr_row V ru n3 (xt_low mm n3))).filter (rs_keep (xx 7 - ru 3))).length) f5 (([] ++ R.flatMap (jr_out V ru n3 (xt_low mm n3))).length) f4) H := hP
              have hD : va_D A (wX a cA (upd xx 9 ((xx 9) + (nI ((R.map (jr_row V ru n3 (xt_low mm n3))).length - ((R.map (jr_row V ru n3 (xt_low mm n3))).filter (rs_keep (xx 7 - ru 3))).length)))) ru mm j3 (gv + nI (sw_n (jr_d V ru n3 (xt_low mm n3)) R R.length)) tk V.length fV (((R.map (jr_row V ru n3 (xt_low mm n3))).filter (rs_keep (xx 7 - ru 3))).length) f5 (([] ++ R.flatMap (jr_out V ru n3 (xt_low mm n3))).length) f4) := hD
              refine lv_aload_n hx hb qd_X_mark_106 rfl (lv_at hl 0 rfl) ?_
              refine mk_mcallv (wr := []) (wf := (fun u => (wX a cA (upd (upd xx 9 ((xx 9) + (nI ((R.map (jr_row V ru n3 (xt_low mm n3))).length - ((R.map (jr_row V ru n3 (xt_low mm n3))).filter (rs_keep (xx 7 - ru 3))).length)))) 10 (xx 10 + nI (V.length - u.1.length))) ru mm j3 (gv + nI (sw_n (jr_d V ru n3 (xt_low mm n3)) R R.length)) tk u.1.length u.2 (((R.map (jr_row V ru n3 (xt_low mm n3))).filter (rs_keep (xx 7 - ru 3))).length) f5 (([] ++ R.flatMap (jr_out V ru n3 (xt_low mm n3))).length) f4))) (va_runV (As := []) (rest := []) ⟨hx, hb, hml, hown, hts⟩ (c_X_dropVersions l dC dI cA H.size a (upd xx 9 ((xx 9) + (nI ((R.map (jr_row V ru n3 (xt_low mm n3))).length - ((R.map (jr_row V ru n3 (xt_low mm n3))).filter (rs_keep (xx 7 - ru 3))).length)))) ru mm j3 (gv + nI (sw_n (jr_d V ru n3 (xt_low mm n3)) R R.length)) tk fV f5 (([] ++ R.flatMap (jr_out V ru n3 (xt_low mm n3))).length) f4 V ((R.map (jr_row V ru n3 (xt_low mm n3))).filter (rs_keep (xx 7 - ru 3))) hV hR3 hpl) (cwV 0 hts gc_X_115 rfl rfl rfl (by decide +kernel) ⟨Nat.le_of_ble_eq_true rfl, Nat.le_of_ble_eq_true rfl⟩) (mk_muP hP hD [0, 1, 2, 3, 4, 5, 6, 7, 8, 9, 10, 11, 12] (by decide) rfl hK (va_recv hK hP (ci := 0) (q0 := 0) rfl rfl)) rfl rfl hl.1 rfl (lv_room (Nat.le_of_ble_eq_true rfl)) qd_X_mark_107 ⟨(Nat.zero_le _), (Nat.zero_le _)⟩) hS hA hP hD [0, 1, 2, 3, 4, 5, 6, 7, 8, 9, 10, 11, 12] [] [0, 1, 2, 3, 4, 5, 6, 7, 8, 9, 10, 11, 12] rfl rfl (by decide) (by decide) (by decide) (fun _ => rfl) (fun u_16 H locs hu_16 hP hD hS => ?_)
              obtain ⟨V9, f6⟩ := u_16
              obtain ⟨rfl, hok6⟩ : V9 = dv (nd_b (ru 0) (xx 7 - ru 3) ((R.map (jr_row V ru n3 (xt_low mm n3))).filter (rs_keep (xx 7 - ru 3)))) V ∧ sh_ok 3 f6 V9 := hu_16
              have hld := dv_len (nd_b (ru 0) (xx 7 - ru 3) ((R.map (jr_row V ru n3 (xt_low mm n3))).filter (rs_keep (xx 7 - ru 3)))) V
              have hP : va_P (dC, dI) vwCl (wX a cA (upd (upd xx 9 ((xx 9) + (nI ((R.map (jr_row V ru n3 (xt_low mm n3))).length - ((R.map (jr_row V ru n3 (xt_low mm n3))).filter (rs_keep (xx 7 - ru 3))).length)))) 10 (xx 10 + nI (V.length - (dv (nd_b (ru 0) (xx 7 - ru 3) ((R.map (jr_row V ru n3 (xt_low mm n3))).filter (rs_keep (xx 7 - ru 3)))) V).length))) ru mm j3 (gv + nI (sw_n (jr_d V ru n3 (xt_low mm n3)) R R.length)) tk ((dv (nd_b (ru 0) (xx 7 - ru 3) ((R.map (jr_row V ru n3 (xt_low mm n3))).filter (rs_keep (xx 7 - ru 3)))) V).length) f6 (((R.map (jr_row V ru n3 (xt_low mm n3))).filter (rs_keep (xx 7 - ru 3))).length) f5 (([] ++ R.flatMap (jr_out V ru n3 (xt_low mm n3))).length) f4) H := hP
              have hD : va_D A (wX a cA (upd (upd xx 9 ((xx 9) + (nI ((R.map (jr_row V ru n3 (xt_low mm n3))).length - ((R.map (jr_row V ru n3 (xt_low mm n3))).filter (rs_keep (xx 7 - ru 3))).length)))) 10 (xx 10 + nI (V.length - (dv (nd_b (ru 0) (xx 7 - ru 3) ((R.map (jr_row V ru n3 (xt_low mm n3))).filter (rs_keep (xx 7 - ru 3)))) V).length))) ru mm j3 (gv + nI (sw_n (jr_d V ru n3 (xt_low mm n3)) R R.length)) tk ((dv (nd_b (ru 0) (xx 7 - ru 3) ((R.map (jr_row V ru n3 (xt_low mm n3))).filter (rs_keep (xx 7 - ru 3)))) V).length) f6 (((R.map (jr_row V ru n3 (xt_low mm n3))).filter (rs_keep (xx 7 - ru 3))).length) f5 (([] ++ R.flatMap (jr_out V ru n3 (xt_low mm n3))).length) f4) := hD
              refine lv_iload_n hx hb qd_X_mark_110 rfl (lv_at hl 3 rfl) ?_
              have hxm : (xt_b (x 6) t = 0 ∧ v_5 = x 7 ∧ xx = upd (upd x 12 1) 7 tm ∧ mm = ma) ∨ (¬ xt_b (x 6) t = 0 ∧ v_5 = ma t.toNatClampNeg ∧ xx = upd x 12 1 ∧ mm = upd ma t.toNatClampNeg tm) := by
                rcases hv_5 with ⟨q1, q2⟩ | ⟨q1, q2⟩
                · rcases hinv with ⟨p1, p2, p3⟩ | ⟨p1, p2, p3⟩
                  · exact Or.inl ⟨q1, q2, p2, p3⟩
                  · exact absurd q1 p1
                · rcases hinv with ⟨p1, p2, p3⟩ | ⟨p1, p2, p3⟩
                  · exact absurd p1 q1
                  · exact Or.inr ⟨q1, q2, p2, p3⟩
              exact mk_miret ((upd (upd xx 9 ((xx 9) + (nI ((R.map (jr_row V ru n3 (xt_low mm n3))).length - ((R.map (jr_row V ru n3 (xt_low mm n3))).filter (rs_keep (xx 7 - ru 3))).length)))) 10 (xx 10 + nI (V.length - (dv (nd_b (ru 0) (xx 7 - ru 3) ((R.map (jr_row V ru n3 (xt_low mm n3))).filter (rs_keep (xx 7 - ru 3)))) V).length))), mm, j3, (gv + nI (sw_n (jr_d V ru n3 (xt_low mm n3)) R R.length)), (dv (nd_b (ru 0) (xx 7 - ru 3) ((R.map (jr_row V ru n3 (xt_low mm n3))).filter (rs_keep (xx 7 - ru 3)))) V, f6), (((R.map (jr_row V ru n3 (xt_low mm n3))).filter (rs_keep (xx 7 - ru 3))), f5), ([] ++ R.flatMap (jr_out V ru n3 (xt_low mm n3)), f4)) hx hb hr hlocks hP hK hD hS qd_X_mark_111 ⟨Or.inr ⟨hin0, c_2, sh_nlt c_3, xx, mm, v_5, hxm, Or.inr ⟨c_6, rfl, rfl, R.map (jr_row V ru n3 (xt_low mm n3)), rfl, rfl, rfl, rfl, rfl, rfl⟩⟩, ⟨hok6, Nat.le_trans hld hlenV, by decide, by decide, by decide⟩, hR3, ⟨hok4, by have := jr_flen V ru n3 (xt_low mm n3) R; simp only [List.nil_append]; omega, by decide, by decide, by decide⟩, dv_sorted hsort, dv_pl hpl, vs_all_filter (vs_all_map hky jr_ky), hn3x, h3⟩
            · refine lv_aload_n hx hb qd_X_mark_59 rfl (lv_at hl 1 rfl) ?_
              refine lv_iload_n hx hb qd_X_mark_60 rfl (lv_at hl 2 rfl) ?_
              refine mk_calli (va_runV (As := [.int t]) (rest := []) ⟨hx, hb, hml, hown, hts⟩ (c_X_isTable l dC dI cA H.size a (upd x 12 1) ru ma jo gv tk V.length fV R.length fR (([] : List (Nat → Int32)).length) f1 t) (cwV 1 hts gc_X_48 rfl rfl rfl (by decide +kernel) ⟨Nat.le_of_ble_eq_true rfl, Nat.le_of_ble_eq_true rfl⟩) (mk_roV hP [0, 1, 2, 3, 4, 5, 6, 7, 8, 9, 10, 11, 12] rfl hK (va_recv hK hP (ci := 0) (q0 := 0) rfl rfl)) rfl rfl hl.1 rfl (lv_room (Nat.le_of_ble_eq_true rfl)) qd_X_mark_61 ⟨(Nat.zero_le _), (Nat.zero_le _)⟩) hS hA hP (fun r_17 H locs hr_17 hP hS => ?_)
              obtain rfl : r_17 = xt_b (x 6) t := hr_17
              refine lv_if_eq (tgt := 77) hx hb qd_X_mark_64 (by decide) (fun c_18 => ?_) (fun c_18 => ?_)
              · refine lv_aload_n hx hb qd_X_mark_77 rfl (lv_at hl 1 rfl) ?_
                refine lv_iload_n hx hb qd_X_mark_78 rfl (lv_at hl 3 rfl) ?_
                refine va_put (D := (dC, dI)) (ci := 0) (v := .int tm) (ty := .int) (C := qR_X) (T := qT_X) (N := 13) hx hb hts qin_X qty_X qtyok_X qnm_X hown hK hP hD hS 0 rfl rfl 7 (by decide) (hts _ mw_123) (fun _ h9 => h9) rfl (by decide +kernel) rfl rfl (Nat.le_of_ble_eq_true rfl) qd_X_mark_79 (fun H locs hP hD hS => ?_)
                have hP : va_P (dC, dI) vwCl (wX a cA (upd (upd x 12 1) 7 tm) ru ma jo gv tk V.length fV R.length fR (([] : List (Nat → Int32)).length) f1) H := hP
                have hD : va_D A (wX a cA (upd (upd x 12 1) 7 tm) ru ma jo gv tk V.length fV R.length fR (([] : List (Nat → Int32)).length) f1) := hD
                exact J_9 ((upd (upd x 12 1) 7 tm), ma) H locs ls ⟨Or.inl ⟨c_18, rfl, rfl⟩, hP, hD, hS, lv_sub hl [1, 2, 3, 0] rfl⟩
              · refine lv_aload_n hx hb qd_X_mark_67 rfl (lv_at hl 1 rfl) ?_
                refine va_get (D := (dC, dI)) (ci := 0) (v := .ref (a 2)) (C := qR_X) (T := qT_X) (N := 13) hx hb hts qin_X hown hK hP 0 rfl rfl 1 (by decide) (hts _ mw_117) (fun _ h9 => h9) rfl qd_X_mark_68 ?_
                refine lv_iload_n hx hb qd_X_mark_71 rfl (lv_at hl 2 rfl) ?_
                refine lv_iload_n hx hb qd_X_mark_72 rfl (lv_at hl 3 rfl) ?_
                refine va_iast (i := t) (x := tm) hx hb hK hP hD hS 2 0 rfl rfl (xt_in c_18) qd_X_mark_73 (fun H locs hP hD hS => ?_)
                rw [show Int32.toNatClampNeg t = t.toNatClampNeg from rfl] at hP hD
                have hP : va_P (dC, dI) vwCl (wX a cA (upd x 12 1) ru (upd ma t.toNatClampNeg tm) jo gv tk V.length fV R.length fR (([] : List (Nat → Int32)).length) f1) H := hP
                have hD : va_D A (wX a cA (upd x 12 1) ru (upd ma t.toNatClampNeg tm) jo gv tk V.length fV R.length fR (([] : List (Nat → Int32)).length) f1) := hD
                refine lv_goto (tgt := 82) hx hb qd_X_mark_74 (by decide) ?_
                exact J_9 ((upd x 12 1), (upd ma t.toNatClampNeg tm)) H locs ls ⟨Or.inr ⟨c_18, rfl, rfl⟩, hP, hD, hS, lv_sub hl [1, 2, 3, 0] rfl⟩
          · refine lv_bipush (v := (-2)) hx hb qd_X_mark_52 (by decide) ?_
            rcases hv_5 with ⟨q1, q2⟩ | ⟨q1, q2⟩
            · exact mk_miret (x, ma, jo, gv, (V, fV), (R, fR), (Lo, fO)) hx hb hr hlocks hP hK hD hS qd_X_mark_54 ⟨Or.inr ⟨hin0, c_2, sh_nlt c_3, upd (upd x 12 1) 7 tm, ma, v_5, Or.inl ⟨q1, q2, rfl, rfl⟩, Or.inl ⟨c_6, rfl, rfl, rfl, rfl, rfl, rfl, rfl⟩⟩, hi⟩
            · exact mk_miret (x, ma, jo, gv, (V, fV), (R, fR), (Lo, fO)) hx hb hr hlocks hP hK hD hS qd_X_mark_54 ⟨Or.inr ⟨hin0, c_2, sh_nlt c_3, upd x 12 1, upd ma t.toNatClampNeg tm, v_5, Or.inr ⟨q1, q2, rfl, rfl⟩, Or.inl ⟨c_6, rfl, rfl, rfl, rfl, rfl, rfl, rfl⟩⟩, hi⟩
        · refine lv_aload_n hx hb qd_X_mark_25 rfl (lv_at hl 0 rfl) ?_
          refine lv_iload_n hx hb qd_X_mark_26 rfl (lv_at hl 1 rfl) ?_
          refine mk_calli (va_runV (As := [.int t]) (rest := []) ⟨hx, hb, hml, hown, hts⟩ (c_X_isTable l dC dI cA H.size a x ru ma jo gv tk V.length fV R.length fR Lo.length fO t) (cwV 1 hts gc_X_48 rfl rfl rfl (by decide +kernel) ⟨Nat.le_of_ble_eq_true rfl, Nat.le_of_ble_eq_true rfl⟩) (mk_roV hP [0, 1, 2, 3, 4, 5, 6, 7, 8, 9, 10, 11, 12] rfl hK (va_recv hK hP (ci := 0) (q0 := 0) rfl rfl)) rfl rfl hl.1 rfl (lv_room (Nat.le_of_ble_eq_true rfl)) qd_X_mark_27 ⟨(Nat.zero_le _), (Nat.zero_le _)⟩) hS hA hP (fun r_19 H locs hr_19 hP hS => ?_)
          obtain rfl : r_19 = xt_b (x 6) t := hr_19
          refine lv_if_eq (tgt := 42) hx hb qd_X_mark_30 (by decide) (fun c_20 => ?_) (fun c_20 => ?_)
          · refine lv_aload_n hx hb qd_X_mark_42 rfl (lv_at hl 0 rfl) ?_
            refine va_get (D := (dC, dI)) (ci := 0) (v := .int (x 7)) (C := qR_X) (T := qT_X) (N := 13) hx hb hts qin_X hown hK hP 0 rfl rfl 7 (by decide) (hts _ mw_123) (fun _ h9 => h9) rfl qd_X_mark_43 ?_
            exact J_4 _ H locs (Or.inl ⟨c_20, rfl⟩) hP hS
          · refine lv_aload_n hx hb qd_X_mark_33 rfl (lv_at hl 0 rfl) ?_
            refine va_get (D := (dC, dI)) (ci := 0) (v := .ref (a 2)) (C := qR_X) (T := qT_X) (N := 13) hx hb hts qin_X hown hK hP 0 rfl rfl 1 (by decide) (hts _ mw_117) (fun _ h9 => h9) rfl qd_X_mark_34 ?_
            refine lv_iload_n hx hb qd_X_mark_37 rfl (lv_at hl 1 rfl) ?_
            refine va_iald (i := t) hx hb hK hP 2 0 rfl rfl (xt_in c_20) qd_X_mark_38 ?_
            refine mk_rw (y := ma t.toNatClampNeg) (rfl) ?_
            refine lv_goto (tgt := 46) hx hb qd_X_mark_39 (by decide) ?_
            exact J_4 _ H locs (Or.inr ⟨c_20, rfl⟩) hP hS
      · refine lv_iconst (v := (-1)) hx hb qd_X_mark_23 (by decide) ?_
        exact mk_miret (x, ma, jo, gv, (V, fV), (R, fR), (Lo, fO)) hx hb hr hlocks hP hK hD hS qd_X_mark_24 ⟨Or.inl ⟨Or.inr (Or.inr (sh_lt_of c_3)), rfl, rfl, rfl, rfl, rfl, rfl, rfl⟩, hi⟩
  · refine lv_iload_n hx hb qd_X_mark_0 rfl (lv_at hl 1 rfl) ?_
    refine lv_iconst (v := (-1)) hx hb qd_X_mark_1 (by decide) ?_
    refine lv_icmp_eq (tgt := 13) hx hb qd_X_mark_2 (by decide) (fun c_21 => ?_) (fun c_21 => ?_)
    · exact J_1 () H locs ls ⟨Or.inl c_21, hP, hD, hS, lv_sub hl [0, 1, 2] rfl⟩
    · refine lv_aload_n hx hb qd_X_mark_5 rfl (lv_at hl 0 rfl) ?_
      refine lv_iload_n hx hb qd_X_mark_6 rfl (lv_at hl 1 rfl) ?_
      refine mk_calli (va_runV (As := [.int t]) (rest := []) ⟨hx, hb, hml, hown, hts⟩ (c_X_isTable l dC dI cA H.size a x ru ma jo gv tk V.length fV R.length fR Lo.length fO t) (cwV 1 hts gc_X_48 rfl rfl rfl (by decide +kernel) ⟨Nat.le_of_ble_eq_true rfl, Nat.le_of_ble_eq_true rfl⟩) (mk_roV hP [0, 1, 2, 3, 4, 5, 6, 7, 8, 9, 10, 11, 12] rfl hK (va_recv hK hP (ci := 0) (q0 := 0) rfl rfl)) rfl rfl hl.1 rfl (lv_room (Nat.le_of_ble_eq_true rfl)) qd_X_mark_7 ⟨(Nat.zero_le _), (Nat.zero_le _)⟩) hS hA hP (fun r_22 H locs hr_22 hP hS => ?_)
      obtain rfl : r_22 = xt_b (x 6) t := hr_22
      refine lv_if_eq (tgt := 23) hx hb qd_X_mark_10 (by decide) (fun c_23 => ?_) (fun c_23 => ?_)
      · refine lv_iconst (v := (-1)) hx hb qd_X_mark_23 (by decide) ?_
        exact mk_miret (x, ma, jo, gv, (V, fV), (R, fR), (Lo, fO)) hx hb hr hlocks hP hK hD hS qd_X_mark_24 ⟨Or.inl ⟨Or.inl ⟨c_21, c_23⟩, rfl, rfl, rfl, rfl, rfl, rfl, rfl⟩, hi⟩
      · exact J_1 () H locs ls ⟨Or.inr c_23, hP, hD, hS, lv_sub hl [0, 1, 2] rfl⟩
end
