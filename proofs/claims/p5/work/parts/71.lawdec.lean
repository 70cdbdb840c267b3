def R_law : String := "AsOfJoinsLaw"
def lw_P (b : Addr) (xs : List Int32) (args : Array Value) (s : State) : Prop := args = #[.ref b] ∧ s.IntsAt b xs ∧ xs.length ≤ 2560 ∧ (Jvm.Cond.and given_1 narrow_1).before args s = true
def lw_Q (_ : Array Value) (s : State) (o : Outcome) (t : State) : Prop := o = .returned (some (.int 1)) ∧ Framed s o t [] 600000 7302250
def lw_Z (below : List Frame) (a : Array Value) (s : State) : State → Prop := fun t => ∃ o, t.status = .running ∧ Ended t below o ∧ lw_Q a s o t
/-- the law's own end, with 1 on the stack, nothing written that was there before, its room as the claim has it -/
theorem lw_ret {p : Program} {l : Launch} {e : Env} {s : State} {m : MethodId} {below : List Frame} {meth : Method} {c : Code} {b : Nat} (hx : p.tables.exec = Jvm.exec) (hb : c.code = code) (hr : meth.sig.returnType = ret) (hlocks : meth.locks = false) {pc : Nat} {H : Heap} {ls : Array Slot} (hdg : decode code pc = .ok (.ireturn, 1)) : W p l e room_1 s m #[Value.ref b] below meth c H [] 600000 7302250 (lw_Z below #[Value.ref b] s) (F0 m pc ls [.int 1]) := by
  intro T hT X
  obtain ⟨fs, hret, hrun, hended, hW, hframe⟩ := X.leave (v := some (.int 1)) (hlocks := hlocks) (fun h => by rw [hr] at h; cases h)
  have hmeth' : T.vm.method? m = some meth := X.method'
  refine ⟨T.setFrames fs, ?_, .returned (some (.int 1)), hrun, hended, rfl, ⟨_, rfl⟩, hW, hframe⟩
  jvm_step X.here [X.here.top, hx, hb, hdg, hmeth', hr, ret, narrow_b1]
  (try refine ⟨rfl, ?_⟩); (try refine ⟨rfl, ?_⟩)
  first | (intro acts; rw [hret _ acts rfl rfl rfl]) | rw [hret _ _ rfl rfl rfl]
  exact Steps.refl _
/-- what holds at the law's entry: the machine, the code, the tables' words (any of lw_tbl by 'hts w (by decide +kernel)'), the script of L ints xs at the cell b, what the Statement gives of the start (any of its parts by flat_of_before) -/
def lw_At (p : Program) (s : State) (m : MethodId) (meth : Method) (c : Code) (b L : Nat) (xs : Nat → Int32) : Prop :=
  p.tables.exec = Jvm.exec ∧ c.code = code ∧ meth.sig.returnType = ret ∧ c.maxLocals = 4 ∧ s.vm.findClass R_law = some m.cls ∧ (∀ w ∈ lw_tbl, w.before #[Value.ref b] s = true) ∧ va_X b L xs s s.heap ∧ b < s.heap.size ∧ meth.locks = false ∧ (Jvm.Cond.and given_1 narrow_1).before #[Value.ref b] s = true
theorem qd_L_law_0 : decode code 0 = .ok (.new 7, 3) := by decide +kernel
theorem qd_L_law_3 : decode code 3 = .ok (.dup, 1) := by decide +kernel
theorem qd_L_law_4 : decode code 4 = .ok (.invokespecial 9, 3) := by decide +kernel
theorem qd_L_law_7 : decode code 7 = .ok (.astore_n 1, 1) := by decide +kernel
theorem qd_L_law_8 : decode code 8 = .ok (.new 10, 3) := by decide +kernel
theorem qd_L_law_11 : decode code 11 = .ok (.dup, 1) := by decide +kernel
theorem qd_L_law_12 : decode code 12 = .ok (.invokespecial 12, 3) := by decide +kernel
theorem qd_L_law_15 : decode code 15 = .ok (.astore_n 2, 1) := by decide +kernel
theorem qd_L_law_16 : decode code 16 = .ok (.iconst 0, 1) := by decide +kernel
theorem qd_L_law_17 : decode code 17 = .ok (.istore_n 3, 1) := by decide +kernel
theorem qd_L_law_18 : decode code 18 = .ok (.iload_n 3, 1) := by decide +kernel
theorem qd_L_law_19 : decode code 19 = .ok (.aload_n 0, 1) := by decide +kernel
theorem qd_L_law_20 : decode code 20 = .ok (.arraylength, 1) := by decide +kernel
theorem qd_L_law_21 : decode code 21 = .ok (.iconst 5, 1) := by decide +kernel
theorem qd_L_law_22 : decode code 22 = .ok (.isub, 1) := by decide +kernel
theorem qd_L_law_23 : decode code 23 = .ok (.if_icmp .gt 431, 3) := by decide +kernel
theorem qd_L_law_26 : decode code 26 = .ok (.aload_n 0, 1) := by decide +kernel
theorem qd_L_law_27 : decode code 27 = .ok (.iload_n 3, 1) := by decide +kernel
theorem qd_L_law_28 : decode code 28 = .ok (.iaload, 1) := by decide +kernel
theorem qd_L_law_29 : decode code 29 = .ok (.bipush 15, 2) := by decide +kernel
theorem qd_L_law_31 : decode code 31 = .ok (.iand, 1) := by decide +kernel
theorem qd_L_law_32 : decode code 32 = .ok (.tableswitch 416 0 9 #[56, 69, 102, 155, 198, 231, 264, 307, 360, 393], 56) := by decide +kernel
theorem qd_L_law_88 : decode code 88 = .ok (.aload_n 1, 1) := by decide +kernel
theorem qd_L_law_89 : decode code 89 = .ok (.invokevirtual 13, 3) := by decide +kernel
theorem qd_L_law_92 : decode code 92 = .ok (.pop, 1) := by decide +kernel
theorem qd_L_law_93 : decode code 93 = .ok (.aload_n 2, 1) := by decide +kernel
theorem qd_L_law_94 : decode code 94 = .ok (.invokevirtual 17, 3) := by decide +kernel
theorem qd_L_law_97 : decode code 97 = .ok (.pop, 1) := by decide +kernel
theorem qd_L_law_98 : decode code 98 = .ok (.goto (350), 3) := by decide +kernel
theorem qd_L_law_101 : decode code 101 = .ok (.aload_n 1, 1) := by decide +kernel
theorem qd_L_law_102 : decode code 102 = .ok (.aload_n 0, 1) := by decide +kernel
theorem qd_L_law_103 : decode code 103 = .ok (.iload_n 3, 1) := by decide +kernel
theorem qd_L_law_104 : decode code 104 = .ok (.iconst 1, 1) := by decide +kernel
theorem qd_L_law_105 : decode code 105 = .ok (.iadd, 1) := by decide +kernel
theorem qd_L_law_106 : decode code 106 = .ok (.iaload, 1) := by decide +kernel
theorem qd_L_law_107 : decode code 107 = .ok (.aload_n 0, 1) := by decide +kernel
theorem qd_L_law_108 : decode code 108 = .ok (.iload_n 3, 1) := by decide +kernel
theorem qd_L_law_109 : decode code 109 = .ok (.iconst 2, 1) := by decide +kernel
theorem qd_L_law_110 : decode code 110 = .ok (.iadd, 1) := by decide +kernel
theorem qd_L_law_111 : decode code 111 = .ok (.iaload, 1) := by decide +kernel
theorem qd_L_law_112 : decode code 112 = .ok (.invokevirtual 18, 3) := by decide +kernel
theorem qd_L_law_115 : decode code 115 = .ok (.pop, 1) := by decide +kernel
theorem qd_L_law_116 : decode code 116 = .ok (.aload_n 2, 1) := by decide +kernel
theorem qd_L_law_117 : decode code 117 = .ok (.aload_n 0, 1) := by decide +kernel
theorem qd_L_law_118 : decode code 118 = .ok (.iload_n 3, 1) := by decide +kernel
theorem qd_L_law_119 : decode code 119 = .ok (.iconst 1, 1) := by decide +kernel
theorem qd_L_law_120 : decode code 120 = .ok (.iadd, 1) := by decide +kernel
theorem qd_L_law_121 : decode code 121 = .ok (.iaload, 1) := by decide +kernel
theorem qd_L_law_122 : decode code 122 = .ok (.aload_n 0, 1) := by decide +kernel
theorem qd_L_law_123 : decode code 123 = .ok (.iload_n 3, 1) := by decide +kernel
theorem qd_L_law_124 : decode code 124 = .ok (.iconst 2, 1) := by decide +kernel
theorem qd_L_law_125 : decode code 125 = .ok (.iadd, 1) := by decide +kernel
theorem qd_L_law_126 : decode code 126 = .ok (.iaload, 1) := by decide +kernel
theorem qd_L_law_127 : decode code 127 = .ok (.invokevirtual 22, 3) := by decide +kernel
theorem qd_L_law_130 : decode code 130 = .ok (.pop, 1) := by decide +kernel
theorem qd_L_law_131 : decode code 131 = .ok (.goto (317), 3) := by decide +kernel
theorem qd_L_law_134 : decode code 134 = .ok (.aload_n 1, 1) := by decide +kernel
theorem qd_L_law_135 : decode code 135 = .ok (.aload_n 0, 1) := by decide +kernel
theorem qd_L_law_136 : decode code 136 = .ok (.iload_n 3, 1) := by decide +kernel
theorem qd_L_law_137 : decode code 137 = .ok (.iconst 1, 1) := by decide +kernel
theorem qd_L_law_138 : decode code 138 = .ok (.iadd, 1) := by decide +kernel
theorem qd_L_law_139 : decode code 139 = .ok (.iaload, 1) := by decide +kernel
theorem qd_L_law_140 : decode code 140 = .ok (.aload_n 0, 1) := by decide +kernel
theorem qd_L_law_141 : decode code 141 = .ok (.iload_n 3, 1) := by decide +kernel
theorem qd_L_law_142 : decode code 142 = .ok (.iconst 2, 1) := by decide +kernel
theorem qd_L_law_143 : decode code 143 = .ok (.iadd, 1) := by decide +kernel
theorem qd_L_law_144 : decode code 144 = .ok (.iaload, 1) := by decide +kernel
theorem qd_L_law_145 : decode code 145 = .ok (.aload_n 0, 1) := by decide +kernel
theorem qd_L_law_146 : decode code 146 = .ok (.iload_n 3, 1) := by decide +kernel
theorem qd_L_law_147 : decode code 147 = .ok (.iconst 3, 1) := by decide +kernel
theorem qd_L_law_148 : decode code 148 = .ok (.iadd, 1) := by decide +kernel
theorem qd_L_law_149 : decode code 149 = .ok (.iaload, 1) := by decide +kernel
theorem qd_L_law_150 : decode code 150 = .ok (.aload_n 0, 1) := by decide +kernel
theorem qd_L_law_151 : decode code 151 = .ok (.iload_n 3, 1) := by decide +kernel
theorem qd_L_law_152 : decode code 152 = .ok (.iconst 4, 1) := by decide +kernel
theorem qd_L_law_153 : decode code 153 = .ok (.iadd, 1) := by decide +kernel
theorem qd_L_law_154 : decode code 154 = .ok (.iaload, 1) := by decide +kernel
theorem qd_L_law_155 : decode code 155 = .ok (.invokevirtual 23, 3) := by decide +kernel
theorem qd_L_law_158 : decode code 158 = .ok (.pop, 1) := by decide +kernel
theorem qd_L_law_159 : decode code 159 = .ok (.aload_n 2, 1) := by decide +kernel
theorem qd_L_law_160 : decode code 160 = .ok (.aload_n 0, 1) := by decide +kernel
theorem qd_L_law_161 : decode code 161 = .ok (.iload_n 3, 1) := by decide +kernel
theorem qd_L_law_162 : decode code 162 = .ok (.iconst 1, 1) := by decide +kernel
theorem qd_L_law_163 : decode code 163 = .ok (.iadd, 1) := by decide +kernel
theorem qd_L_law_164 : decode code 164 = .ok (.iaload, 1) := by decide +kernel
theorem qd_L_law_165 : decode code 165 = .ok (.aload_n 0, 1) := by decide +kernel
theorem qd_L_law_166 : decode code 166 = .ok (.iload_n 3, 1) := by decide +kernel
theorem qd_L_law_167 : decode code 167 = .ok (.iconst 2, 1) := by decide +kernel
theorem qd_L_law_168 : decode code 168 = .ok (.iadd, 1) := by decide +kernel
theorem qd_L_law_169 : decode code 169 = .ok (.iaload, 1) := by decide +kernel
theorem qd_L_law_170 : decode code 170 = .ok (.aload_n 0, 1) := by decide +kernel
theorem qd_L_law_171 : decode code 171 = .ok (.iload_n 3, 1) := by decide +kernel
theorem qd_L_law_172 : decode code 172 = .ok (.iconst 3, 1) := by decide +kernel
theorem qd_L_law_173 : decode code 173 = .ok (.iadd, 1) := by decide +kernel
theorem qd_L_law_174 : decode code 174 = .ok (.iaload, 1) := by decide +kernel
theorem qd_L_law_175 : decode code 175 = .ok (.aload_n 0, 1) := by decide +kernel
theorem qd_L_law_176 : decode code 176 = .ok (.iload_n 3, 1) := by decide +kernel
theorem qd_L_law_177 : decode code 177 = .ok (.iconst 4, 1) := by decide +kernel
theorem qd_L_law_178 : decode code 178 = .ok (.iadd, 1) := by decide +kernel
theorem qd_L_law_179 : decode code 179 = .ok (.iaload, 1) := by decide +kernel
theorem qd_L_law_180 : decode code 180 = .ok (.invokevirtual 27, 3) := by decide +kernel
theorem qd_L_law_183 : decode code 183 = .ok (.pop, 1) := by decide +kernel
theorem qd_L_law_184 : decode code 184 = .ok (.goto (264), 3) := by decide +kernel
theorem qd_L_law_187 : decode code 187 = .ok (.aload_n 1, 1) := by decide +kernel
theorem qd_L_law_188 : decode code 188 = .ok (.aload_n 0, 1) := by decide +kernel
theorem qd_L_law_189 : decode code 189 = .ok (.iload_n 3, 1) := by decide +kernel
theorem qd_L_law_190 : decode code 190 = .ok (.iconst 1, 1) := by decide +kernel
theorem qd_L_law_191 : decode code 191 = .ok (.iadd, 1) := by decide +kernel
theorem qd_L_law_192 : decode code 192 = .ok (.iaload, 1) := by decide +kernel
theorem qd_L_law_193 : decode code 193 = .ok (.aload_n 0, 1) := by decide +kernel
theorem qd_L_law_194 : decode code 194 = .ok (.iload_n 3, 1) := by decide +kernel
theorem qd_L_law_195 : decode code 195 = .ok (.iconst 2, 1) := by decide +kernel
theorem qd_L_law_196 : decode code 196 = .ok (.iadd, 1) := by decide +kernel
theorem qd_L_law_197 : decode code 197 = .ok (.iaload, 1) := by decide +kernel
theorem qd_L_law_198 : decode code 198 = .ok (.aload_n 0, 1) := by decide +kernel
theorem qd_L_law_199 : decode code 199 = .ok (.iload_n 3, 1) := by decide +kernel
theorem qd_L_law_200 : decode code 200 = .ok (.iconst 3, 1) := by decide +kernel
theorem qd_L_law_201 : decode code 201 = .ok (.iadd, 1) := by decide +kernel
theorem qd_L_law_202 : decode code 202 = .ok (.iaload, 1) := by decide +kernel
theorem qd_L_law_203 : decode code 203 = .ok (.invokevirtual 28, 3) := by decide +kernel
theorem qd_L_law_206 : decode code 206 = .ok (.aload_n 2, 1) := by decide +kernel
theorem qd_L_law_207 : decode code 207 = .ok (.aload_n 0, 1) := by decide +kernel
theorem qd_L_law_208 : decode code 208 = .ok (.iload_n 3, 1) := by decide +kernel
theorem qd_L_law_209 : decode code 209 = .ok (.iconst 1, 1) := by decide +kernel
theorem qd_L_law_210 : decode code 210 = .ok (.iadd, 1) := by decide +kernel
theorem qd_L_law_211 : decode code 211 = .ok (.iaload, 1) := by decide +kernel
theorem qd_L_law_212 : decode code 212 = .ok (.aload_n 0, 1) := by decide +kernel
theorem qd_L_law_213 : decode code 213 = .ok (.iload_n 3, 1) := by decide +kernel
theorem qd_L_law_214 : decode code 214 = .ok (.iconst 2, 1) := by decide +kernel
theorem qd_L_law_215 : decode code 215 = .ok (.iadd, 1) := by decide +kernel
theorem qd_L_law_216 : decode code 216 = .ok (.iaload, 1) := by decide +kernel
theorem qd_L_law_217 : decode code 217 = .ok (.aload_n 0, 1) := by decide +kernel
theorem qd_L_law_218 : decode code 218 = .ok (.iload_n 3, 1) := by decide +kernel
theorem qd_L_law_219 : decode code 219 = .ok (.iconst 3, 1) := by decide +kernel
theorem qd_L_law_220 : decode code 220 = .ok (.iadd, 1) := by decide +kernel
theorem qd_L_law_221 : decode code 221 = .ok (.iaload, 1) := by decide +kernel
theorem qd_L_law_222 : decode code 222 = .ok (.invokevirtual 32, 3) := by decide +kernel
theorem qd_L_law_225 : decode code 225 = .ok (.if_icmp .eq 223, 3) := by decide +kernel
theorem qd_L_law_228 : decode code 228 = .ok (.iconst 0, 1) := by decide +kernel
theorem qd_L_law_229 : decode code 229 = .ok (.ireturn, 1) := by decide +kernel
theorem qd_L_law_230 : decode code 230 = .ok (.aload_n 1, 1) := by decide +kernel
theorem qd_L_law_231 : decode code 231 = .ok (.aload_n 0, 1) := by decide +kernel
theorem qd_L_law_232 : decode code 232 = .ok (.iload_n 3, 1) := by decide +kernel
theorem qd_L_law_233 : decode code 233 = .ok (.iconst 1, 1) := by decide +kernel
theorem qd_L_law_234 : decode code 234 = .ok (.iadd, 1) := by decide +kernel
theorem qd_L_law_235 : decode code 235 = .ok (.iaload, 1) := by decide +kernel
theorem qd_L_law_236 : decode code 236 = .ok (.aload_n 0, 1) := by decide +kernel
theorem qd_L_law_237 : decode code 237 = .ok (.iload_n 3, 1) := by decide +kernel
theorem qd_L_law_238 : decode code 238 = .ok (.iconst 2, 1) := by decide +kernel
theorem qd_L_law_239 : decode code 239 = .ok (.iadd, 1) := by decide +kernel
theorem qd_L_law_240 : decode code 240 = .ok (.iaload, 1) := by decide +kernel
theorem qd_L_law_241 : decode code 241 = .ok (.invokevirtual 33, 3) := by decide +kernel
theorem qd_L_law_244 : decode code 244 = .ok (.pop, 1) := by decide +kernel
theorem qd_L_law_245 : decode code 245 = .ok (.aload_n 2, 1) := by decide +kernel
theorem qd_L_law_246 : decode code 246 = .ok (.aload_n 0, 1) := by decide +kernel
theorem qd_L_law_247 : decode code 247 = .ok (.iload_n 3, 1) := by decide +kernel
theorem qd_L_law_248 : decode code 248 = .ok (.iconst 1, 1) := by decide +kernel
theorem qd_L_law_249 : decode code 249 = .ok (.iadd, 1) := by decide +kernel
theorem qd_L_law_250 : decode code 250 = .ok (.iaload, 1) := by decide +kernel
theorem qd_L_law_251 : decode code 251 = .ok (.aload_n 0, 1) := by decide +kernel
theorem qd_L_law_252 : decode code 252 = .ok (.iload_n 3, 1) := by decide +kernel
theorem qd_L_law_253 : decode code 253 = .ok (.iconst 2, 1) := by decide +kernel
theorem qd_L_law_254 : decode code 254 = .ok (.iadd, 1) := by decide +kernel
theorem qd_L_law_255 : decode code 255 = .ok (.iaload, 1) := by decide +kernel
theorem qd_L_law_256 : decode code 256 = .ok (.invokevirtual 36, 3) := by decide +kernel
theorem qd_L_law_259 : decode code 259 = .ok (.pop, 1) := by decide +kernel
theorem qd_L_law_260 : decode code 260 = .ok (.goto (188), 3) := by decide +kernel
theorem qd_L_law_263 : decode code 263 = .ok (.aload_n 1, 1) := by decide +kernel
theorem qd_L_law_264 : decode code 264 = .ok (.aload_n 0, 1) := by decide +kernel
theorem qd_L_law_265 : decode code 265 = .ok (.iload_n 3, 1) := by decide +kernel
theorem qd_L_law_266 : decode code 266 = .ok (.iconst 1, 1) := by decide +kernel
theorem qd_L_law_267 : decode code 267 = .ok (.iadd, 1) := by decide +kernel
theorem qd_L_law_268 : decode code 268 = .ok (.iaload, 1) := by decide +kernel
theorem qd_L_law_269 : decode code 269 = .ok (.aload_n 0, 1) := by decide +kernel
theorem qd_L_law_270 : decode code 270 = .ok (.iload_n 3, 1) := by decide +kernel
theorem qd_L_law_271 : decode code 271 = .ok (.iconst 2, 1) := by decide +kernel
theorem qd_L_law_272 : decode code 272 = .ok (.iadd, 1) := by decide +kernel
theorem qd_L_law_273 : decode code 273 = .ok (.iaload, 1) := by decide +kernel
theorem qd_L_law_274 : decode code 274 = .ok (.invokevirtual 37, 3) := by decide +kernel
theorem qd_L_law_277 : decode code 277 = .ok (.pop, 1) := by decide +kernel
theorem qd_L_law_278 : decode code 278 = .ok (.aload_n 2, 1) := by decide +kernel
theorem qd_L_law_279 : decode code 279 = .ok (.aload_n 0, 1) := by decide +kernel
theorem qd_L_law_280 : decode code 280 = .ok (.iload_n 3, 1) := by decide +kernel
theorem qd_L_law_281 : decode code 281 = .ok (.iconst 1, 1) := by decide +kernel
theorem qd_L_law_282 : decode code 282 = .ok (.iadd, 1) := by decide +kernel
theorem qd_L_law_283 : decode code 283 = .ok (.iaload, 1) := by decide +kernel
theorem qd_L_law_284 : decode code 284 = .ok (.aload_n 0, 1) := by decide +kernel
theorem qd_L_law_285 : decode code 285 = .ok (.iload_n 3, 1) := by decide +kernel
theorem qd_L_law_286 : decode code 286 = .ok (.iconst 2, 1) := by decide +kernel
theorem qd_L_law_287 : decode code 287 = .ok (.iadd, 1) := by decide +kernel
theorem qd_L_law_288 : decode code 288 = .ok (.iaload, 1) := by decide +kernel
theorem qd_L_law_289 : decode code 289 = .ok (.invokevirtual 40, 3) := by decide +kernel
theorem qd_L_law_292 : decode code 292 = .ok (.pop, 1) := by decide +kernel
theorem qd_L_law_293 : decode code 293 = .ok (.goto (155), 3) := by decide +kernel
theorem qd_L_law_296 : decode code 296 = .ok (.aload_n 1, 1) := by decide +kernel
theorem qd_L_law_297 : decode code 297 = .ok (.aload_n 0, 1) := by decide +kernel
theorem qd_L_law_298 : decode code 298 = .ok (.iload_n 3, 1) := by decide +kernel
theorem qd_L_law_299 : decode code 299 = .ok (.iconst 1, 1) := by decide +kernel
theorem qd_L_law_300 : decode code 300 = .ok (.iadd, 1) := by decide +kernel
theorem qd_L_law_301 : decode code 301 = .ok (.iaload, 1) := by decide +kernel
theorem qd_L_law_302 : decode code 302 = .ok (.aload_n 0, 1) := by decide +kernel
theorem qd_L_law_303 : decode code 303 = .ok (.iload_n 3, 1) := by decide +kernel
theorem qd_L_law_304 : decode code 304 = .ok (.iconst 2, 1) := by decide +kernel
theorem qd_L_law_305 : decode code 305 = .ok (.iadd, 1) := by decide +kernel
theorem qd_L_law_306 : decode code 306 = .ok (.iaload, 1) := by decide +kernel
theorem qd_L_law_307 : decode code 307 = .ok (.aload_n 0, 1) := by decide +kernel
theorem qd_L_law_308 : decode code 308 = .ok (.iload_n 3, 1) := by decide +kernel
theorem qd_L_law_309 : decode code 309 = .ok (.iconst 3, 1) := by decide +kernel
theorem qd_L_law_310 : decode code 310 = .ok (.iadd, 1) := by decide +kernel
theorem qd_L_law_311 : decode code 311 = .ok (.iaload, 1) := by decide +kernel
theorem qd_L_law_312 : decode code 312 = .ok (.invokevirtual 41, 3) := by decide +kernel
theorem qd_L_law_315 : decode code 315 = .ok (.pop, 1) := by decide +kernel
theorem qd_L_law_316 : decode code 316 = .ok (.aload_n 2, 1) := by decide +kernel
theorem qd_L_law_317 : decode code 317 = .ok (.aload_n 0, 1) := by decide +kernel
theorem qd_L_law_318 : decode code 318 = .ok (.iload_n 3, 1) := by decide +kernel
theorem qd_L_law_319 : decode code 319 = .ok (.iconst 1, 1) := by decide +kernel
theorem qd_L_law_320 : decode code 320 = .ok (.iadd, 1) := by decide +kernel
theorem qd_L_law_321 : decode code 321 = .ok (.iaload, 1) := by decide +kernel
theorem qd_L_law_322 : decode code 322 = .ok (.aload_n 0, 1) := by decide +kernel
theorem qd_L_law_323 : decode code 323 = .ok (.iload_n 3, 1) := by decide +kernel
theorem qd_L_law_324 : decode code 324 = .ok (.iconst 2, 1) := by decide +kernel
theorem qd_L_law_325 : decode code 325 = .ok (.iadd, 1) := by decide +kernel
theorem qd_L_law_326 : decode code 326 = .ok (.iaload, 1) := by decide +kernel
theorem qd_L_law_327 : decode code 327 = .ok (.aload_n 0, 1) := by decide +kernel
theorem qd_L_law_328 : decode code 328 = .ok (.iload_n 3, 1) := by decide +kernel
theorem qd_L_law_329 : decode code 329 = .ok (.iconst 3, 1) := by decide +kernel
theorem qd_L_law_330 : decode code 330 = .ok (.iadd, 1) := by decide +kernel
theorem qd_L_law_331 : decode code 331 = .ok (.iaload, 1) := by decide +kernel
theorem qd_L_law_332 : decode code 332 = .ok (.invokevirtual 44, 3) := by decide +kernel
theorem qd_L_law_335 : decode code 335 = .ok (.pop, 1) := by decide +kernel
theorem qd_L_law_336 : decode code 336 = .ok (.goto (112), 3) := by decide +kernel
theorem qd_L_law_339 : decode code 339 = .ok (.aload_n 1, 1) := by decide +kernel
theorem qd_L_law_340 : decode code 340 = .ok (.aload_n 0, 1) := by decide +kernel
theorem qd_L_law_341 : decode code 341 = .ok (.iload_n 3, 1) := by decide +kernel
theorem qd_L_law_342 : decode code 342 = .ok (.iconst 1, 1) := by decide +kernel
theorem qd_L_law_343 : decode code 343 = .ok (.iadd, 1) := by decide +kernel
theorem qd_L_law_344 : decode code 344 = .ok (.iaload, 1) := by decide +kernel
theorem qd_L_law_345 : decode code 345 = .ok (.aload_n 0, 1) := by decide +kernel
theorem qd_L_law_346 : decode code 346 = .ok (.iload_n 3, 1) := by decide +kernel
theorem qd_L_law_347 : decode code 347 = .ok (.iconst 2, 1) := by decide +kernel
theorem qd_L_law_348 : decode code 348 = .ok (.iadd, 1) := by decide +kernel
theorem qd_L_law_349 : decode code 349 = .ok (.iaload, 1) := by decide +kernel
theorem qd_L_law_350 : decode code 350 = .ok (.aload_n 0, 1) := by decide +kernel
theorem qd_L_law_351 : decode code 351 = .ok (.iload_n 3, 1) := by decide +kernel
theorem qd_L_law_352 : decode code 352 = .ok (.iconst 3, 1) := by decide +kernel
theorem qd_L_law_353 : decode code 353 = .ok (.iadd, 1) := by decide +kernel
theorem qd_L_law_354 : decode code 354 = .ok (.iaload, 1) := by decide +kernel
theorem qd_L_law_355 : decode code 355 = .ok (.aload_n 0, 1) := by decide +kernel
theorem qd_L_law_356 : decode code 356 = .ok (.iload_n 3, 1) := by decide +kernel
theorem qd_L_law_357 : decode code 357 = .ok (.iconst 4, 1) := by decide +kernel
theorem qd_L_law_358 : decode code 358 = .ok (.iadd, 1) := by decide +kernel
theorem qd_L_law_359 : decode code 359 = .ok (.iaload, 1) := by decide +kernel
theorem qd_L_law_360 : decode code 360 = .ok (.invokevirtual 45, 3) := by decide +kernel
theorem qd_L_law_363 : decode code 363 = .ok (.pop, 1) := by decide +kernel
theorem qd_L_law_364 : decode code 364 = .ok (.aload_n 2, 1) := by decide +kernel
theorem qd_L_law_365 : decode code 365 = .ok (.aload_n 0, 1) := by decide +kernel
theorem qd_L_law_366 : decode code 366 = .ok (.iload_n 3, 1) := by decide +kernel
theorem qd_L_law_367 : decode code 367 = .ok (.iconst 1, 1) := by decide +kernel
theorem qd_L_law_368 : decode code 368 = .ok (.iadd, 1) := by decide +kernel
theorem qd_L_law_369 : decode code 369 = .ok (.iaload, 1) := by decide +kernel
theorem qd_L_law_370 : decode code 370 = .ok (.aload_n 0, 1) := by decide +kernel
theorem qd_L_law_371 : decode code 371 = .ok (.iload_n 3, 1) := by decide +kernel
theorem qd_L_law_372 : decode code 372 = .ok (.iconst 2, 1) := by decide +kernel
theorem qd_L_law_373 : decode code 373 = .ok (.iadd, 1) := by decide +kernel
theorem qd_L_law_374 : decode code 374 = .ok (.iaload, 1) := by decide +kernel
theorem qd_L_law_375 : decode code 375 = .ok (.aload_n 0, 1) := by decide +kernel
theorem qd_L_law_376 : decode code 376 = .ok (.iload_n 3, 1) := by decide +kernel
theorem qd_L_law_377 : decode code 377 = .ok (.iconst 3, 1) := by decide +kernel
theorem qd_L_law_378 : decode code 378 = .ok (.iadd, 1) := by decide +kernel
theorem qd_L_law_379 : decode code 379 = .ok (.iaload, 1) := by decide +kernel
theorem qd_L_law_380 : decode code 380 = .ok (.aload_n 0, 1) := by decide +kernel
theorem qd_L_law_381 : decode code 381 = .ok (.iload_n 3, 1) := by decide +kernel
theorem qd_L_law_382 : decode code 382 = .ok (.iconst 4, 1) := by decide +kernel
theorem qd_L_law_383 : decode code 383 = .ok (.iadd, 1) := by decide +kernel
theorem qd_L_law_384 : decode code 384 = .ok (.iaload, 1) := by decide +kernel
theorem qd_L_law_385 : decode code 385 = .ok (.invokevirtual 48, 3) := by decide +kernel
theorem qd_L_law_388 : decode code 388 = .ok (.pop, 1) := by decide +kernel
theorem qd_L_law_389 : decode code 389 = .ok (.goto (59), 3) := by decide +kernel
theorem qd_L_law_392 : decode code 392 = .ok (.aload_n 1, 1) := by decide +kernel
theorem qd_L_law_393 : decode code 393 = .ok (.aload_n 0, 1) := by decide +kernel
theorem qd_L_law_394 : decode code 394 = .ok (.iload_n 3, 1) := by decide +kernel
theorem qd_L_law_395 : decode code 395 = .ok (.iconst 1, 1) := by decide +kernel
theorem qd_L_law_396 : decode code 396 = .ok (.iadd, 1) := by decide +kernel
theorem qd_L_law_397 : decode code 397 = .ok (.iaload, 1) := by decide +kernel
theorem qd_L_law_398 : decode code 398 = .ok (.aload_n 0, 1) := by decide +kernel
theorem qd_L_law_399 : decode code 399 = .ok (.iload_n 3, 1) := by decide +kernel
theorem qd_L_law_400 : decode code 400 = .ok (.iconst 2, 1) := by decide +kernel
theorem qd_L_law_401 : decode code 401 = .ok (.iadd, 1) := by decide +kernel
theorem qd_L_law_402 : decode code 402 = .ok (.iaload, 1) := by decide +kernel
theorem qd_L_law_403 : decode code 403 = .ok (.invokevirtual 49, 3) := by decide +kernel
theorem qd_L_law_406 : decode code 406 = .ok (.pop, 1) := by decide +kernel
theorem qd_L_law_407 : decode code 407 = .ok (.aload_n 2, 1) := by decide +kernel
theorem qd_L_law_408 : decode code 408 = .ok (.aload_n 0, 1) := by decide +kernel
theorem qd_L_law_409 : decode code 409 = .ok (.iload_n 3, 1) := by decide +kernel
theorem qd_L_law_410 : decode code 410 = .ok (.iconst 1, 1) := by decide +kernel
theorem qd_L_law_411 : decode code 411 = .ok (.iadd, 1) := by decide +kernel
theorem qd_L_law_412 : decode code 412 = .ok (.iaload, 1) := by decide +kernel
theorem qd_L_law_413 : decode code 413 = .ok (.aload_n 0, 1) := by decide +kernel
theorem qd_L_law_414 : decode code 414 = .ok (.iload_n 3, 1) := by decide +kernel
theorem qd_L_law_415 : decode code 415 = .ok (.iconst 2, 1) := by decide +kernel
theorem qd_L_law_416 : decode code 416 = .ok (.iadd, 1) := by decide +kernel
theorem qd_L_law_417 : decode code 417 = .ok (.iaload, 1) := by decide +kernel
theorem qd_L_law_418 : decode code 418 = .ok (.invokevirtual 52, 3) := by decide +kernel
theorem qd_L_law_421 : decode code 421 = .ok (.pop, 1) := by decide +kernel
theorem qd_L_law_422 : decode code 422 = .ok (.goto (26), 3) := by decide +kernel
theorem qd_L_law_425 : decode code 425 = .ok (.aload_n 1, 1) := by decide +kernel
theorem qd_L_law_426 : decode code 426 = .ok (.aload_n 0, 1) := by decide +kernel
theorem qd_L_law_427 : decode code 427 = .ok (.iload_n 3, 1) := by decide +kernel
theorem qd_L_law_428 : decode code 428 = .ok (.iconst 1, 1) := by decide +kernel
theorem qd_L_law_429 : decode code 429 = .ok (.iadd, 1) := by decide +kernel
theorem qd_L_law_430 : decode code 430 = .ok (.iaload, 1) := by decide +kernel
theorem qd_L_law_431 : decode code 431 = .ok (.invokevirtual 53, 3) := by decide +kernel
theorem qd_L_law_434 : decode code 434 = .ok (.pop, 1) := by decide +kernel
theorem qd_L_law_435 : decode code 435 = .ok (.aload_n 2, 1) := by decide +kernel
theorem qd_L_law_436 : decode code 436 = .ok (.aload_n 0, 1) := by decide +kernel
theorem qd_L_law_437 : decode code 437 = .ok (.iload_n 3, 1) := by decide +kernel
theorem qd_L_law_438 : decode code 438 = .ok (.iconst 1, 1) := by decide +kernel
theorem qd_L_law_439 : decode code 439 = .ok (.iadd, 1) := by decide +kernel
theorem qd_L_law_440 : decode code 440 = .ok (.iaload, 1) := by decide +kernel
theorem qd_L_law_441 : decode code 441 = .ok (.invokevirtual 57, 3) := by decide +kernel
theorem qd_L_law_444 : decode code 444 = .ok (.pop, 1) := by decide +kernel
theorem qd_L_law_445 : decode code 445 = .ok (.goto (3), 3) := by decide +kernel
theorem qd_L_law_448 : decode code 448 = .ok (.iinc 3 (5), 3) := by decide +kernel
theorem qd_L_law_451 : decode code 451 = .ok (.goto (-433), 3) := by decide +kernel
theorem qd_L_law_454 : decode code 454 = .ok (.iconst 1, 1) := by decide +kernel
theorem qd_L_law_455 : decode code 455 = .ok (.ireturn, 1) := by decide +kernel
