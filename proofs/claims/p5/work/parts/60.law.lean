/-! THE CLAIM OUT OF ONE WALK OF THE LAW'S BODY. Your part is whole_start (and what it stands on); all else here is the same for every law, but numbers. -/
def R_law : String := "HartDeskLaw"
def lw_P (b : Addr) (xs : List Int32) (args : Array Value) (s : State) : Prop := args = #[.ref b] ∧ s.IntsAt b xs ∧ xs.length ≤ 1536 ∧ (Jvm.Cond.and given_1 narrow_1).before args s = true
def lw_Q (_ : Array Value) (s : State) (o : Outcome) (t : State) : Prop := o = .returned (some (.int 1)) ∧ Framed s o t [] 1039 10376
def lw_Z (below : List Frame) (a : Array Value) (s : State) : State → Prop := fun t => ∃ o, t.status = .running ∧ Ended t below o ∧ lw_Q a s o t
/-- the law's own end, with 1 on the stack, nothing written that was there before, its room as the claim has it -/
theorem lw_ret {p : Program} {l : Launch} {e : Env} {s : State} {m : MethodId} {below : List Frame} {meth : Method} {c : Code} {b : Nat} (hx : p.tables.exec = Jvm.exec) (hb : c.code = code) (hr : meth.sig.returnType = ret) (hlocks : meth.locks = false) {pc : Nat} {H : Heap} {ls : Array Slot} (hdg : decode code pc = .ok (.ireturn, 1)) : W p l e room_1 s m #[Value.ref b] below meth c H [] 1039 10376 (lw_Z below #[Value.ref b] s) (F0 m pc ls [.int 1]) := by
  intro T hT X
  obtain ⟨fs, hret, hrun, hended, hW, hframe⟩ := X.leave (v := some (.int 1)) (hlocks := hlocks) (fun h => by rw [hr] at h; cases h)
  have hmeth' : T.vm.method? m = some meth := X.method'
  refine ⟨T.setFrames fs, ?_, .returned (some (.int 1)), hrun, hended, rfl, ⟨_, rfl⟩, hW, hframe⟩
  jvm_step X.here [X.here.top, hx, hb, hdg, hmeth', hr, ret, narrow_b1]
  (try refine ⟨rfl, ?_⟩); (try refine ⟨rfl, ?_⟩)
  first | (intro acts; rw [hret _ acts rfl rfl rfl]) | rw [hret _ _ rfl rfl rfl]
  exact Steps.refl _
/-- what holds at the law's entry: the machine, the code, the tables' words (any of lw_tbl by 'hts w (by decide +kernel)'), the script of L ints xs at the cell b, what the Statement gives of the start (any of its parts by flat_of_before) -/
def lw_At (p : Program) (s : State) (m : MethodId) (meth : Method) (c : Code) (b L : Nat) (xs : Nat → Int32) : Prop :=
  p.tables.exec = Jvm.exec ∧ c.code = code ∧ meth.sig.returnType = ret ∧ c.maxLocals = 7 ∧ s.vm.findClass R_law = some m.cls ∧ (∀ w ∈ lw_tbl, w.before #[Value.ref b] s = true) ∧ va_X b L xs s s.heap ∧ b < s.heap.size ∧ meth.locks = false ∧ (Jvm.Cond.and given_1 narrow_1).before #[Value.ref b] s = true
/-! the law -/
abbrev cL_law : ByteArray := code
theorem toO {D : va_G} {bH bM bR bC jM jR jC aH aM aW aC aR iW iR aO iO : Nat} {y : SR} {x : St} {o : Nat → Int64} {H : Heap} (h : va_P D vwCl (wR bH bM bR bC jM jR jC y ++ (wD aH aM aW aC aR iW iR x ++ [(aO, .inl (iO, 1, .inr (.inl o)))])) H) : va_P D vwCl (wR bH bM bR bC jM jR jC y ++ (wO aH aM aW aC aR iW iR aO iO (x, o) ++ [])) H := h
theorem frO {D : va_G} {bH bM bR bC jM jR jC aH aM aW aC aR iW iR aO iO : Nat} {y : SR} {x : St} {o : Nat → Int64} {H : Heap} (h : va_P D vwCl (wR bH bM bR bC jM jR jC y ++ (wO aH aM aW aC aR iW iR aO iO (x, o) ++ [])) H) : va_P D vwCl (wR bH bM bR bC jM jR jC y ++ (wD aH aM aW aC aR iW iR x ++ [(aO, .inl (iO, 1, .inr (.inl o)))])) H := h
theorem toD {A : Nat → Prop} {bH bM bR bC jM jR jC aH aM aW aC aR iW iR aO iO : Nat} {y : SR} {x : St} {o : Nat → Int64} (h : va_D A (wR bH bM bR bC jM jR jC y ++ (wD aH aM aW aC aR iW iR x ++ [(aO, .inl (iO, 1, .inr (.inl o)))]))) : va_D A (wR bH bM bR bC jM jR jC y ++ (wO aH aM aW aC aR iW iR aO iO (x, o) ++ [])) := h
theorem frD {A : Nat → Prop} {bH bM bR bC jM jR jC aH aM aW aC aR iW iR aO iO : Nat} {y : SR} {x : St} {o : Nat → Int64} (h : va_D A (wR bH bM bR bC jM jR jC y ++ (wO aH aM aW aC aR iW iR aO iO (x, o) ++ []))) : va_D A (wR bH bM bR bC jM jR jC y ++ (wD aH aM aW aC aR iW iR x ++ [(aO, .inl (iO, 1, .inr (.inl o)))])) := h
theorem oS_cmp {k v b : Int32} {o : Nat → Int64} (hk : k = 0) (h : v = b) : lg_cmp (oS k o v (0 : Int32).toNatClampNeg) b.toInt64 = 0 := by
  subst hk; subst h
  rw [oS_0]
  simp [vp_updL, lg_cmp]
theorem z_sld {p : Program} {l : Launch} {e : Env} {R : Room} {s : State} {m : MethodId} {args : Array Value} {below : List Frame} {meth : Method} {c : Code} {H H0 : Heap} {locs : List Loc} {cells slots : Nat} {Q : State → Prop} {cc : ByteArray} {pc : Nat} {ls : Array Slot} {rest : List Value} {A : Nat → Prop} (hexec : p.tables.exec = Jvm.exec) (hb : c.code = cc) {b L : Nat} {xs : Nat → Int32} (hX : va_X b L xs s H0) (hbl : b < H0.size) (hbA : ¬ A b) (hS : va_S A H0 H locs) {i v : Int32} (hin : vp_in i L) (hv : xs i.toNatClampNeg = v) (hdg : decode cc pc = .ok (.iaload, 1))
    (kk : W p l e R s m args below meth c H locs cells slots Q (F0 m (pc + 1) ls (.int v :: rest))) : W p l e R s m args below meth c H locs cells slots Q (F0 m pc ls (.int i :: .ref b :: rest)) := by
  refine va_sld hexec hb hX hbl hbA hS hin hdg ?_
  rw [hv]
  exact kk
theorem lw_in {L j : Nat} (hL : L ≤ 1536) (hj : j ≤ 512) (h : ¬ (Int32.ofNat L - 3 < nI (3 * j))) : 3 * j + 3 ≤ L := by
  rw [Int32.lt_iff_toInt_lt, Int32.toInt_sub] at h
  have e1 : (Int32.ofNat L).toInt = L := Int32.toInt_ofNat_of_lt (by omega)
  have e2 : (nI (3 * j)).toInt = (3 * j : Nat) := Int32.toInt_ofNat_of_lt (by omega)
  have e3 : (3 : Int32).toInt = 3 := by decide
  rw [e1, e2, e3, Int.bmod_def] at h
  split at h <;> omega
theorem lw_idx {L j k : Nat} (hL : L ≤ 1536) (hj : 3 * j + k < L) : vp_in (nI (3 * j + k)) L := nI_in hj (by omega)
theorem dL_law_0 : decode cL_law 0 = .ok (.new 8, 3) := by decide +kernel
theorem dL_law_3 : decode cL_law 3 = .ok (.dup, 1) := by decide +kernel
theorem dL_law_4 : decode cL_law 4 = .ok (.invokespecial 28, 3) := by decide +kernel
theorem dL_law_7 : decode cL_law 7 = .ok (.astore_n 1, 1) := by decide +kernel
theorem dL_law_8 : decode cL_law 8 = .ok (.new 29, 3) := by decide +kernel
theorem dL_law_11 : decode cL_law 11 = .ok (.dup, 1) := by decide +kernel
theorem dL_law_12 : decode cL_law 12 = .ok (.invokespecial 31, 3) := by decide +kernel
theorem dL_law_15 : decode cL_law 15 = .ok (.astore_n 2, 1) := by decide +kernel
theorem dL_law_16 : decode cL_law 16 = .ok (.iconst 1, 1) := by decide +kernel
theorem dL_law_17 : decode cL_law 17 = .ok (.newarray .long, 2) := by decide +kernel
theorem dL_law_19 : decode cL_law 19 = .ok (.astore_n 3, 1) := by decide +kernel
theorem dL_law_20 : decode cL_law 20 = .ok (.iconst 0, 1) := by decide +kernel
theorem dL_law_21 : decode cL_law 21 = .ok (.istore 4, 2) := by decide +kernel
theorem dL_law_23 : decode cL_law 23 = .ok (.iload 4, 2) := by decide +kernel
theorem dL_law_25 : decode cL_law 25 = .ok (.aload_n 0, 1) := by decide +kernel
theorem dL_law_26 : decode cL_law 26 = .ok (.arraylength, 1) := by decide +kernel
theorem dL_law_27 : decode cL_law 27 = .ok (.iconst 3, 1) := by decide +kernel
theorem dL_law_28 : decode cL_law 28 = .ok (.isub, 1) := by decide +kernel
theorem dL_law_29 : decode cL_law 29 = .ok (.if_icmp .gt 382, 3) := by decide +kernel
theorem dL_law_32 : decode cL_law 32 = .ok (.aload_n 0, 1) := by decide +kernel
theorem dL_law_33 : decode cL_law 33 = .ok (.iload 4, 2) := by decide +kernel
theorem dL_law_35 : decode cL_law 35 = .ok (.iaload, 1) := by decide +kernel
theorem dL_law_36 : decode cL_law 36 = .ok (.bipush 15, 2) := by decide +kernel
theorem dL_law_38 : decode cL_law 38 = .ok (.iand, 1) := by decide +kernel
theorem dL_law_39 : decode cL_law 39 = .ok (.tableswitch 366 0 8 #[49, 86, 123, 162, 218, 257, 285, 313, 341], 49) := by decide +kernel
theorem dL_law_88 : decode cL_law 88 = .ok (.aload_n 1, 1) := by decide +kernel
theorem dL_law_89 : decode cL_law 89 = .ok (.aload_n 0, 1) := by decide +kernel
theorem dL_law_90 : decode cL_law 90 = .ok (.iload 4, 2) := by decide +kernel
theorem dL_law_92 : decode cL_law 92 = .ok (.iconst 1, 1) := by decide +kernel
theorem dL_law_93 : decode cL_law 93 = .ok (.iadd, 1) := by decide +kernel
theorem dL_law_94 : decode cL_law 94 = .ok (.iaload, 1) := by decide +kernel
theorem dL_law_95 : decode cL_law 95 = .ok (.aload_n 0, 1) := by decide +kernel
theorem dL_law_96 : decode cL_law 96 = .ok (.iload 4, 2) := by decide +kernel
theorem dL_law_98 : decode cL_law 98 = .ok (.iconst 2, 1) := by decide +kernel
theorem dL_law_99 : decode cL_law 99 = .ok (.iadd, 1) := by decide +kernel
theorem dL_law_100 : decode cL_law 100 = .ok (.iaload, 1) := by decide +kernel
theorem dL_law_101 : decode cL_law 101 = .ok (.invokevirtual 32, 3) := by decide +kernel
theorem dL_law_104 : decode cL_law 104 = .ok (.pop, 1) := by decide +kernel
theorem dL_law_105 : decode cL_law 105 = .ok (.aload_n 2, 1) := by decide +kernel
theorem dL_law_106 : decode cL_law 106 = .ok (.aload_n 0, 1) := by decide +kernel
theorem dL_law_107 : decode cL_law 107 = .ok (.iload 4, 2) := by decide +kernel
theorem dL_law_109 : decode cL_law 109 = .ok (.iconst 1, 1) := by decide +kernel
theorem dL_law_110 : decode cL_law 110 = .ok (.iadd, 1) := by decide +kernel
theorem dL_law_111 : decode cL_law 111 = .ok (.iaload, 1) := by decide +kernel
theorem dL_law_112 : decode cL_law 112 = .ok (.aload_n 0, 1) := by decide +kernel
theorem dL_law_113 : decode cL_law 113 = .ok (.iload 4, 2) := by decide +kernel
theorem dL_law_115 : decode cL_law 115 = .ok (.iconst 2, 1) := by decide +kernel
theorem dL_law_116 : decode cL_law 116 = .ok (.iadd, 1) := by decide +kernel
theorem dL_law_117 : decode cL_law 117 = .ok (.iaload, 1) := by decide +kernel
theorem dL_law_118 : decode cL_law 118 = .ok (.invokevirtual 36, 3) := by decide +kernel
theorem dL_law_121 : decode cL_law 121 = .ok (.pop, 1) := by decide +kernel
theorem dL_law_122 : decode cL_law 122 = .ok (.goto 283, 3) := by decide +kernel
theorem dL_law_125 : decode cL_law 125 = .ok (.aload_n 1, 1) := by decide +kernel
theorem dL_law_126 : decode cL_law 126 = .ok (.aload_n 0, 1) := by decide +kernel
theorem dL_law_127 : decode cL_law 127 = .ok (.iload 4, 2) := by decide +kernel
theorem dL_law_129 : decode cL_law 129 = .ok (.iconst 1, 1) := by decide +kernel
theorem dL_law_130 : decode cL_law 130 = .ok (.iadd, 1) := by decide +kernel
theorem dL_law_131 : decode cL_law 131 = .ok (.iaload, 1) := by decide +kernel
theorem dL_law_132 : decode cL_law 132 = .ok (.aload_n 0, 1) := by decide +kernel
theorem dL_law_133 : decode cL_law 133 = .ok (.iload 4, 2) := by decide +kernel
theorem dL_law_135 : decode cL_law 135 = .ok (.iconst 2, 1) := by decide +kernel
theorem dL_law_136 : decode cL_law 136 = .ok (.iadd, 1) := by decide +kernel
theorem dL_law_137 : decode cL_law 137 = .ok (.iaload, 1) := by decide +kernel
theorem dL_law_138 : decode cL_law 138 = .ok (.invokevirtual 37, 3) := by decide +kernel
theorem dL_law_141 : decode cL_law 141 = .ok (.pop, 1) := by decide +kernel
theorem dL_law_142 : decode cL_law 142 = .ok (.aload_n 2, 1) := by decide +kernel
theorem dL_law_143 : decode cL_law 143 = .ok (.aload_n 0, 1) := by decide +kernel
theorem dL_law_144 : decode cL_law 144 = .ok (.iload 4, 2) := by decide +kernel
theorem dL_law_146 : decode cL_law 146 = .ok (.iconst 1, 1) := by decide +kernel
theorem dL_law_147 : decode cL_law 147 = .ok (.iadd, 1) := by decide +kernel
theorem dL_law_148 : decode cL_law 148 = .ok (.iaload, 1) := by decide +kernel
theorem dL_law_149 : decode cL_law 149 = .ok (.aload_n 0, 1) := by decide +kernel
theorem dL_law_150 : decode cL_law 150 = .ok (.iload 4, 2) := by decide +kernel
theorem dL_law_152 : decode cL_law 152 = .ok (.iconst 2, 1) := by decide +kernel
theorem dL_law_153 : decode cL_law 153 = .ok (.iadd, 1) := by decide +kernel
theorem dL_law_154 : decode cL_law 154 = .ok (.iaload, 1) := by decide +kernel
theorem dL_law_155 : decode cL_law 155 = .ok (.invokevirtual 40, 3) := by decide +kernel
theorem dL_law_158 : decode cL_law 158 = .ok (.pop, 1) := by decide +kernel
theorem dL_law_159 : decode cL_law 159 = .ok (.goto 246, 3) := by decide +kernel
theorem dL_law_162 : decode cL_law 162 = .ok (.aload_n 1, 1) := by decide +kernel
theorem dL_law_163 : decode cL_law 163 = .ok (.aload_n 0, 1) := by decide +kernel
theorem dL_law_164 : decode cL_law 164 = .ok (.iload 4, 2) := by decide +kernel
theorem dL_law_166 : decode cL_law 166 = .ok (.iconst 1, 1) := by decide +kernel
theorem dL_law_167 : decode cL_law 167 = .ok (.iadd, 1) := by decide +kernel
theorem dL_law_168 : decode cL_law 168 = .ok (.iaload, 1) := by decide +kernel
theorem dL_law_169 : decode cL_law 169 = .ok (.ifCond .eq 7, 3) := by decide +kernel
theorem dL_law_172 : decode cL_law 172 = .ok (.iconst 1, 1) := by decide +kernel
theorem dL_law_173 : decode cL_law 173 = .ok (.goto 4, 3) := by decide +kernel
theorem dL_law_176 : decode cL_law 176 = .ok (.iconst 0, 1) := by decide +kernel
theorem dL_law_177 : decode cL_law 177 = .ok (.invokevirtual 41, 3) := by decide +kernel
theorem dL_law_180 : decode cL_law 180 = .ok (.aload_n 2, 1) := by decide +kernel
theorem dL_law_181 : decode cL_law 181 = .ok (.aload_n 0, 1) := by decide +kernel
theorem dL_law_182 : decode cL_law 182 = .ok (.iload 4, 2) := by decide +kernel
theorem dL_law_184 : decode cL_law 184 = .ok (.iconst 1, 1) := by decide +kernel
theorem dL_law_185 : decode cL_law 185 = .ok (.iadd, 1) := by decide +kernel
theorem dL_law_186 : decode cL_law 186 = .ok (.iaload, 1) := by decide +kernel
theorem dL_law_187 : decode cL_law 187 = .ok (.ifCond .eq 7, 3) := by decide +kernel
theorem dL_law_190 : decode cL_law 190 = .ok (.iconst 1, 1) := by decide +kernel
theorem dL_law_191 : decode cL_law 191 = .ok (.goto 4, 3) := by decide +kernel
theorem dL_law_194 : decode cL_law 194 = .ok (.iconst 0, 1) := by decide +kernel
theorem dL_law_195 : decode cL_law 195 = .ok (.invokevirtual 45, 3) := by decide +kernel
theorem dL_law_198 : decode cL_law 198 = .ok (.goto 207, 3) := by decide +kernel
theorem dL_law_201 : decode cL_law 201 = .ok (.aload_n 1, 1) := by decide +kernel
theorem dL_law_202 : decode cL_law 202 = .ok (.aload_n 0, 1) := by decide +kernel
theorem dL_law_203 : decode cL_law 203 = .ok (.iload 4, 2) := by decide +kernel
theorem dL_law_205 : decode cL_law 205 = .ok (.iconst 1, 1) := by decide +kernel
theorem dL_law_206 : decode cL_law 206 = .ok (.iadd, 1) := by decide +kernel
theorem dL_law_207 : decode cL_law 207 = .ok (.iaload, 1) := by decide +kernel
theorem dL_law_208 : decode cL_law 208 = .ok (.aload_n 3, 1) := by decide +kernel
theorem dL_law_209 : decode cL_law 209 = .ok (.invokestatic 46, 3) := by decide +kernel
theorem dL_law_212 : decode cL_law 212 = .ok (.istore 5, 2) := by decide +kernel
theorem dL_law_214 : decode cL_law 214 = .ok (.aload_n 2, 1) := by decide +kernel
theorem dL_law_215 : decode cL_law 215 = .ok (.aload_n 0, 1) := by decide +kernel
theorem dL_law_216 : decode cL_law 216 = .ok (.iload 4, 2) := by decide +kernel
theorem dL_law_218 : decode cL_law 218 = .ok (.iconst 1, 1) := by decide +kernel
theorem dL_law_219 : decode cL_law 219 = .ok (.iadd, 1) := by decide +kernel
theorem dL_law_220 : decode cL_law 220 = .ok (.iaload, 1) := by decide +kernel
theorem dL_law_221 : decode cL_law 221 = .ok (.invokevirtual 51, 3) := by decide +kernel
theorem dL_law_224 : decode cL_law 224 = .ok (.istore 6, 2) := by decide +kernel
theorem dL_law_226 : decode cL_law 226 = .ok (.aload_n 2, 1) := by decide +kernel
theorem dL_law_227 : decode cL_law 227 = .ok (.invokevirtual 52, 3) := by decide +kernel
theorem dL_law_230 : decode cL_law 230 = .ok (.iload 5, 2) := by decide +kernel
theorem dL_law_232 : decode cL_law 232 = .ok (.if_icmp .eq 5, 3) := by decide +kernel
theorem dL_law_235 : decode cL_law 235 = .ok (.iconst 0, 1) := by decide +kernel
theorem dL_law_236 : decode cL_law 236 = .ok (.ireturn, 1) := by decide +kernel
theorem dL_law_237 : decode cL_law 237 = .ok (.iload 5, 2) := by decide +kernel
theorem dL_law_239 : decode cL_law 239 = .ok (.ifCond .ne 15, 3) := by decide +kernel
theorem dL_law_242 : decode cL_law 242 = .ok (.aload_n 3, 1) := by decide +kernel
theorem dL_law_243 : decode cL_law 243 = .ok (.iconst 0, 1) := by decide +kernel
theorem dL_law_244 : decode cL_law 244 = .ok (.laload, 1) := by decide +kernel
theorem dL_law_245 : decode cL_law 245 = .ok (.iload 6, 2) := by decide +kernel
theorem dL_law_247 : decode cL_law 247 = .ok (.i2l, 1) := by decide +kernel
theorem dL_law_248 : decode cL_law 248 = .ok (.lcmp, 1) := by decide +kernel
theorem dL_law_249 : decode cL_law 249 = .ok (.ifCond .eq 5, 3) := by decide +kernel
theorem dL_law_252 : decode cL_law 252 = .ok (.iconst 0, 1) := by decide +kernel
theorem dL_law_253 : decode cL_law 253 = .ok (.ireturn, 1) := by decide +kernel
theorem dL_law_254 : decode cL_law 254 = .ok (.goto 151, 3) := by decide +kernel
theorem dL_law_257 : decode cL_law 257 = .ok (.aload_n 1, 1) := by decide +kernel
theorem dL_law_258 : decode cL_law 258 = .ok (.aload_n 0, 1) := by decide +kernel
theorem dL_law_259 : decode cL_law 259 = .ok (.iload 4, 2) := by decide +kernel
theorem dL_law_261 : decode cL_law 261 = .ok (.iconst 1, 1) := by decide +kernel
theorem dL_law_262 : decode cL_law 262 = .ok (.iadd, 1) := by decide +kernel
theorem dL_law_263 : decode cL_law 263 = .ok (.iaload, 1) := by decide +kernel
theorem dL_law_264 : decode cL_law 264 = .ok (.ifCond .eq 7, 3) := by decide +kernel
theorem dL_law_267 : decode cL_law 267 = .ok (.iconst 1, 1) := by decide +kernel
theorem dL_law_268 : decode cL_law 268 = .ok (.goto 4, 3) := by decide +kernel
theorem dL_law_271 : decode cL_law 271 = .ok (.iconst 0, 1) := by decide +kernel
theorem dL_law_272 : decode cL_law 272 = .ok (.invokevirtual 56, 3) := by decide +kernel
theorem dL_law_275 : decode cL_law 275 = .ok (.aload_n 2, 1) := by decide +kernel
theorem dL_law_276 : decode cL_law 276 = .ok (.aload_n 0, 1) := by decide +kernel
theorem dL_law_277 : decode cL_law 277 = .ok (.iload 4, 2) := by decide +kernel
theorem dL_law_279 : decode cL_law 279 = .ok (.iconst 1, 1) := by decide +kernel
theorem dL_law_280 : decode cL_law 280 = .ok (.iadd, 1) := by decide +kernel
theorem dL_law_281 : decode cL_law 281 = .ok (.iaload, 1) := by decide +kernel
theorem dL_law_282 : decode cL_law 282 = .ok (.ifCond .eq 7, 3) := by decide +kernel
theorem dL_law_285 : decode cL_law 285 = .ok (.iconst 1, 1) := by decide +kernel
theorem dL_law_286 : decode cL_law 286 = .ok (.goto 4, 3) := by decide +kernel
theorem dL_law_289 : decode cL_law 289 = .ok (.iconst 0, 1) := by decide +kernel
theorem dL_law_290 : decode cL_law 290 = .ok (.invokevirtual 59, 3) := by decide +kernel
theorem dL_law_293 : decode cL_law 293 = .ok (.goto 112, 3) := by decide +kernel
theorem dL_law_296 : decode cL_law 296 = .ok (.aload_n 1, 1) := by decide +kernel
theorem dL_law_297 : decode cL_law 297 = .ok (.aload_n 0, 1) := by decide +kernel
theorem dL_law_298 : decode cL_law 298 = .ok (.iload 4, 2) := by decide +kernel
theorem dL_law_300 : decode cL_law 300 = .ok (.iconst 1, 1) := by decide +kernel
theorem dL_law_301 : decode cL_law 301 = .ok (.iadd, 1) := by decide +kernel
theorem dL_law_302 : decode cL_law 302 = .ok (.iaload, 1) := by decide +kernel
theorem dL_law_303 : decode cL_law 303 = .ok (.aload_n 3, 1) := by decide +kernel
theorem dL_law_304 : decode cL_law 304 = .ok (.invokestatic 60, 3) := by decide +kernel
theorem dL_law_307 : decode cL_law 307 = .ok (.istore 5, 2) := by decide +kernel
theorem dL_law_309 : decode cL_law 309 = .ok (.aload_n 2, 1) := by decide +kernel
theorem dL_law_310 : decode cL_law 310 = .ok (.aload_n 0, 1) := by decide +kernel
theorem dL_law_311 : decode cL_law 311 = .ok (.iload 4, 2) := by decide +kernel
theorem dL_law_313 : decode cL_law 313 = .ok (.iconst 1, 1) := by decide +kernel
theorem dL_law_314 : decode cL_law 314 = .ok (.iadd, 1) := by decide +kernel
theorem dL_law_315 : decode cL_law 315 = .ok (.iaload, 1) := by decide +kernel
theorem dL_law_316 : decode cL_law 316 = .ok (.invokevirtual 62, 3) := by decide +kernel
theorem dL_law_319 : decode cL_law 319 = .ok (.istore 6, 2) := by decide +kernel
theorem dL_law_321 : decode cL_law 321 = .ok (.goto 84, 3) := by decide +kernel
theorem dL_law_324 : decode cL_law 324 = .ok (.aload_n 1, 1) := by decide +kernel
theorem dL_law_325 : decode cL_law 325 = .ok (.aload_n 0, 1) := by decide +kernel
theorem dL_law_326 : decode cL_law 326 = .ok (.iload 4, 2) := by decide +kernel
theorem dL_law_328 : decode cL_law 328 = .ok (.iconst 1, 1) := by decide +kernel
theorem dL_law_329 : decode cL_law 329 = .ok (.iadd, 1) := by decide +kernel
theorem dL_law_330 : decode cL_law 330 = .ok (.iaload, 1) := by decide +kernel
theorem dL_law_331 : decode cL_law 331 = .ok (.aload_n 3, 1) := by decide +kernel
theorem dL_law_332 : decode cL_law 332 = .ok (.invokestatic 63, 3) := by decide +kernel
theorem dL_law_335 : decode cL_law 335 = .ok (.istore 5, 2) := by decide +kernel
theorem dL_law_337 : decode cL_law 337 = .ok (.aload_n 2, 1) := by decide +kernel
theorem dL_law_338 : decode cL_law 338 = .ok (.aload_n 0, 1) := by decide +kernel
theorem dL_law_339 : decode cL_law 339 = .ok (.iload 4, 2) := by decide +kernel
theorem dL_law_341 : decode cL_law 341 = .ok (.iconst 1, 1) := by decide +kernel
theorem dL_law_342 : decode cL_law 342 = .ok (.iadd, 1) := by decide +kernel
theorem dL_law_343 : decode cL_law 343 = .ok (.iaload, 1) := by decide +kernel
theorem dL_law_344 : decode cL_law 344 = .ok (.invokevirtual 65, 3) := by decide +kernel
theorem dL_law_347 : decode cL_law 347 = .ok (.istore 6, 2) := by decide +kernel
theorem dL_law_349 : decode cL_law 349 = .ok (.goto 56, 3) := by decide +kernel
theorem dL_law_352 : decode cL_law 352 = .ok (.aload_n 1, 1) := by decide +kernel
theorem dL_law_353 : decode cL_law 353 = .ok (.aload_n 0, 1) := by decide +kernel
theorem dL_law_354 : decode cL_law 354 = .ok (.iload 4, 2) := by decide +kernel
theorem dL_law_356 : decode cL_law 356 = .ok (.iconst 1, 1) := by decide +kernel
theorem dL_law_357 : decode cL_law 357 = .ok (.iadd, 1) := by decide +kernel
theorem dL_law_358 : decode cL_law 358 = .ok (.iaload, 1) := by decide +kernel
theorem dL_law_359 : decode cL_law 359 = .ok (.aload_n 3, 1) := by decide +kernel
theorem dL_law_360 : decode cL_law 360 = .ok (.invokestatic 66, 3) := by decide +kernel
theorem dL_law_363 : decode cL_law 363 = .ok (.istore 5, 2) := by decide +kernel
theorem dL_law_365 : decode cL_law 365 = .ok (.aload_n 2, 1) := by decide +kernel
theorem dL_law_366 : decode cL_law 366 = .ok (.aload_n 0, 1) := by decide +kernel
theorem dL_law_367 : decode cL_law 367 = .ok (.iload 4, 2) := by decide +kernel
theorem dL_law_369 : decode cL_law 369 = .ok (.iconst 1, 1) := by decide +kernel
theorem dL_law_370 : decode cL_law 370 = .ok (.iadd, 1) := by decide +kernel
theorem dL_law_371 : decode cL_law 371 = .ok (.iaload, 1) := by decide +kernel
theorem dL_law_372 : decode cL_law 372 = .ok (.invokevirtual 68, 3) := by decide +kernel
theorem dL_law_375 : decode cL_law 375 = .ok (.istore 6, 2) := by decide +kernel
theorem dL_law_377 : decode cL_law 377 = .ok (.goto 28, 3) := by decide +kernel
theorem dL_law_380 : decode cL_law 380 = .ok (.aload_n 1, 1) := by decide +kernel
theorem dL_law_381 : decode cL_law 381 = .ok (.aload_n 0, 1) := by decide +kernel
theorem dL_law_382 : decode cL_law 382 = .ok (.iload 4, 2) := by decide +kernel
theorem dL_law_384 : decode cL_law 384 = .ok (.iconst 1, 1) := by decide +kernel
theorem dL_law_385 : decode cL_law 385 = .ok (.iadd, 1) := by decide +kernel
theorem dL_law_386 : decode cL_law 386 = .ok (.iaload, 1) := by decide +kernel
theorem dL_law_387 : decode cL_law 387 = .ok (.invokevirtual 69, 3) := by decide +kernel
theorem dL_law_390 : decode cL_law 390 = .ok (.pop, 1) := by decide +kernel
theorem dL_law_391 : decode cL_law 391 = .ok (.aload_n 2, 1) := by decide +kernel
theorem dL_law_392 : decode cL_law 392 = .ok (.aload_n 0, 1) := by decide +kernel
theorem dL_law_393 : decode cL_law 393 = .ok (.iload 4, 2) := by decide +kernel
theorem dL_law_395 : decode cL_law 395 = .ok (.iconst 1, 1) := by decide +kernel
theorem dL_law_396 : decode cL_law 396 = .ok (.iadd, 1) := by decide +kernel
theorem dL_law_397 : decode cL_law 397 = .ok (.iaload, 1) := by decide +kernel
theorem dL_law_398 : decode cL_law 398 = .ok (.invokevirtual 72, 3) := by decide +kernel
theorem dL_law_401 : decode cL_law 401 = .ok (.pop, 1) := by decide +kernel
theorem dL_law_402 : decode cL_law 402 = .ok (.goto 3, 3) := by decide +kernel
theorem dL_law_405 : decode cL_law 405 = .ok (.iinc 4 3, 3) := by decide +kernel
theorem dL_law_408 : decode cL_law 408 = .ok (.goto (-385), 3) := by decide +kernel
theorem dL_law_411 : decode cL_law 411 = .ok (.iconst 1, 1) := by decide +kernel
theorem dL_law_412 : decode cL_law 412 = .ok (.ireturn, 1) := by decide +kernel
set_option maxHeartbeats 4000000 in
set_option maxRecDepth 100000 in
theorem law_loop {p : Program} {l : Launch} {e : Env} {s : State} {m : MethodId} {below : List Frame} {meth : Method} {c : Code} {dC : Nat → ClassId} {dI : Nat → Nat → Nat} {bH bM bR bC jM jR jC aH aM aW aC aR iW iR aO iO b L : Nat} {xs : Nat → Int32} {Rel : Nat → St → SR → Prop} (hlt : l.stackTraces = false) (hx : p.tables.exec = Jvm.exec) (hb : c.code = cL_law) (hr : meth.sig.returnType = ret) (hml : c.maxLocals = 7) (hown : s.vm.findClass RL = some m.cls) (hB : ∀ w ∈ BIG, w.before #[Value.ref b] s = true) (hX : va_X b L xs s s.heap) (hbl : b < s.heap.size) (hlocks : meth.locks = false) (hN : NW s) (hT : TF s s.heap) (hNc : va_Nc "java/lang/IllegalStateException" "java/lang/IllegalArgumentException" s) (hKd : va_K (dC, dI) vwCl [(iW, .int), (iR, .int)] s) (hKr : va_K (dC, dI) vwCl [(jM, .int), (jR, .int), (jC, .int)] s) (hKo : va_K (dC, dI) vwCl [(iW, .int), (iR, .int), (iO, .long)] s) (hL : L ≤ 1536)
    (Rset : ∀ (j : Nat) (x : St) (y : SR) (a w : Int32), 3 * j + 3 ≤ 1536 → Rel j x y → Rel (j + 1) (fX4_set a w x).2 (fX5_set a w y).2)
    (Rput : ∀ (j : Nat) (x : St) (y : SR) (a w : Int32), 3 * j + 3 ≤ 1536 → Rel j x y → Rel (j + 1) (fX4_put a w x).2 (fX5_put a w y).2)
    (Rline : ∀ (j : Nat) (x : St) (y : SR) (b : Bool), 3 * j + 3 ≤ 1536 → Rel j x y → Rel (j + 1) (fX4_line b x) (fX5_line b y))
    (Rrun : ∀ (j : Nat) (x : St) (y : SR) (a : Int32), 3 * j + 3 ≤ 1536 → Rel j x y → (fX5_thrown (fX5_run a y).2 = (fX4_run a x).1 ∧ ((fX4_run a x).1 = 0 → (fX4_run a x).2.1 = (fX5_run a y).1)) ∧ Rel (j + 1) (fX4_run a x).2.2 (fX5_run a y).2)
    (Rreset : ∀ (j : Nat) (x : St) (y : SR) (b : Bool), 3 * j + 3 ≤ 1536 → Rel j x y → Rel (j + 1) (fX4_reset b x) (fX5_reset b y))
    (Rregister : ∀ (j : Nat) (x : St) (y : SR) (a : Int32), 3 * j + 3 ≤ 1536 → Rel j x y → Rel (j + 1) x (fX5_register a y).2)
    (Rcontrol : ∀ (j : Nat) (x : St) (y : SR) (a : Int32), 3 * j + 3 ≤ 1536 → Rel j x y → Rel (j + 1) x (fX5_control a y).2)
    (Rword : ∀ (j : Nat) (x : St) (y : SR) (a : Int32), 3 * j + 3 ≤ 1536 → Rel j x y → Rel (j + 1) x (fX5_word a y).2)
    (Rstate : ∀ (j : Nat) (x : St) (y : SR) (a : Int32), 3 * j + 3 ≤ 1536 → Rel j x y → Rel (j + 1) x (fX5_state a y).2)
    (Rdef : ∀ (j : Nat) (x : St) (y : SR), 3 * j + 3 ≤ 1536 → Rel j x y → Rel (j + 1) x y) :
    ∀ (n j : Nat), L ≤ 3 * j + 3 * n → j ≤ 512 → ∀ (x : St) (y : SR) (o : Nat → Int64) (H : Heap) (locs : List Loc) (ls : Array Slot), Rel j x y → va_P (dC, dI) vwCl (wR bH bM bR bC jM jR jC y ++ (wD aH aM aW aC aR iW iR x ++ [(aO, .inl (iO, 1, .inr (.inl o)))])) H → va_D (fun q : Nat => s.heap.size ≤ q) (wR bH bM bR bC jM jR jC y ++ (wD aH aM aW aC aR iW iR x ++ [(aO, .inl (iO, 1, .inr (.inl o)))])) → va_S (fun q : Nat => s.heap.size ≤ q) s.heap H locs → lv_has ls 7 [(0, .ref b), (1, .ref aH), (2, .ref bH), (3, .ref aO), (4, .int (nI (3 * j)))] →
      W p l e room_1 s m #[Value.ref b] below meth c H locs (10 + j) (2154 + 6 * j) (lw_Z below #[Value.ref b] s) (F0 m 23 ls []) := by
  have hA : ∀ q : Nat, s.heap.size ≤ q → (fun q : Nat => s.heap.size ≤ q) q := fun _ h => h
  have hbA : ¬ (fun q : Nat => s.heap.size ≤ q) b := Nat.not_le.mpr hbl
  have hTS : ∀ (H : Heap) (locs : List Loc), va_S (fun q : Nat => s.heap.size ≤ q) s.heap H locs → TF s H := fun H locs hS => hT.kept (fun a cell h _ => by rw [hS.2.1 a (Array.getElem?_eq_some_iff.mp h).1 (Nat.not_le.mpr (Array.getElem?_eq_some_iff.mp h).1)]; exact h)
  intro n
  induction n with
  | zero =>
    intro j h1 h2 x y o H locs ls hrel hP hD hS hl
    refine lv_iload hx hb dL_law_23 (lv_at hl 4 rfl) ?_
    refine lv_aload_n hx hb dL_law_25 rfl (lv_at hl 0 rfl) ?_
    refine va_slen hx hb hX hbl hbA hS dL_law_26 ?_
    refine lv_iconst (v := 3) hx hb dL_law_27 (by decide) ?_
    refine lv_isub hx hb dL_law_28 ?_
    refine lv_icmp_gt (tgt := 411) hx hb dL_law_29 (by decide) (fun c_T => ?_) (fun c_T => ?_)
    · refine lv_iconst (v := 1) hx hb dL_law_411 (by decide) ?_
      refine va_forget (fun q hq => hS.2.2 q hq) ?_
      exact W.widen (k := 1039) (n := 10376) (by omega) (by omega) (lw_ret hx hb hr hlocks dL_law_412)
    · exact absurd (lw_in (by omega) (by omega) c_T) (by omega)
  | succ n ih =>
    intro j h1 h2 x y o H locs ls hrel hP hD hS hl
    refine lv_iload hx hb dL_law_23 (lv_at hl 4 rfl) ?_
    refine lv_aload_n hx hb dL_law_25 rfl (lv_at hl 0 rfl) ?_
    refine va_slen hx hb hX hbl hbA hS dL_law_26 ?_
    refine lv_iconst (v := 3) hx hb dL_law_27 (by decide) ?_
    refine lv_isub hx hb dL_law_28 ?_
    refine lv_icmp_gt (tgt := 411) hx hb dL_law_29 (by decide) (fun c_T => ?_) (fun c_T => ?_)
    · refine lv_iconst (v := 1) hx hb dL_law_411 (by decide) ?_
      refine va_forget (fun q hq => hS.2.2 q hq) ?_
      exact W.widen (k := 1039) (n := 10376) (by omega) (by omega) (lw_ret hx hb hr hlocks dL_law_412)
    · have h3 := lw_in (by omega) (by omega) c_T
      have hj3 : 3 * j + 3 ≤ 1536 := by omega
      have hin0 : vp_in (nI (3 * j)) L := lw_idx (k := 0) (by omega) (by omega)
      have hin1 : vp_in ((nI (3 * j)) + (1 : Int32)) L := by rw [nI_1]; exact lw_idx (k := 1) (by omega) (by omega)
      have hin2 : vp_in ((nI (3 * j)) + (2 : Int32)) L := by
        have e9 : (nI (3 * j)) + (2 : Int32) = nI (3 * j + 2) := nI_add _ 2
        rw [e9]; exact lw_idx (k := 2) (by omega) (by omega)
      have back : ∀ (x : St) (y : SR) (o : Nat → Int64) (H : Heap) (locs : List Loc) (ls : Array Slot), Rel (j + 1) x y → va_P (dC, dI) vwCl (wR bH bM bR bC jM jR jC y ++ (wD aH aM aW aC aR iW iR x ++ [(aO, .inl (iO, 1, .inr (.inl o)))])) H → va_D (fun q : Nat => s.heap.size ≤ q) (wR bH bM bR bC jM jR jC y ++ (wD aH aM aW aC aR iW iR x ++ [(aO, .inl (iO, 1, .inr (.inl o)))])) → va_S (fun q : Nat => s.heap.size ≤ q) s.heap H locs → lv_has ls 7 [(0, .ref b), (1, .ref aH), (2, .ref bH), (3, .ref aO), (4, .int (nI (3 * j)))] →
          W p l e room_1 s m #[Value.ref b] below meth c H locs (10 + (j + 1)) (2154 + 6 * (j + 1)) (lw_Z below #[Value.ref b] s) (F0 m 405 ls []) := fun x y o H locs ls hrel hP hD hS hl => by
        refine lv_iinc (v := (nI (3 * j)) + (3 : Int32)) (lv' := [(4, .int ((nI (3 * j)) + (3 : Int32))), (0, .ref b), (1, .ref aH), (2, .ref bH), (3, .ref aO)]) hx hb dL_law_405 hl (k := 4) rfl rfl (by decide) rfl (fun ls hl => ?_)
        refine lv_goto (tgt := 23) hx hb dL_law_408 (by decide) ?_
        have e9 : (nI (3 * j)) + (3 : Int32) = nI (3 * (j + 1)) := nI_add _ 3
        rw [e9] at hl
        exact ih (j + 1) (by omega) (by omega) x y o H locs ls hrel hP hD hS (lv_sub hl [1, 2, 3, 4, 0] rfl)
      obtain ⟨a0, hv0⟩ : ∃ a, xs (nI (3 * j)).toNatClampNeg = a := ⟨_, rfl⟩
      obtain ⟨a1, hv1⟩ : ∃ a, xs ((nI (3 * j)) + (1 : Int32)).toNatClampNeg = a := ⟨_, rfl⟩
      obtain ⟨a2, hv2⟩ : ∃ a, xs ((nI (3 * j)) + (2 : Int32)).toNatClampNeg = a := ⟨_, rfl⟩
      refine lv_aload_n hx hb dL_law_32 rfl (lv_at hl 0 rfl) ?_
      refine lv_iload hx hb dL_law_33 (lv_at hl 4 rfl) ?_
      refine z_sld hx hb hX hbl hbA hS hin0 hv0 dL_law_35 ?_
      refine lv_bipush (v := 15) hx hb dL_law_36 (by decide) ?_
      refine lv_iand hx hb dL_law_38 ?_
      by_cases c_39_0 : (a0 &&& (15 : Int32)) = (0 : Int32)
      · refine lv_tableIn (off := 49) (tgt := 88) hx hb dL_law_39 (by rw [c_39_0]; decide) (by rw [c_39_0]; decide) (by rw [c_39_0]; rfl) (by decide) ?_
        refine lv_aload_n hx hb dL_law_88 rfl (lv_at hl 1 rfl) ?_
        refine lv_aload_n hx hb dL_law_89 rfl (lv_at hl 0 rfl) ?_
        refine lv_iload hx hb dL_law_90 (lv_at hl 4 rfl) ?_
        refine lv_iconst (v := 1) hx hb dL_law_92 (by decide) ?_
        refine lv_iadd hx hb dL_law_93 ?_
        refine z_sld hx hb hX hbl hbA hS hin1 hv1 dL_law_94 ?_
        refine lv_aload_n hx hb dL_law_95 rfl (lv_at hl 0 rfl) ?_
        refine lv_iload hx hb dL_law_96 (lv_at hl 4 rfl) ?_
        refine lv_iconst (v := 2) hx hb dL_law_98 (by decide) ?_
        refine lv_iadd hx hb dL_law_99 ?_
        refine z_sld hx hb hX hbl hbA hS hin2 hv2 dL_law_100 ?_
        refine k_si (w := wD aH aM aW aC aR iW iR) wD_ad (wl := wR bH bM bR bC jM jR jC y) (wr := [(aO, .inl (iO, 1, .inr (.inl o)))]) (x := x) (va_runV (As := [.int a1, .int a2]) (rest := []) ⟨hx, hb, hml, hown, hB⟩ (mX4_set l dC dI aH aM aW aC aR iW iR H.size x a1 a2) (cwV 2 hB (gV q_t1_92 q_t1_93 q_t1_94 q_t1_1 wX4_set) rfl rfl rfl hX4_set ⟨Nat.le_of_ble_eq_true rfl, Nat.le_of_ble_eq_true rfl⟩) ⟨kM_blind NW_blind, va_recv hKd (j_P (wl := wR bH bM bR bC jM jR jC y) (w := wD aH aM aW aC aR iW iR x) (wr := [(aO, .inl (iO, 1, .inr (.inl o)))]) hP) (ci := 2) (q0 := 0) rfl rfl, kM_pre NW_warm (j_P (wl := wR bH bM bR bC jM jR jC y) (w := wD aH aM aW aC aR iW iR x) (wr := [(aO, .inl (iO, 1, .inr (.inl o)))]) hP) hKd (j_D (wl := wR bH bM bR bC jM jR jC y) (w := wD aH aM aW aC aR iW iR x) (wr := [(aO, .inl (iO, 1, .inr (.inl o)))]) hD) hN⟩ rfl rfl hl.1 rfl (lv_room (Nat.le_of_ble_eq_true rfl)) dL_law_101 ⟨(by show 10 + j + 0 + 0 ≤ 1039; omega), (by show 2154 + 6 * j + 0 + 0 ≤ 10376; omega)⟩) hP hD hS hA (fun r u H locs hw hP hD hS => ?_)
        obtain ⟨rfl, rfl⟩ := hw
        refine lv_pop hx hb dL_law_104 rfl ?_
        refine lv_aload_n hx hb dL_law_105 rfl (lv_at hl 2 rfl) ?_
        refine lv_aload_n hx hb dL_law_106 rfl (lv_at hl 0 rfl) ?_
        refine lv_iload hx hb dL_law_107 (lv_at hl 4 rfl) ?_
        refine lv_iconst (v := 1) hx hb dL_law_109 (by decide) ?_
        refine lv_iadd hx hb dL_law_110 ?_
        refine z_sld hx hb hX hbl hbA hS hin1 hv1 dL_law_111 ?_
        refine lv_aload_n hx hb dL_law_112 rfl (lv_at hl 0 rfl) ?_
        refine lv_iload hx hb dL_law_113 (lv_at hl 4 rfl) ?_
        refine lv_iconst (v := 2) hx hb dL_law_115 (by decide) ?_
        refine lv_iadd hx hb dL_law_116 ?_
        refine z_sld hx hb hX hbl hbA hS hin2 hv2 dL_law_117 ?_
        refine k_si (w := wR bH bM bR bC jM jR jC) wR_ad (wl := []) (wr := (wD aH aM aW aC aR iW iR ((fX4_set a1 a2 x).2) ++ [(aO, .inl (iO, 1, .inr (.inl o)))])) (x := y) (va_runV (As := [.int a1, .int a2]) (rest := []) ⟨hx, hb, hml, hown, hB⟩ (mX5_set l dC dI bH bM bR bC jM jR jC H.size y a1 a2) (cwV 2 hB (gV q_t3_41 q_t3_42 q_t3_43 q_t1_4 wX5_set) rfl rfl rfl hX5_set ⟨Nat.le_of_ble_eq_true rfl, Nat.le_of_ble_eq_true rfl⟩) ⟨kM_blind NT_blind, va_recv hKr (j_P (wl := []) (w := wR bH bM bR bC jM jR jC y) (wr := (wD aH aM aW aC aR iW iR ((fX4_set a1 a2 x).2) ++ [(aO, .inl (iO, 1, .inr (.inl o)))])) hP) (ci := 3) (q0 := 0) rfl rfl, kM_pre NT_warm (j_P (wl := []) (w := wR bH bM bR bC jM jR jC y) (wr := (wD aH aM aW aC aR iW iR ((fX4_set a1 a2 x).2) ++ [(aO, .inl (iO, 1, .inr (.inl o)))])) hP) hKr (j_D (wl := []) (w := wR bH bM bR bC jM jR jC y) (wr := (wD aH aM aW aC aR iW iR ((fX4_set a1 a2 x).2) ++ [(aO, .inl (iO, 1, .inr (.inl o)))])) hD) trivial⟩ rfl rfl hl.1 rfl (lv_room (Nat.le_of_ble_eq_true rfl)) dL_law_118 ⟨(by show 10 + j + 0 + 0 ≤ 1039; omega), (by show 2154 + 6 * j + 0 + 0 ≤ 10376; omega)⟩) hP hD hS hA (fun r u H locs hw hP hD hS => ?_)
        obtain ⟨rfl, rfl⟩ := hw
        have r1 := Rset j x y a1 a2 hj3 hrel
        refine lv_pop hx hb dL_law_121 rfl ?_
        refine lv_goto (tgt := 405) hx hb dL_law_122 (by decide) ?_
        exact W.widen (by omega) (by omega) (back _ _ _ _ _ _ r1 hP hD hS (lv_sub hl [0, 1, 2, 3, 4] rfl))
      by_cases c_39_1 : (a0 &&& (15 : Int32)) = (1 : Int32)
      · refine lv_tableIn (off := 86) (tgt := 125) hx hb dL_law_39 (by rw [c_39_1]; decide) (by rw [c_39_1]; decide) (by rw [c_39_1]; rfl) (by decide) ?_
        refine lv_aload_n hx hb dL_law_125 rfl (lv_at hl 1 rfl) ?_
        refine lv_aload_n hx hb dL_law_126 rfl (lv_at hl 0 rfl) ?_
        refine lv_iload hx hb dL_law_127 (lv_at hl 4 rfl) ?_
        refine lv_iconst (v := 1) hx hb dL_law_129 (by decide) ?_
        refine lv_iadd hx hb dL_law_130 ?_
        refine z_sld hx hb hX hbl hbA hS hin1 hv1 dL_law_131 ?_
        refine lv_aload_n hx hb dL_law_132 rfl (lv_at hl 0 rfl) ?_
        refine lv_iload hx hb dL_law_133 (lv_at hl 4 rfl) ?_
        refine lv_iconst (v := 2) hx hb dL_law_135 (by decide) ?_
        refine lv_iadd hx hb dL_law_136 ?_
        refine z_sld hx hb hX hbl hbA hS hin2 hv2 dL_law_137 ?_
        refine k_si (w := wD aH aM aW aC aR iW iR) wD_ad (wl := wR bH bM bR bC jM jR jC y) (wr := [(aO, .inl (iO, 1, .inr (.inl o)))]) (x := x) (va_runV (As := [.int a1, .int a2]) (rest := []) ⟨hx, hb, hml, hown, hB⟩ (mX4_put l dC dI aH aM aW aC aR iW iR H.size x a1 a2) (cwV 2 hB (gV q_t1_106 q_t1_107 q_t1_108 q_t1_1 wX4_put) rfl rfl rfl hX4_put ⟨Nat.le_of_ble_eq_true rfl, Nat.le_of_ble_eq_true rfl⟩) ⟨kM_blind NW_blind, va_recv hKd (j_P (wl := wR bH bM bR bC jM jR jC y) (w := wD aH aM aW aC aR iW iR x) (wr := [(aO, .inl (iO, 1, .inr (.inl o)))]) hP) (ci := 2) (q0 := 0) rfl rfl, kM_pre NW_warm (j_P (wl := wR bH bM bR bC jM jR jC y) (w := wD aH aM aW aC aR iW iR x) (wr := [(aO, .inl (iO, 1, .inr (.inl o)))]) hP) hKd (j_D (wl := wR bH bM bR bC jM jR jC y) (w := wD aH aM aW aC aR iW iR x) (wr := [(aO, .inl (iO, 1, .inr (.inl o)))]) hD) hN⟩ rfl rfl hl.1 rfl (lv_room (Nat.le_of_ble_eq_true rfl)) dL_law_138 ⟨(by show 10 + j + 0 + 0 ≤ 1039; omega), (by show 2154 + 6 * j + 0 + 0 ≤ 10376; omega)⟩) hP hD hS hA (fun r u H locs hw hP hD hS => ?_)
        obtain ⟨rfl, rfl⟩ := hw
        refine lv_pop hx hb dL_law_141 rfl ?_
        refine lv_aload_n hx hb dL_law_142 rfl (lv_at hl 2 rfl) ?_
        refine lv_aload_n hx hb dL_law_143 rfl (lv_at hl 0 rfl) ?_
        refine lv_iload hx hb dL_law_144 (lv_at hl 4 rfl) ?_
        refine lv_iconst (v := 1) hx hb dL_law_146 (by decide) ?_
        refine lv_iadd hx hb dL_law_147 ?_
        refine z_sld hx hb hX hbl hbA hS hin1 hv1 dL_law_148 ?_
        refine lv_aload_n hx hb dL_law_149 rfl (lv_at hl 0 rfl) ?_
        refine lv_iload hx hb dL_law_150 (lv_at hl 4 rfl) ?_
        refine lv_iconst (v := 2) hx hb dL_law_152 (by decide) ?_
        refine lv_iadd hx hb dL_law_153 ?_
        refine z_sld hx hb hX hbl hbA hS hin2 hv2 dL_law_154 ?_
        refine k_si (w := wR bH bM bR bC jM jR jC) wR_ad (wl := []) (wr := (wD aH aM aW aC aR iW iR ((fX4_put a1 a2 x).2) ++ [(aO, .inl (iO, 1, .inr (.inl o)))])) (x := y) (va_runV (As := [.int a1, .int a2]) (rest := []) ⟨hx, hb, hml, hown, hB⟩ (mX5_put l dC dI bH bM bR bC jM jR jC H.size y a1 a2) (cwV 2 hB (gV q_t3_48 q_t3_49 q_t3_50 q_t1_4 wX5_put) rfl rfl rfl hX5_put ⟨Nat.le_of_ble_eq_true rfl, Nat.le_of_ble_eq_true rfl⟩) ⟨kM_blind NT_blind, va_recv hKr (j_P (wl := []) (w := wR bH bM bR bC jM jR jC y) (wr := (wD aH aM aW aC aR iW iR ((fX4_put a1 a2 x).2) ++ [(aO, .inl (iO, 1, .inr (.inl o)))])) hP) (ci := 3) (q0 := 0) rfl rfl, kM_pre NT_warm (j_P (wl := []) (w := wR bH bM bR bC jM jR jC y) (wr := (wD aH aM aW aC aR iW iR ((fX4_put a1 a2 x).2) ++ [(aO, .inl (iO, 1, .inr (.inl o)))])) hP) hKr (j_D (wl := []) (w := wR bH bM bR bC jM jR jC y) (wr := (wD aH aM aW aC aR iW iR ((fX4_put a1 a2 x).2) ++ [(aO, .inl (iO, 1, .inr (.inl o)))])) hD) trivial⟩ rfl rfl hl.1 rfl (lv_room (Nat.le_of_ble_eq_true rfl)) dL_law_155 ⟨(by show 10 + j + 0 + 0 ≤ 1039; omega), (by show 2154 + 6 * j + 0 + 0 ≤ 10376; omega)⟩) hP hD hS hA (fun r u H locs hw hP hD hS => ?_)
        obtain ⟨rfl, rfl⟩ := hw
        have r1 := Rput j x y a1 a2 hj3 hrel
        refine lv_pop hx hb dL_law_158 rfl ?_
        refine lv_goto (tgt := 405) hx hb dL_law_159 (by decide) ?_
        exact W.widen (by omega) (by omega) (back _ _ _ _ _ _ r1 hP hD hS (lv_sub hl [0, 1, 2, 3, 4] rfl))
      by_cases c_39_2 : (a0 &&& (15 : Int32)) = (2 : Int32)
      · refine lv_tableIn (off := 123) (tgt := 162) hx hb dL_law_39 (by rw [c_39_2]; decide) (by rw [c_39_2]; decide) (by rw [c_39_2]; rfl) (by decide) ?_
        refine lv_aload_n hx hb dL_law_162 rfl (lv_at hl 1 rfl) ?_
        refine lv_aload_n hx hb dL_law_163 rfl (lv_at hl 0 rfl) ?_
        refine lv_iload hx hb dL_law_164 (lv_at hl 4 rfl) ?_
        refine lv_iconst (v := 1) hx hb dL_law_166 (by decide) ?_
        refine lv_iadd hx hb dL_law_167 ?_
        refine z_sld hx hb hX hbl hbA hS hin1 hv1 dL_law_168 ?_
        refine lv_if_eq (tgt := 176) hx hb dL_law_169 (by decide) (fun c_169 => ?_) (fun c_169 => ?_)
        · refine lv_iconst (v := 0) hx hb dL_law_176 (by decide) ?_
          refine k_sv (w := wD aH aM aW aC aR iW iR) wD_ad (wl := wR bH bM bR bC jM jR jC y) (wr := [(aO, .inl (iO, 1, .inr (.inl o)))]) (x := x) (va_runV (As := [.int (0 : Int32)]) (rest := []) ⟨hx, hb, hml, hown, hB⟩ (mX4_line l dC dI aH aM aW aC aR iW iR H.size x false) (cwV 1 hB (gV q_t1_118 q_t1_119 q_t1_120 q_t1_1 wX4_line) rfl rfl rfl hX4_line ⟨Nat.le_of_ble_eq_true rfl, Nat.le_of_ble_eq_true rfl⟩) ⟨kM_blind NW_blind, va_recv hKd (j_P (wl := wR bH bM bR bC jM jR jC y) (w := wD aH aM aW aC aR iW iR x) (wr := [(aO, .inl (iO, 1, .inr (.inl o)))]) hP) (ci := 2) (q0 := 0) rfl rfl, kM_pre NW_warm (j_P (wl := wR bH bM bR bC jM jR jC y) (w := wD aH aM aW aC aR iW iR x) (wr := [(aO, .inl (iO, 1, .inr (.inl o)))]) hP) hKd (j_D (wl := wR bH bM bR bC jM jR jC y) (w := wD aH aM aW aC aR iW iR x) (wr := [(aO, .inl (iO, 1, .inr (.inl o)))]) hD) hN⟩ rfl rfl hl.1 rfl (lv_room (Nat.le_of_ble_eq_true rfl)) dL_law_177 ⟨(by show 10 + j + 0 + 0 ≤ 1039; omega), (by show 2154 + 6 * j + 0 + 0 ≤ 10376; omega)⟩) hP hD hS hA (fun u H locs hw hP hD hS => ?_)
          obtain rfl := hw
          refine lv_aload_n hx hb dL_law_180 rfl (lv_at hl 2 rfl) ?_
          refine lv_aload_n hx hb dL_law_181 rfl (lv_at hl 0 rfl) ?_
          refine lv_iload hx hb dL_law_182 (lv_at hl 4 rfl) ?_
          refine lv_iconst (v := 1) hx hb dL_law_184 (by decide) ?_
          refine lv_iadd hx hb dL_law_185 ?_
          refine z_sld hx hb hX hbl hbA hS hin1 hv1 dL_law_186 ?_
          refine lv_if_eq (tgt := 194) hx hb dL_law_187 (by decide) (fun _ => ?_) (fun h9 => absurd c_169 h9)
          refine lv_iconst (v := 0) hx hb dL_law_194 (by decide) ?_
          refine k_sv (w := wR bH bM bR bC jM jR jC) wR_ad (wl := []) (wr := (wD aH aM aW aC aR iW iR (fX4_line false x) ++ [(aO, .inl (iO, 1, .inr (.inl o)))])) (x := y) (va_runV (As := [.int (0 : Int32)]) (rest := []) ⟨hx, hb, hml, hown, hB⟩ (mX5_line l dC dI bH bM bR bC jM jR jC H.size y false) (cwV 1 hB (gV q_t3_52 q_t3_53 q_t3_54 q_t1_4 wX5_line) rfl rfl rfl hX5_line ⟨Nat.le_of_ble_eq_true rfl, Nat.le_of_ble_eq_true rfl⟩) ⟨kM_blind NT_blind, va_recv hKr (j_P (wl := []) (w := wR bH bM bR bC jM jR jC y) (wr := (wD aH aM aW aC aR iW iR (fX4_line false x) ++ [(aO, .inl (iO, 1, .inr (.inl o)))])) hP) (ci := 3) (q0 := 0) rfl rfl, kM_pre NT_warm (j_P (wl := []) (w := wR bH bM bR bC jM jR jC y) (wr := (wD aH aM aW aC aR iW iR (fX4_line false x) ++ [(aO, .inl (iO, 1, .inr (.inl o)))])) hP) hKr (j_D (wl := []) (w := wR bH bM bR bC jM jR jC y) (wr := (wD aH aM aW aC aR iW iR (fX4_line false x) ++ [(aO, .inl (iO, 1, .inr (.inl o)))])) hD) trivial⟩ rfl rfl hl.1 rfl (lv_room (Nat.le_of_ble_eq_true rfl)) dL_law_195 ⟨(by show 10 + j + 0 + 0 ≤ 1039; omega), (by show 2154 + 6 * j + 0 + 0 ≤ 10376; omega)⟩) hP hD hS hA (fun u H locs hw hP hD hS => ?_)
          obtain rfl := hw
          have r1 := Rline j x y false hj3 hrel
          refine lv_goto (tgt := 405) hx hb dL_law_198 (by decide) ?_
          exact W.widen (by omega) (by omega) (back _ _ _ _ _ _ r1 hP hD hS (lv_sub hl [0, 1, 2, 3, 4] rfl))
        · refine lv_iconst (v := 1) hx hb dL_law_172 (by decide) ?_
          refine lv_goto (tgt := 177) hx hb dL_law_173 (by decide) ?_
          refine k_sv (w := wD aH aM aW aC aR iW iR) wD_ad (wl := wR bH bM bR bC jM jR jC y) (wr := [(aO, .inl (iO, 1, .inr (.inl o)))]) (x := x) (va_runV (As := [.int (1 : Int32)]) (rest := []) ⟨hx, hb, hml, hown, hB⟩ (mX4_line l dC dI aH aM aW aC aR iW iR H.size x true) (cwV 1 hB (gV q_t1_118 q_t1_119 q_t1_120 q_t1_1 wX4_line) rfl rfl rfl hX4_line ⟨Nat.le_of_ble_eq_true rfl, Nat.le_of_ble_eq_true rfl⟩) ⟨kM_blind NW_blind, va_recv hKd (j_P (wl := wR bH bM bR bC jM jR jC y) (w := wD aH aM aW aC aR iW iR x) (wr := [(aO, .inl (iO, 1, .inr (.inl o)))]) hP) (ci := 2) (q0 := 0) rfl rfl, kM_pre NW_warm (j_P (wl := wR bH bM bR bC jM jR jC y) (w := wD aH aM aW aC aR iW iR x) (wr := [(aO, .inl (iO, 1, .inr (.inl o)))]) hP) hKd (j_D (wl := wR bH bM bR bC jM jR jC y) (w := wD aH aM aW aC aR iW iR x) (wr := [(aO, .inl (iO, 1, .inr (.inl o)))]) hD) hN⟩ rfl rfl hl.1 rfl (lv_room (Nat.le_of_ble_eq_true rfl)) dL_law_177 ⟨(by show 10 + j + 0 + 0 ≤ 1039; omega), (by show 2154 + 6 * j + 0 + 0 ≤ 10376; omega)⟩) hP hD hS hA (fun u H locs hw hP hD hS => ?_)
          obtain rfl := hw
          refine lv_aload_n hx hb dL_law_180 rfl (lv_at hl 2 rfl) ?_
          refine lv_aload_n hx hb dL_law_181 rfl (lv_at hl 0 rfl) ?_
          refine lv_iload hx hb dL_law_182 (lv_at hl 4 rfl) ?_
          refine lv_iconst (v := 1) hx hb dL_law_184 (by decide) ?_
          refine lv_iadd hx hb dL_law_185 ?_
          refine z_sld hx hb hX hbl hbA hS hin1 hv1 dL_law_186 ?_
          refine lv_if_eq (tgt := 194) hx hb dL_law_187 (by decide) (fun h9 => absurd h9 c_169) (fun _ => ?_)
          refine lv_iconst (v := 1) hx hb dL_law_190 (by decide) ?_
          refine lv_goto (tgt := 195) hx hb dL_law_191 (by decide) ?_
          refine k_sv (w := wR bH bM bR bC jM jR jC) wR_ad (wl := []) (wr := (wD aH aM aW aC aR iW iR (fX4_line true x) ++ [(aO, .inl (iO, 1, .inr (.inl o)))])) (x := y) (va_runV (As := [.int (1 : Int32)]) (rest := []) ⟨hx, hb, hml, hown, hB⟩ (mX5_line l dC dI bH bM bR bC jM jR jC H.size y true) (cwV 1 hB (gV q_t3_52 q_t3_53 q_t3_54 q_t1_4 wX5_line) rfl rfl rfl hX5_line ⟨Nat.le_of_ble_eq_true rfl, Nat.le_of_ble_eq_true rfl⟩) ⟨kM_blind NT_blind, va_recv hKr (j_P (wl := []) (w := wR bH bM bR bC jM jR jC y) (wr := (wD aH aM aW aC aR iW iR (fX4_line true x) ++ [(aO, .inl (iO, 1, .inr (.inl o)))])) hP) (ci := 3) (q0 := 0) rfl rfl, kM_pre NT_warm (j_P (wl := []) (w := wR bH bM bR bC jM jR jC y) (wr := (wD aH aM aW aC aR iW iR (fX4_line true x) ++ [(aO, .inl (iO, 1, .inr (.inl o)))])) hP) hKr (j_D (wl := []) (w := wR bH bM bR bC jM jR jC y) (wr := (wD aH aM aW aC aR iW iR (fX4_line true x) ++ [(aO, .inl (iO, 1, .inr (.inl o)))])) hD) trivial⟩ rfl rfl hl.1 rfl (lv_room (Nat.le_of_ble_eq_true rfl)) dL_law_195 ⟨(by show 10 + j + 0 + 0 ≤ 1039; omega), (by show 2154 + 6 * j + 0 + 0 ≤ 10376; omega)⟩) hP hD hS hA (fun u H locs hw hP hD hS => ?_)
          obtain rfl := hw
          have r1 := Rline j x y true hj3 hrel
          refine lv_goto (tgt := 405) hx hb dL_law_198 (by decide) ?_
          exact W.widen (by omega) (by omega) (back _ _ _ _ _ _ r1 hP hD hS (lv_sub hl [0, 1, 2, 3, 4] rfl))
      by_cases c_39_3 : (a0 &&& (15 : Int32)) = (3 : Int32)
      · refine lv_tableIn (off := 162) (tgt := 201) hx hb dL_law_39 (by rw [c_39_3]; decide) (by rw [c_39_3]; decide) (by rw [c_39_3]; rfl) (by decide) ?_
        refine lv_aload_n hx hb dL_law_201 rfl (lv_at hl 1 rfl) ?_
        refine lv_aload_n hx hb dL_law_202 rfl (lv_at hl 0 rfl) ?_
        refine lv_iload hx hb dL_law_203 (lv_at hl 4 rfl) ?_
        refine lv_iconst (v := 1) hx hb dL_law_205 (by decide) ?_
        refine lv_iadd hx hb dL_law_206 ?_
        refine z_sld hx hb hX hbl hbA hS hin1 hv1 dL_law_207 ?_
        refine lv_aload_n hx hb dL_law_208 rfl (lv_at hl 3 rfl) ?_
        refine k_si (w := wO aH aM aW aC aR iW iR aO iO) wO_ad (wl := wR bH bM bR bC jM jR jC y) (wr := []) (x := (x, o)) (z_runS (n := 3) (hh := [(0, 9, 12, 13), (0, 9, 15, 15)]) (As := [.ref aH, .int a1, .ref aO]) (rest := []) ⟨hx, hb, hml, hown, hB⟩ (mL_run l hlt dC dI aH aM aW aC aR iW iR aO iO H.size x o a1) hB wL_run List.mem_cons_self q_t1_143 q_t1_144 q_t1_0 (by decide) (by decide +kernel) rfl rfl ⟨Nat.le_of_ble_eq_true rfl, Nat.le_of_ble_eq_true rfl⟩ ⟨kL_blind, kL_pre (j_P (wl := wR bH bM bR bC jM jR jC y) (toO hP)) hKo (j_D (wl := wR bH bM bR bC jM jR jC y) (toD hD)) hN (hTS _ _ hS) hNc⟩ rfl hl.1 rfl (lv_room (Nat.le_of_ble_eq_true rfl)) dL_law_209 ⟨(by show 10 + j + 0 + 1 ≤ 1039; omega), (by show 2154 + 6 * j + 0 + 6 ≤ 10376; omega)⟩) (toO hP) (toD hD) hS hA (fun r u H locs hw hP hD hS => ?_)
        obtain ⟨rfl, rfl⟩ := hw
        have hP := frO hP
        have hD := frD hD
        refine lv_istore (lv' := [(5, .int ((fX4_run a1 x).1)), (0, .ref b), (1, .ref aH), (2, .ref bH), (3, .ref aO), (4, .int (nI (3 * j)))]) hx hb dL_law_212 hl (by decide) rfl (fun ls hl => ?_)
        refine lv_aload_n hx hb dL_law_214 rfl (lv_at hl 3 rfl) ?_
        refine lv_aload_n hx hb dL_law_215 rfl (lv_at hl 1 rfl) ?_
        refine lv_iload hx hb dL_law_216 (lv_at hl 5 rfl) ?_
        refine lv_iconst (v := 1) hx hb dL_law_218 (by decide) ?_
        refine lv_iadd hx hb dL_law_219 ?_
        refine z_sld hx hb hX hbl hbA hS hin1 hv1 dL_law_220 ?_
        refine k_si (w := wR bH bM bR bC jM jR jC) wR_ad (wl := []) (wr := (wD aH aM aW aC aR iW iR ((fX4_run a1 x).2.2) ++ [(aO, .inl (iO, 1, .inr (.inl (oS ((fX4_run a1 x).1) o ((fX4_run a1 x).2.1)))))])) (x := y) (va_runV (As := [.int a1]) (rest := []) ⟨hx, hb, hml, hown, hB⟩ (mX5_run l dC dI bH bM bR bC jM jR jC H.size y a1) (cwV 1 hB (gV q_t3_56 q_t3_57 q_t3_58 q_t1_4 wX5_run) rfl rfl rfl hX5_run ⟨Nat.le_of_ble_eq_true rfl, Nat.le_of_ble_eq_true rfl⟩) ⟨kM_blind NT_blind, va_recv hKr (j_P (wl := []) (w := wR bH bM bR bC jM jR jC y) (wr := (wD aH aM aW aC aR iW iR ((fX4_run a1 x).2.2) ++ [(aO, .inl (iO, 1, .inr (.inl (oS ((fX4_run a1 x).1) o ((fX4_run a1 x).2.1)))))])) hP) (ci := 3) (q0 := 0) rfl rfl, kM_pre NT_warm (j_P (wl := []) (w := wR bH bM bR bC jM jR jC y) (wr := (wD aH aM aW aC aR iW iR ((fX4_run a1 x).2.2) ++ [(aO, .inl (iO, 1, .inr (.inl (oS ((fX4_run a1 x).1) o ((fX4_run a1 x).2.1)))))])) hP) hKr (j_D (wl := []) (w := wR bH bM bR bC jM jR jC y) (wr := (wD aH aM aW aC aR iW iR ((fX4_run a1 x).2.2) ++ [(aO, .inl (iO, 1, .inr (.inl (oS ((fX4_run a1 x).1) o ((fX4_run a1 x).2.1)))))])) hD) trivial⟩ rfl rfl hl.1 rfl (lv_room (Nat.le_of_ble_eq_true rfl)) dL_law_221 ⟨(by show 10 + j + 1 + 0 ≤ 1039; omega), (by show 2154 + 6 * j + 6 + 0 ≤ 10376; omega)⟩) hP hD hS hA (fun r u H locs hw hP hD hS => ?_)
        obtain ⟨rfl, rfl⟩ := hw
        have r1 := Rrun j x y a1 hj3 hrel
        refine lv_istore (lv' := [(6, .int ((fX5_run a1 y).1)), (5, .int ((fX4_run a1 x).1)), (0, .ref b), (1, .ref aH), (2, .ref bH), (3, .ref aO), (4, .int (nI (3 * j)))]) hx hb dL_law_224 hl (by decide) rfl (fun ls hl => ?_)
        refine lv_aload_n hx hb dL_law_226 rfl (lv_at hl 4 rfl) ?_
        refine k_ri (va_runV (As := []) (rest := []) ⟨hx, hb, hml, hown, hB⟩ (mX5_thrown l dC dI bH bM bR bC jM jR jC ((fX5_run a1 y).2)) (cwV 0 hB (gV q_t3_37 q_t3_38 q_t3_39 q_t1_4 wX5_thrown) rfl rfl rfl hX5_thrown ⟨Nat.le_of_ble_eq_true rfl, Nat.le_of_ble_eq_true rfl⟩) ⟨kP_blind NT_blind, va_recv hKr (j_P (wl := []) (w := wR bH bM bR bC jM jR jC ((fX5_run a1 y).2)) (wr := (wD aH aM aW aC aR iW iR ((fX4_run a1 x).2.2) ++ [(aO, .inl (iO, 1, .inr (.inl (oS ((fX4_run a1 x).1) o ((fX4_run a1 x).2.1)))))])) hP) (ci := 3) (q0 := 0) rfl rfl, kP_pre NT_warm (j_P (wl := []) (w := wR bH bM bR bC jM jR jC ((fX5_run a1 y).2)) (wr := (wD aH aM aW aC aR iW iR ((fX4_run a1 x).2.2) ++ [(aO, .inl (iO, 1, .inr (.inl (oS ((fX4_run a1 x).1) o ((fX4_run a1 x).2.1)))))])) hP) hKr trivial⟩ rfl rfl hl.1 rfl (lv_room (Nat.le_of_ble_eq_true rfl)) dL_law_227 ⟨(by show 10 + j + 1 + 0 ≤ 1039; omega), (by show 2154 + 6 * j + 6 + 0 ≤ 10376; omega)⟩) ?_
        refine lv_iload hx hb dL_law_230 (lv_at hl 1 rfl) ?_
        refine lv_icmp_eq (tgt := 237) hx hb dL_law_232 (by decide) (fun c_232 => ?_) (fun c_232 => ?_)
        · refine lv_iload hx hb dL_law_237 (lv_at hl 1 rfl) ?_
          refine lv_if_ne (tgt := 254) hx hb dL_law_239 (by decide) (fun c_239 => ?_) (fun c_239 => ?_)
          · refine lv_goto (tgt := 405) hx hb dL_law_254 (by decide) ?_
            exact W.widen (by omega) (by omega) (back _ _ _ _ _ _ r1.2 hP hD hS (lv_sub hl [2, 3, 4, 5, 6] rfl))
          · refine lv_aload_n hx hb dL_law_242 rfl (lv_at hl 5 rfl) ?_
            refine lv_iconst (v := 0) hx hb dL_law_243 (by decide) ?_
            refine va_lald hx hb hKo hP 9 2 rfl rfl (by unfold vp_in; decide) dL_law_244 ?_
            refine lv_iload hx hb dL_law_245 (lv_at hl 0 rfl) ?_
            refine lv_i2l (v := ((fX5_run a1 y).1).toInt64) hx hb dL_law_247 rfl ?_
            refine W.lcmp hx hb dL_law_248 ?_
            refine lv_if_eq (tgt := 254) hx hb dL_law_249 (by decide) (fun c_249 => ?_) (fun c_249 => ?_)
            · refine lv_goto (tgt := 405) hx hb dL_law_254 (by decide) ?_
              exact W.widen (by omega) (by omega) (back _ _ _ _ _ _ r1.2 hP hD hS (lv_sub hl [2, 3, 4, 5, 6] rfl))
            · refine lv_iconst (v := 0) hx hb dL_law_252 (by decide) ?_
              exact absurd (oS_cmp c_239 (r1.1.2 c_239)) c_249
        · refine lv_iconst (v := 0) hx hb dL_law_235 (by decide) ?_
          exact absurd r1.1.1 c_232
      by_cases c_39_4 : (a0 &&& (15 : Int32)) = (4 : Int32)
      · refine lv_tableIn (off := 218) (tgt := 257) hx hb dL_law_39 (by rw [c_39_4]; decide) (by rw [c_39_4]; decide) (by rw [c_39_4]; rfl) (by decide) ?_
        refine lv_aload_n hx hb dL_law_257 rfl (lv_at hl 1 rfl) ?_
        refine lv_aload_n hx hb dL_law_258 rfl (lv_at hl 0 rfl) ?_
        refine lv_iload hx hb dL_law_259 (lv_at hl 4 rfl) ?_
        refine lv_iconst (v := 1) hx hb dL_law_261 (by decide) ?_
        refine lv_iadd hx hb dL_law_262 ?_
        refine z_sld hx hb hX hbl hbA hS hin1 hv1 dL_law_263 ?_
        refine lv_if_eq (tgt := 271) hx hb dL_law_264 (by decide) (fun c_264 => ?_) (fun c_264 => ?_)
        · refine lv_iconst (v := 0) hx hb dL_law_271 (by decide) ?_
          refine k_sv (w := wD aH aM aW aC aR iW iR) wD_ad (wl := wR bH bM bR bC jM jR jC y) (wr := [(aO, .inl (iO, 1, .inr (.inl o)))]) (x := x) (va_runV (As := [.int (0 : Int32)]) (rest := []) ⟨hx, hb, hml, hown, hB⟩ (mX4_reset l dC dI aH aM aW aC aR iW iR H.size x false) (cwV 1 hB (gV q_t1_122 q_t1_123 q_t1_124 q_t1_1 wX4_reset) rfl rfl rfl hX4_reset ⟨Nat.le_of_ble_eq_true rfl, Nat.le_of_ble_eq_true rfl⟩) ⟨kM_blind NW_blind, va_recv hKd (j_P (wl := wR bH bM bR bC jM jR jC y) (w := wD aH aM aW aC aR iW iR x) (wr := [(aO, .inl (iO, 1, .inr (.inl o)))]) hP) (ci := 2) (q0 := 0) rfl rfl, kM_pre NW_warm (j_P (wl := wR bH bM bR bC jM jR jC y) (w := wD aH aM aW aC aR iW iR x) (wr := [(aO, .inl (iO, 1, .inr (.inl o)))]) hP) hKd (j_D (wl := wR bH bM bR bC jM jR jC y) (w := wD aH aM aW aC aR iW iR x) (wr := [(aO, .inl (iO, 1, .inr (.inl o)))]) hD) hN⟩ rfl rfl hl.1 rfl (lv_room (Nat.le_of_ble_eq_true rfl)) dL_law_272 ⟨(by show 10 + j + 0 + 0 ≤ 1039; omega), (by show 2154 + 6 * j + 0 + 0 ≤ 10376; omega)⟩) hP hD hS hA (fun u H locs hw hP hD hS => ?_)
          obtain rfl := hw
          refine lv_aload_n hx hb dL_law_275 rfl (lv_at hl 2 rfl) ?_
          refine lv_aload_n hx hb dL_law_276 rfl (lv_at hl 0 rfl) ?_
          refine lv_iload hx hb dL_law_277 (lv_at hl 4 rfl) ?_
          refine lv_iconst (v := 1) hx hb dL_law_279 (by decide) ?_
          refine lv_iadd hx hb dL_law_280 ?_
          refine z_sld hx hb hX hbl hbA hS hin1 hv1 dL_law_281 ?_
          refine lv_if_eq (tgt := 289) hx hb dL_law_282 (by decide) (fun _ => ?_) (fun h9 => absurd c_264 h9)
          refine lv_iconst (v := 0) hx hb dL_law_289 (by decide) ?_
          refine k_sv (w := wR bH bM bR bC jM jR jC) wR_ad (wl := []) (wr := (wD aH aM aW aC aR iW iR (fX4_reset false x) ++ [(aO, .inl (iO, 1, .inr (.inl o)))])) (x := y) (va_runV (As := [.int (0 : Int32)]) (rest := []) ⟨hx, hb, hml, hown, hB⟩ (mX5_reset l dC dI bH bM bR bC jM jR jC H.size y false) (cwV 1 hB (gV q_t3_186 q_t3_187 q_t3_188 q_t1_4 wX5_reset) rfl rfl rfl hX5_reset ⟨Nat.le_of_ble_eq_true rfl, Nat.le_of_ble_eq_true rfl⟩) ⟨kM_blind NT_blind, va_recv hKr (j_P (wl := []) (w := wR bH bM bR bC jM jR jC y) (wr := (wD aH aM aW aC aR iW iR (fX4_reset false x) ++ [(aO, .inl (iO, 1, .inr (.inl o)))])) hP) (ci := 3) (q0 := 0) rfl rfl, kM_pre NT_warm (j_P (wl := []) (w := wR bH bM bR bC jM jR jC y) (wr := (wD aH aM aW aC aR iW iR (fX4_reset false x) ++ [(aO, .inl (iO, 1, .inr (.inl o)))])) hP) hKr (j_D (wl := []) (w := wR bH bM bR bC jM jR jC y) (wr := (wD aH aM aW aC aR iW iR (fX4_reset false x) ++ [(aO, .inl (iO, 1, .inr (.inl o)))])) hD) trivial⟩ rfl rfl hl.1 rfl (lv_room (Nat.le_of_ble_eq_true rfl)) dL_law_290 ⟨(by show 10 + j + 0 + 0 ≤ 1039; omega), (by show 2154 + 6 * j + 0 + 0 ≤ 10376; omega)⟩) hP hD hS hA (fun u H locs hw hP hD hS => ?_)
          obtain rfl := hw
          have r1 := Rreset j x y false hj3 hrel
          refine lv_goto (tgt := 405) hx hb dL_law_293 (by decide) ?_
          exact W.widen (by omega) (by omega) (back _ _ _ _ _ _ r1 hP hD hS (lv_sub hl [0, 1, 2, 3, 4] rfl))
        · refine lv_iconst (v := 1) hx hb dL_law_267 (by decide) ?_
          refine lv_goto (tgt := 272) hx hb dL_law_268 (by decide) ?_
          refine k_sv (w := wD aH aM aW aC aR iW iR) wD_ad (wl := wR bH bM bR bC jM jR jC y) (wr := [(aO, .inl (iO, 1, .inr (.inl o)))]) (x := x) (va_runV (As := [.int (1 : Int32)]) (rest := []) ⟨hx, hb, hml, hown, hB⟩ (mX4_reset l dC dI aH aM aW aC aR iW iR H.size x true) (cwV 1 hB (gV q_t1_122 q_t1_123 q_t1_124 q_t1_1 wX4_reset) rfl rfl rfl hX4_reset ⟨Nat.le_of_ble_eq_true rfl, Nat.le_of_ble_eq_true rfl⟩) ⟨kM_blind NW_blind, va_recv hKd (j_P (wl := wR bH bM bR bC jM jR jC y) (w := wD aH aM aW aC aR iW iR x) (wr := [(aO, .inl (iO, 1, .inr (.inl o)))]) hP) (ci := 2) (q0 := 0) rfl rfl, kM_pre NW_warm (j_P (wl := wR bH bM bR bC jM jR jC y) (w := wD aH aM aW aC aR iW iR x) (wr := [(aO, .inl (iO, 1, .inr (.inl o)))]) hP) hKd (j_D (wl := wR bH bM bR bC jM jR jC y) (w := wD aH aM aW aC aR iW iR x) (wr := [(aO, .inl (iO, 1, .inr (.inl o)))]) hD) hN⟩ rfl rfl hl.1 rfl (lv_room (Nat.le_of_ble_eq_true rfl)) dL_law_272 ⟨(by show 10 + j + 0 + 0 ≤ 1039; omega), (by show 2154 + 6 * j + 0 + 0 ≤ 10376; omega)⟩) hP hD hS hA (fun u H locs hw hP hD hS => ?_)
          obtain rfl := hw
          refine lv_aload_n hx hb dL_law_275 rfl (lv_at hl 2 rfl) ?_
          refine lv_aload_n hx hb dL_law_276 rfl (lv_at hl 0 rfl) ?_
          refine lv_iload hx hb dL_law_277 (lv_at hl 4 rfl) ?_
          refine lv_iconst (v := 1) hx hb dL_law_279 (by decide) ?_
          refine lv_iadd hx hb dL_law_280 ?_
          refine z_sld hx hb hX hbl hbA hS hin1 hv1 dL_law_281 ?_
          refine lv_if_eq (tgt := 289) hx hb dL_law_282 (by decide) (fun h9 => absurd h9 c_264) (fun _ => ?_)
          refine lv_iconst (v := 1) hx hb dL_law_285 (by decide) ?_
          refine lv_goto (tgt := 290) hx hb dL_law_286 (by decide) ?_
          refine k_sv (w := wR bH bM bR bC jM jR jC) wR_ad (wl := []) (wr := (wD aH aM aW aC aR iW iR (fX4_reset true x) ++ [(aO, .inl (iO, 1, .inr (.inl o)))])) (x := y) (va_runV (As := [.int (1 : Int32)]) (rest := []) ⟨hx, hb, hml, hown, hB⟩ (mX5_reset l dC dI bH bM bR bC jM jR jC H.size y true) (cwV 1 hB (gV q_t3_186 q_t3_187 q_t3_188 q_t1_4 wX5_reset) rfl rfl rfl hX5_reset ⟨Nat.le_of_ble_eq_true rfl, Nat.le_of_ble_eq_true rfl⟩) ⟨kM_blind NT_blind, va_recv hKr (j_P (wl := []) (w := wR bH bM bR bC jM jR jC y) (wr := (wD aH aM aW aC aR iW iR (fX4_reset true x) ++ [(aO, .inl (iO, 1, .inr (.inl o)))])) hP) (ci := 3) (q0 := 0) rfl rfl, kM_pre NT_warm (j_P (wl := []) (w := wR bH bM bR bC jM jR jC y) (wr := (wD aH aM aW aC aR iW iR (fX4_reset true x) ++ [(aO, .inl (iO, 1, .inr (.inl o)))])) hP) hKr (j_D (wl := []) (w := wR bH bM bR bC jM jR jC y) (wr := (wD aH aM aW aC aR iW iR (fX4_reset true x) ++ [(aO, .inl (iO, 1, .inr (.inl o)))])) hD) trivial⟩ rfl rfl hl.1 rfl (lv_room (Nat.le_of_ble_eq_true rfl)) dL_law_290 ⟨(by show 10 + j + 0 + 0 ≤ 1039; omega), (by show 2154 + 6 * j + 0 + 0 ≤ 10376; omega)⟩) hP hD hS hA (fun u H locs hw hP hD hS => ?_)
          obtain rfl := hw
          have r1 := Rreset j x y true hj3 hrel
          refine lv_goto (tgt := 405) hx hb dL_law_293 (by decide) ?_
          exact W.widen (by omega) (by omega) (back _ _ _ _ _ _ r1 hP hD hS (lv_sub hl [0, 1, 2, 3, 4] rfl))
      by_cases c_39_5 : (a0 &&& (15 : Int32)) = (5 : Int32)
      · refine lv_tableIn (off := 257) (tgt := 296) hx hb dL_law_39 (by rw [c_39_5]; decide) (by rw [c_39_5]; decide) (by rw [c_39_5]; rfl) (by decide) ?_
        refine lv_aload_n hx hb dL_law_296 rfl (lv_at hl 1 rfl) ?_
        refine lv_aload_n hx hb dL_law_297 rfl (lv_at hl 0 rfl) ?_
        refine lv_iload hx hb dL_law_298 (lv_at hl 4 rfl) ?_
        refine lv_iconst (v := 1) hx hb dL_law_300 (by decide) ?_
        refine lv_iadd hx hb dL_law_301 ?_
        refine z_sld hx hb hX hbl hbA hS hin1 hv1 dL_law_302 ?_
        refine lv_aload_n hx hb dL_law_303 rfl (lv_at hl 3 rfl) ?_
        refine k_si (w := wO aH aM aW aC aR iW iR aO iO) wO_ad (wl := wR bH bM bR bC jM jR jC y) (wr := []) (x := (x, o)) (z_runS (n := 3) (hh := [(0, 9, 12, 20)]) (As := [.ref aH, .int a1, .ref aO]) (rest := []) ⟨hx, hb, hml, hown, hB⟩ (mL_register l hlt dC dI aH aM aW aC aR iW iR aO iO H.size x o a1) hB wL_register List.mem_cons_self q_t2_185 q_t2_186 q_t1_0 (by decide) (by decide +kernel) rfl rfl ⟨Nat.le_of_ble_eq_true rfl, Nat.le_of_ble_eq_true rfl⟩ ⟨kL_blind, kL_pre (j_P (wl := wR bH bM bR bC jM jR jC y) (toO hP)) hKo (j_D (wl := wR bH bM bR bC jM jR jC y) (toD hD)) hN (hTS _ _ hS) hNc⟩ rfl hl.1 rfl (lv_room (Nat.le_of_ble_eq_true rfl)) dL_law_304 ⟨(by show 10 + j + 0 + 1 ≤ 1039; omega), (by show 2154 + 6 * j + 0 + 6 ≤ 10376; omega)⟩) (toO hP) (toD hD) hS hA (fun r u H locs hw hP hD hS => ?_)
        obtain ⟨rfl, rfl⟩ := hw
        have hP := frO hP
        have hD := frD hD
        refine lv_istore (lv' := [(5, .int (cb (okfX4_register a1 x))), (0, .ref b), (1, .ref aH), (2, .ref bH), (3, .ref aO), (4, .int (nI (3 * j)))]) hx hb dL_law_307 hl (by decide) rfl (fun ls hl => ?_)
        refine lv_aload_n hx hb dL_law_309 rfl (lv_at hl 3 rfl) ?_
        refine lv_aload_n hx hb dL_law_310 rfl (lv_at hl 1 rfl) ?_
        refine lv_iload hx hb dL_law_311 (lv_at hl 5 rfl) ?_
        refine lv_iconst (v := 1) hx hb dL_law_313 (by decide) ?_
        refine lv_iadd hx hb dL_law_314 ?_
        refine z_sld hx hb hX hbl hbA hS hin1 hv1 dL_law_315 ?_
        refine k_si (w := wR bH bM bR bC jM jR jC) wR_ad (wl := []) (wr := (wD aH aM aW aC aR iW iR x ++ [(aO, .inl (iO, 1, .inr (.inl (oS (cb (okfX4_register a1 x)) o (fX4_register a1 x)))))])) (x := y) (va_runV (As := [.int a1]) (rest := []) ⟨hx, hb, hml, hown, hB⟩ (mX5_register l dC dI bH bM bR bC jM jR jC H.size y a1) (cwV 1 hB (gV q_t3_190 q_t3_191 q_t3_192 q_t1_4 wX5_register) rfl rfl rfl hX5_register ⟨Nat.le_of_ble_eq_true rfl, Nat.le_of_ble_eq_true rfl⟩) ⟨kM_blind NT_blind, va_recv hKr (j_P (wl := []) (w := wR bH bM bR bC jM jR jC y) (wr := (wD aH aM aW aC aR iW iR x ++ [(aO, .inl (iO, 1, .inr (.inl (oS (cb (okfX4_register a1 x)) o (fX4_register a1 x)))))])) hP) (ci := 3) (q0 := 0) rfl rfl, kM_pre NT_warm (j_P (wl := []) (w := wR bH bM bR bC jM jR jC y) (wr := (wD aH aM aW aC aR iW iR x ++ [(aO, .inl (iO, 1, .inr (.inl (oS (cb (okfX4_register a1 x)) o (fX4_register a1 x)))))])) hP) hKr (j_D (wl := []) (w := wR bH bM bR bC jM jR jC y) (wr := (wD aH aM aW aC aR iW iR x ++ [(aO, .inl (iO, 1, .inr (.inl (oS (cb (okfX4_register a1 x)) o (fX4_register a1 x)))))])) hD) trivial⟩ rfl rfl hl.1 rfl (lv_room (Nat.le_of_ble_eq_true rfl)) dL_law_316 ⟨(by show 10 + j + 1 + 0 ≤ 1039; omega), (by show 2154 + 6 * j + 6 + 0 ≤ 10376; omega)⟩) hP hD hS hA (fun r u H locs hw hP hD hS => ?_)
        obtain ⟨rfl, rfl⟩ := hw
        have r1 := Rregister j x y a1 hj3 hrel
        refine lv_istore (lv' := [(6, .int ((fX5_register a1 y).1)), (5, .int (cb (okfX4_register a1 x))), (0, .ref b), (1, .ref aH), (2, .ref bH), (3, .ref aO), (4, .int (nI (3 * j)))]) hx hb dL_law_319 hl (by decide) rfl (fun ls hl => ?_)
        refine lv_goto (tgt := 405) hx hb dL_law_321 (by decide) ?_
        exact W.widen (by omega) (by omega) (back _ _ _ _ _ _ r1 hP hD hS (lv_sub hl [2, 3, 4, 5, 6] rfl))
      by_cases c_39_6 : (a0 &&& (15 : Int32)) = (6 : Int32)
      · refine lv_tableIn (off := 285) (tgt := 324) hx hb dL_law_39 (by rw [c_39_6]; decide) (by rw [c_39_6]; decide) (by rw [c_39_6]; rfl) (by decide) ?_
        refine lv_aload_n hx hb dL_law_324 rfl (lv_at hl 1 rfl) ?_
        refine lv_aload_n hx hb dL_law_325 rfl (lv_at hl 0 rfl) ?_
        refine lv_iload hx hb dL_law_326 (lv_at hl 4 rfl) ?_
        refine lv_iconst (v := 1) hx hb dL_law_328 (by decide) ?_
        refine lv_iadd hx hb dL_law_329 ?_
        refine z_sld hx hb hX hbl hbA hS hin1 hv1 dL_law_330 ?_
        refine lv_aload_n hx hb dL_law_331 rfl (lv_at hl 3 rfl) ?_
        refine k_si (w := wO aH aM aW aC aR iW iR aO iO) wO_ad (wl := wR bH bM bR bC jM jR jC y) (wr := []) (x := (x, o)) (z_runS (n := 3) (hh := [(0, 9, 12, 20)]) (As := [.ref aH, .int a1, .ref aO]) (rest := []) ⟨hx, hb, hml, hown, hB⟩ (mL_control l hlt dC dI aH aM aW aC aR iW iR aO iO H.size x o a1) hB wL_control List.mem_cons_self q_t2_209 q_t2_210 q_t1_0 (by decide) (by decide +kernel) rfl rfl ⟨Nat.le_of_ble_eq_true rfl, Nat.le_of_ble_eq_true rfl⟩ ⟨kL_blind, kL_pre (j_P (wl := wR bH bM bR bC jM jR jC y) (toO hP)) hKo (j_D (wl := wR bH bM bR bC jM jR jC y) (toD hD)) hN (hTS _ _ hS) hNc⟩ rfl hl.1 rfl (lv_room (Nat.le_of_ble_eq_true rfl)) dL_law_332 ⟨(by show 10 + j + 0 + 1 ≤ 1039; omega), (by show 2154 + 6 * j + 0 + 6 ≤ 10376; omega)⟩) (toO hP) (toD hD) hS hA (fun r u H locs hw hP hD hS => ?_)
        obtain ⟨rfl, rfl⟩ := hw
        have hP := frO hP
        have hD := frD hD
        refine lv_istore (lv' := [(5, .int (cb (okfX4_control a1 x))), (0, .ref b), (1, .ref aH), (2, .ref bH), (3, .ref aO), (4, .int (nI (3 * j)))]) hx hb dL_law_335 hl (by decide) rfl (fun ls hl => ?_)
        refine lv_aload_n hx hb dL_law_337 rfl (lv_at hl 3 rfl) ?_
        refine lv_aload_n hx hb dL_law_338 rfl (lv_at hl 1 rfl) ?_
        refine lv_iload hx hb dL_law_339 (lv_at hl 5 rfl) ?_
        refine lv_iconst (v := 1) hx hb dL_law_341 (by decide) ?_
        refine lv_iadd hx hb dL_law_342 ?_
        refine z_sld hx hb hX hbl hbA hS hin1 hv1 dL_law_343 ?_
        refine k_si (w := wR bH bM bR bC jM jR jC) wR_ad (wl := []) (wr := (wD aH aM aW aC aR iW iR x ++ [(aO, .inl (iO, 1, .inr (.inl (oS (cb (okfX4_control a1 x)) o (fX4_control a1 x)))))])) (x := y) (va_runV (As := [.int a1]) (rest := []) ⟨hx, hb, hml, hown, hB⟩ (mX5_control l dC dI bH bM bR bC jM jR jC H.size y a1) (cwV 1 hB (gV q_t3_194 q_t3_195 q_t3_196 q_t1_4 wX5_control) rfl rfl rfl hX5_control ⟨Nat.le_of_ble_eq_true rfl, Nat.le_of_ble_eq_true rfl⟩) ⟨kM_blind NT_blind, va_recv hKr (j_P (wl := []) (w := wR bH bM bR bC jM jR jC y) (wr := (wD aH aM aW aC aR iW iR x ++ [(aO, .inl (iO, 1, .inr (.inl (oS (cb (okfX4_control a1 x)) o (fX4_control a1 x)))))])) hP) (ci := 3) (q0 := 0) rfl rfl, kM_pre NT_warm (j_P (wl := []) (w := wR bH bM bR bC jM jR jC y) (wr := (wD aH aM aW aC aR iW iR x ++ [(aO, .inl (iO, 1, .inr (.inl (oS (cb (okfX4_control a1 x)) o (fX4_control a1 x)))))])) hP) hKr (j_D (wl := []) (w := wR bH bM bR bC jM jR jC y) (wr := (wD aH aM aW aC aR iW iR x ++ [(aO, .inl (iO, 1, .inr (.inl (oS (cb (okfX4_control a1 x)) o (fX4_control a1 x)))))])) hD) trivial⟩ rfl rfl hl.1 rfl (lv_room (Nat.le_of_ble_eq_true rfl)) dL_law_344 ⟨(by show 10 + j + 1 + 0 ≤ 1039; omega), (by show 2154 + 6 * j + 6 + 0 ≤ 10376; omega)⟩) hP hD hS hA (fun r u H locs hw hP hD hS => ?_)
        obtain ⟨rfl, rfl⟩ := hw
        have r1 := Rcontrol j x y a1 hj3 hrel
        refine lv_istore (lv' := [(6, .int ((fX5_control a1 y).1)), (5, .int (cb (okfX4_control a1 x))), (0, .ref b), (1, .ref aH), (2, .ref bH), (3, .ref aO), (4, .int (nI (3 * j)))]) hx hb dL_law_347 hl (by decide) rfl (fun ls hl => ?_)
        refine lv_goto (tgt := 405) hx hb dL_law_349 (by decide) ?_
        exact W.widen (by omega) (by omega) (back _ _ _ _ _ _ r1 hP hD hS (lv_sub hl [2, 3, 4, 5, 6] rfl))
      by_cases c_39_7 : (a0 &&& (15 : Int32)) = (7 : Int32)
      · refine lv_tableIn (off := 313) (tgt := 352) hx hb dL_law_39 (by rw [c_39_7]; decide) (by rw [c_39_7]; decide) (by rw [c_39_7]; rfl) (by decide) ?_
        refine lv_aload_n hx hb dL_law_352 rfl (lv_at hl 1 rfl) ?_
        refine lv_aload_n hx hb dL_law_353 rfl (lv_at hl 0 rfl) ?_
        refine lv_iload hx hb dL_law_354 (lv_at hl 4 rfl) ?_
        refine lv_iconst (v := 1) hx hb dL_law_356 (by decide) ?_
        refine lv_iadd hx hb dL_law_357 ?_
        refine z_sld hx hb hX hbl hbA hS hin1 hv1 dL_law_358 ?_
        refine lv_aload_n hx hb dL_law_359 rfl (lv_at hl 3 rfl) ?_
        refine k_si (w := wO aH aM aW aC aR iW iR aO iO) wO_ad (wl := wR bH bM bR bC jM jR jC y) (wr := []) (x := (x, o)) (z_runS (n := 3) (hh := [(0, 9, 12, 20)]) (As := [.ref aH, .int a1, .ref aO]) (rest := []) ⟨hx, hb, hml, hown, hB⟩ (mL_word l hlt dC dI aH aM aW aC aR iW iR aO iO H.size x o a1) hB wL_word List.mem_cons_self q_t2_217 q_t2_218 q_t1_0 (by decide) (by decide +kernel) rfl rfl ⟨Nat.le_of_ble_eq_true rfl, Nat.le_of_ble_eq_true rfl⟩ ⟨kL_blind, kL_pre (j_P (wl := wR bH bM bR bC jM jR jC y) (toO hP)) hKo (j_D (wl := wR bH bM bR bC jM jR jC y) (toD hD)) hN (hTS _ _ hS) hNc⟩ rfl hl.1 rfl (lv_room (Nat.le_of_ble_eq_true rfl)) dL_law_360 ⟨(by show 10 + j + 0 + 1 ≤ 1039; omega), (by show 2154 + 6 * j + 0 + 6 ≤ 10376; omega)⟩) (toO hP) (toD hD) hS hA (fun r u H locs hw hP hD hS => ?_)
        obtain ⟨rfl, rfl⟩ := hw
        have hP := frO hP
        have hD := frD hD
        refine lv_istore (lv' := [(5, .int (cb (okfX4_word a1 x))), (0, .ref b), (1, .ref aH), (2, .ref bH), (3, .ref aO), (4, .int (nI (3 * j)))]) hx hb dL_law_363 hl (by decide) rfl (fun ls hl => ?_)
        refine lv_aload_n hx hb dL_law_365 rfl (lv_at hl 3 rfl) ?_
        refine lv_aload_n hx hb dL_law_366 rfl (lv_at hl 1 rfl) ?_
        refine lv_iload hx hb dL_law_367 (lv_at hl 5 rfl) ?_
        refine lv_iconst (v := 1) hx hb dL_law_369 (by decide) ?_
        refine lv_iadd hx hb dL_law_370 ?_
        refine z_sld hx hb hX hbl hbA hS hin1 hv1 dL_law_371 ?_
        refine k_si (w := wR bH bM bR bC jM jR jC) wR_ad (wl := []) (wr := (wD aH aM aW aC aR iW iR x ++ [(aO, .inl (iO, 1, .inr (.inl (oS (cb (okfX4_word a1 x)) o (fX4_word a1 x)))))])) (x := y) (va_runV (As := [.int a1]) (rest := []) ⟨hx, hb, hml, hown, hB⟩ (mX5_word l dC dI bH bM bR bC jM jR jC H.size y a1) (cwV 1 hB (gV q_t3_198 q_t3_199 q_t3_200 q_t1_4 wX5_word) rfl rfl rfl hX5_word ⟨Nat.le_of_ble_eq_true rfl, Nat.le_of_ble_eq_true rfl⟩) ⟨kM_blind NT_blind, va_recv hKr (j_P (wl := []) (w := wR bH bM bR bC jM jR jC y) (wr := (wD aH aM aW aC aR iW iR x ++ [(aO, .inl (iO, 1, .inr (.inl (oS (cb (okfX4_word a1 x)) o (fX4_word a1 x)))))])) hP) (ci := 3) (q0 := 0) rfl rfl, kM_pre NT_warm (j_P (wl := []) (w := wR bH bM bR bC jM jR jC y) (wr := (wD aH aM aW aC aR iW iR x ++ [(aO, .inl (iO, 1, .inr (.inl (oS (cb (okfX4_word a1 x)) o (fX4_word a1 x)))))])) hP) hKr (j_D (wl := []) (w := wR bH bM bR bC jM jR jC y) (wr := (wD aH aM aW aC aR iW iR x ++ [(aO, .inl (iO, 1, .inr (.inl (oS (cb (okfX4_word a1 x)) o (fX4_word a1 x)))))])) hD) trivial⟩ rfl rfl hl.1 rfl (lv_room (Nat.le_of_ble_eq_true rfl)) dL_law_372 ⟨(by show 10 + j + 1 + 0 ≤ 1039; omega), (by show 2154 + 6 * j + 6 + 0 ≤ 10376; omega)⟩) hP hD hS hA (fun r u H locs hw hP hD hS => ?_)
        obtain ⟨rfl, rfl⟩ := hw
        have r1 := Rword j x y a1 hj3 hrel
        refine lv_istore (lv' := [(6, .int ((fX5_word a1 y).1)), (5, .int (cb (okfX4_word a1 x))), (0, .ref b), (1, .ref aH), (2, .ref bH), (3, .ref aO), (4, .int (nI (3 * j)))]) hx hb dL_law_375 hl (by decide) rfl (fun ls hl => ?_)
        refine lv_goto (tgt := 405) hx hb dL_law_377 (by decide) ?_
        exact W.widen (by omega) (by omega) (back _ _ _ _ _ _ r1 hP hD hS (lv_sub hl [2, 3, 4, 5, 6] rfl))
      by_cases c_39_8 : (a0 &&& (15 : Int32)) = (8 : Int32)
      · refine lv_tableIn (off := 341) (tgt := 380) hx hb dL_law_39 (by rw [c_39_8]; decide) (by rw [c_39_8]; decide) (by rw [c_39_8]; rfl) (by decide) ?_
        refine lv_aload_n hx hb dL_law_380 rfl (lv_at hl 1 rfl) ?_
        refine lv_aload_n hx hb dL_law_381 rfl (lv_at hl 0 rfl) ?_
        refine lv_iload hx hb dL_law_382 (lv_at hl 4 rfl) ?_
        refine lv_iconst (v := 1) hx hb dL_law_384 (by decide) ?_
        refine lv_iadd hx hb dL_law_385 ?_
        refine z_sld hx hb hX hbl hbA hS hin1 hv1 dL_law_386 ?_
        refine k_ri (va_runV (As := [.int a1]) (rest := []) ⟨hx, hb, hml, hown, hB⟩ (mX4_state l dC dI aH aM aW aC aR iW iR x a1) (cwV 1 hB (gV q_t1_138 q_t1_139 q_t1_140 q_t1_1 wX4_state) rfl rfl rfl hX4_state ⟨Nat.le_of_ble_eq_true rfl, Nat.le_of_ble_eq_true rfl⟩) ⟨kP_blind NW_blind, va_recv hKd (j_P (wl := wR bH bM bR bC jM jR jC y) (w := wD aH aM aW aC aR iW iR x) (wr := [(aO, .inl (iO, 1, .inr (.inl o)))]) hP) (ci := 2) (q0 := 0) rfl rfl, kP_pre NW_warm (j_P (wl := wR bH bM bR bC jM jR jC y) (w := wD aH aM aW aC aR iW iR x) (wr := [(aO, .inl (iO, 1, .inr (.inl o)))]) hP) hKd hN⟩ rfl rfl hl.1 rfl (lv_room (Nat.le_of_ble_eq_true rfl)) dL_law_387 ⟨(by show 10 + j + 0 + 0 ≤ 1039; omega), (by show 2154 + 6 * j + 0 + 0 ≤ 10376; omega)⟩) ?_
        refine lv_pop hx hb dL_law_390 rfl ?_
        refine lv_aload_n hx hb dL_law_391 rfl (lv_at hl 2 rfl) ?_
        refine lv_aload_n hx hb dL_law_392 rfl (lv_at hl 0 rfl) ?_
        refine lv_iload hx hb dL_law_393 (lv_at hl 4 rfl) ?_
        refine lv_iconst (v := 1) hx hb dL_law_395 (by decide) ?_
        refine lv_iadd hx hb dL_law_396 ?_
        refine z_sld hx hb hX hbl hbA hS hin1 hv1 dL_law_397 ?_
        refine k_si (w := wR bH bM bR bC jM jR jC) wR_ad (wl := []) (wr := (wD aH aM aW aC aR iW iR x ++ [(aO, .inl (iO, 1, .inr (.inl o)))])) (x := y) (va_runV (As := [.int a1]) (rest := []) ⟨hx, hb, hml, hown, hB⟩ (mX5_state l dC dI bH bM bR bC jM jR jC H.size y a1) (cwV 1 hB (gV q_t3_202 q_t3_203 q_t3_204 q_t1_4 wX5_state) rfl rfl rfl hX5_state ⟨Nat.le_of_ble_eq_true rfl, Nat.le_of_ble_eq_true rfl⟩) ⟨kM_blind NT_blind, va_recv hKr (j_P (wl := []) (w := wR bH bM bR bC jM jR jC y) (wr := (wD aH aM aW aC aR iW iR x ++ [(aO, .inl (iO, 1, .inr (.inl o)))])) hP) (ci := 3) (q0 := 0) rfl rfl, kM_pre NT_warm (j_P (wl := []) (w := wR bH bM bR bC jM jR jC y) (wr := (wD aH aM aW aC aR iW iR x ++ [(aO, .inl (iO, 1, .inr (.inl o)))])) hP) hKr (j_D (wl := []) (w := wR bH bM bR bC jM jR jC y) (wr := (wD aH aM aW aC aR iW iR x ++ [(aO, .inl (iO, 1, .inr (.inl o)))])) hD) trivial⟩ rfl rfl hl.1 rfl (lv_room (Nat.le_of_ble_eq_true rfl)) dL_law_398 ⟨(by show 10 + j + 0 + 0 ≤ 1039; omega), (by show 2154 + 6 * j + 0 + 0 ≤ 10376; omega)⟩) hP hD hS hA (fun r u H locs hw hP hD hS => ?_)
        obtain ⟨rfl, rfl⟩ := hw
        have r1 := Rstate j x y a1 hj3 hrel
        refine lv_pop hx hb dL_law_401 rfl ?_
        refine lv_goto (tgt := 405) hx hb dL_law_402 (by decide) ?_
        exact W.widen (by omega) (by omega) (back _ _ _ _ _ _ r1 hP hD hS (lv_sub hl [0, 1, 2, 3, 4] rfl))
      refine lv_tableOut (tgt := 405) hx hb dL_law_39 (by have h0 := lv_neT (a := 0) c_39_0 (by decide); have h1 := lv_neT (a := 1) c_39_1 (by decide); have h2 := lv_neT (a := 2) c_39_2 (by decide); have h3 := lv_neT (a := 3) c_39_3 (by decide); have h4 := lv_neT (a := 4) c_39_4 (by decide); have h5 := lv_neT (a := 5) c_39_5 (by decide); have h6 := lv_neT (a := 6) c_39_6 (by decide); have h7 := lv_neT (a := 7) c_39_7 (by decide); have h8 := lv_neT (a := 8) c_39_8 (by decide); omega) (by decide) ?_
      exact W.widen (by omega) (by omega) (back _ _ _ _ _ _ (Rdef j x y hj3 hrel) hP hD hS (lv_sub hl [0, 1, 2, 3, 4] rfl))
