/-! an exception whose own constructor passes its text on by any index (ix), with no stack trace -/
section XC
variable {p : Program} {l : Launch} {e : Env} {R : Room} {s : State} {m₀ : MethodId} {args : Array Value} {below : List Frame} {meth : Method} {c : Code} {W : State} {locs : List Loc} {cells slots : Nat}
set_option maxHeartbeats 1000000 in
theorem x_ctor (X : Stand p l e R s m₀ args below meth c W locs cells slots) (hexec : p.tables.exec = Jvm.exec) (htr : e.platform.stackTraces = false) {own cls : String} {names : List String} {ic ix : Nat} {rx : ByteArray}
    (x0 : decode rx 0 = .ok (.aload_n 0, 1)) (x1 : decode rx 1 = .ok (.aload_n 1, 1)) (x2 : decode rx 2 = .ok (.invokespecial ix, 3)) (x5 : decode rx 5 = .ok (.return_, 1))
    (hown : s.vm.findClass own = some m₀.cls) (hcls : Bundle.fit cls = true) (hnames : ∀ n ∈ names, Bundle.fit n = true) (h : ∀ a ∈ Bundle.ownAtomsX own ic cls ix rx names, a.before args s = true)
    (hlocs : ∀ x ∈ locs, ∀ cell, s.heap[x.base]? = some cell → cell.vm.isStatics = false) {a : Addr} {cX : ClassId} {kX : Class} (hfoundX : s.vm.findClass cls = some cX) (hkX : s.vm.classes[cX]? = some kX) (hcell : W.heap[a]? = some (freshCell cX kX)) (hnew : s.heap.size ≤ a)
    {msg : Value} (hmsg : msg.isRef = true) {g : JFrame} (hg : g.method = m₀) (hsize : g.locals.size = c.maxLocals) (hlocked : g.locked = none) (hentered : g.entered = []) {rest : List Value} (hstack : g.stack = msg :: .ref a :: .ref a :: rest)
    (hd6 : decode c.code g.pc = .ok (.invokespecial ic, 3)) (hd9 : decode c.code (g.pc + 3) = .ok (.athrow, 1)) (hout : ∀ x ∈ c.exceptionTable.toList, covers x (g.pc + 3) = false)
    (hRframes : names.length + 3 < R.frames) (hRlocals : 2 * g.monitorRoom + ((Value.ref a :: rest).map fun v => v.category).sum + (13 * (names.length + 1) + 42) ≤ R.locals) (hlocks : meth.locks = false) :
    ∃ U : State, Steps p.tables e below (W.setTop g) U ∧ U.status = .running ∧ Ended U below (.threw a) ∧ s.WarmedH U.vm ∧ s.sameButNew ({ U with vm := s.vm } : State) locs cells slots ∧
      ∃ ce, U.heap[a]? = some ce ∧ ce.vm = .none ∧ s.vm.findClass cls = some ce.cls := by
  have hpl : e.platform.magicAccessors = ({} : Platform).magicAccessors := by rw [X.admits.platform]
  have a' : ∀ x, x ∈ Bundle.ownAtomsX own ic cls ix rx names → x.holds args s none s [] = true := fun x hx => h x hx
  obtain ⟨T, Z0, L, -, Y⟩ := ThrowableC.of_atoms (args := args) (by rw [X.admits.platform]) (by rw [X.admits.platform]) hpl (fun x hx => h x (by simp [Bundle.ownAtomsX, hx]))
  obtain ⟨Z, M, LZ, LM, hnZ⟩ := Init0T.ofS_atoms (args := args) hpl L Y (fun x hx => h x (by simp [Bundle.ownAtomsX, hx]))
  obtain ⟨P1, Ps, hlen, L1, hL, hP1m, hlink1, hlink⟩ := Bundle.chainSX (args := args) hpl hnZ x0 x1 x2 x5 names cls hcls hnames (fun x hx => h x (by simp [Bundle.ownAtomsX, hx]))
  have hfound : s.vm.findClass cls = some P1.m.cls := findClass_of_methodNamed hP1m
  cases Option.some.inj (hfoundX.symm.trans hfound)
  obtain ⟨c1, kX', hc1, hk, hord, -, -, hn6⟩ := Cond.instantiable_spec (a' (.instantiable cls 6) (by simp [Bundle.ownAtomsX]))
  cases Option.some.inj (hc1.symm.trans hfound)
  cases Option.some.inj (hkX.symm.trans hk)
  have hsel : ∀ (t : MethodName) (mt : MethodId), (t.cls ≠ "java/lang/invoke/MethodHandle" ∧ t.cls ≠ "java/lang/invoke/VarHandle") → s.methodNamed? t = some mt → (Cond.selects cls t t).holds args s none s [] = true → selectMethod e.platform s.vm P1.m.cls mt = .method mt := fun t mt ht hn hs => by
    obtain ⟨c2, r2, m2, q1, q2, q3, q4, -⟩ := Cond.selects_spec hs
    cases Option.some.inj (q1.symm.trans hfound)
    cases Option.some.inj (q2.symm.trans (State.methodFound?_of_named hn ht))
    cases Option.some.inj (q3.symm.trans hn)
    rw [Launch.admits_selectMethod X.admits]; exact q4
  obtain ⟨cS, hcS0, hiss⟩ := Y.statics
  obtain ⟨u0, hu0⟩ := Cond.staticRefV Y.unassigned L.unassignedStatic L.statics hcS0 hiss (a' (.isRef (.static Bundle.tN "UNASSIGNED_STACK" Bundle.steD)) (by simp [Bundle.ownAtomsX]))
  obtain ⟨sen, hsen⟩ := Cond.staticRefV Y.sentinel L.sentinelStatic L.statics hcS0 hiss (a' (.isRef (.static Bundle.tN "SUPPRESSED_SENTINEL" Bundle.listD)) (by simp [Bundle.ownAtomsX]))
  obtain ⟨ci198, i198, fB, hk198, hg198, ha198, hsB, -, hnB, htB, hffB⟩ := Cond.ownField (t := .object "java/lang/Object") Y.found L.cls (by decide +kernel) (a' (.fieldLink Bundle.tN 198 Bundle.tN "backtrace" "Ljava/lang/Object;") (by simp [Bundle.ownAtomsX])) (a' (.lays Bundle.tN Bundle.tN "backtrace" "Ljava/lang/Object;") (by simp [Bundle.ownAtomsX])) e.platform hpl
  obtain ⟨cellS, hcS', heS, -, hkeep⟩ := X.same.2.2.2.2.2 T.aS cS hcS0
  have hout' : ∀ i, (⟨T.aS, i⟩ : Loc) ∉ locs := fun i hmem => by
    have := hlocs _ hmem cS hcS0
    rw [hiss] at this; cases this
  have hknown : cellS.vm ≠ .unknown := by
    rw [heS]; intro hu
    rw [show cS.vm = .unknown from hu] at hiss
    cases hiss
  have hneS : T.aS ≠ a := Nat.ne_of_lt (Nat.lt_of_lt_of_le (Array.getElem?_eq_some_iff.mp hcS0).1 hnew)
  obtain ⟨iM, hffM⟩ := Y.msg
  obtain ⟨tyC, dC, hdC, hdnC⟩ := Cond.laysAt hfound hk Y.cause (a' (.lays cls Bundle.tN "cause" "Ljava/lang/Throwable;") (by simp [Bundle.ownAtomsX]))
  obtain ⟨tyS, dS, hdS, hdnS⟩ := Cond.laysAt hfound hk Y.stack (a' (.lays cls Bundle.tN "stackTrace" Bundle.steD) (by simp [Bundle.ownAtomsX]))
  obtain ⟨tyP, dP, hdP, hdnP⟩ := Cond.laysAt hfound hk Y.supp (a' (.lays cls Bundle.tN "suppressedExceptions" Bundle.listD) (by simp [Bundle.ownAtomsX]))
  obtain ⟨tyM, dM, hdM, hdnM⟩ := Cond.laysAt hfound hk hffM (a' (.lays cls Bundle.tN "detailMessage" "Ljava/lang/String;") (by simp [Bundle.ownAtomsX]))
  obtain ⟨tyB, dB, hdB, hdnB⟩ := Cond.laysAt hfound hk hffB (a' (.lays cls Bundle.tN "backtrace" "Ljava/lang/Object;") (by simp [Bundle.ownAtomsX]))
  have bC := Cond.laysApart hdB hdC hdnB hdnC (by rw [hnB, Y.causeName]; decide)
  have bS := Cond.laysApart hdB hdS hdnB hdnS (by rw [hnB, Y.stackName]; decide)
  have bP := Cond.laysApart hdB hdP hdnB hdnP (by rw [hnB, Y.suppName]; decide)
  have hskip : SkipFacts T e.platform s (fun u => u) u0 ((preparedCellV T.toThrowableT (freshCell P1.m.cls kX) a u0 sen).withEntry W.cur) :=
    ⟨{ ci198 := ci198, i198 := i198, fBack := fB }, ⟨hk198, hg198, ha198, hsB⟩, by
      have := fresh_default (c := P1.m.cls) tyB
      rw [htB] at this
      simpa [preparedCellV, Cell.setSlot, Cell.withEntry, Array.getElem?_setIfInBounds, bC, bS, bP, bC.symm, bS.symm, bP.symm, defaultValue] using this, fun _ _ => rfl⟩
  obtain ⟨tm, methC, cdC, kC, vm₁, hnC, -, -, -, -, -, -, -, hW₁, st1⟩ := Steps.initColdS (tb := p.tables) (e := e) (below := below) (s := s) (U := W) X.here hexec X.warmed hpl hown (t := Bundle.initS cls) rfl rfl (Bundle.fit_spec hcls).2
    (a' (.methodLink own ic (Bundle.initS cls)) (by simp [Bundle.ownAtomsX])) (h (.instanceMethod (Bundle.initS cls)) (by cases names <;> simp [Bundle.ownAtomsX, Bundle.chainSAtomsX, Bundle.passSAtoms])) (bytes := rx) (maxL := 2) (h (.code (Bundle.initS cls) rx 2 none) (by cases names <;> simp [Bundle.ownAtomsX, Bundle.chainSAtomsX, Bundle.passSAtoms]))
    (f := g) hg (a := a) (msg := msg) (rest := .ref a :: rest) hstack hd6
  cases Option.some.inj (hnC.symm.trans hP1m)
  obtain ⟨vm₂, X₂, st2⟩ := (X.noted hW₁).ctorMessageOffV hexec (g := { g with stack := .ref a :: rest }) hg hsize T L Z LZ M LM (P1 :: Ps)
    (fun P hP => by rcases List.mem_cons.mp hP with rfl | hP; exact L1; exact hL P hP) ⟨hlink1, hlink⟩ (u0 := u0) (sen := sen) (self := a) hmsg (cell := freshCell P1.m.cls kX) (cellS := cellS)
    hcell (fun _ => by simp) (by simp) rfl rfl (hsel _ _ (by decide) Y.fill0 (a' (.selects cls Bundle.tFill0 Bundle.tFill0) (by simp [Bundle.ownAtomsX]))) (hsel _ _ (by decide) Y.fill (a' (.selects cls Bundle.tFill Bundle.tFill) (by simp [Bundle.ownAtomsX]))) hcS' hneS hknown (by rw [hkeep _ (hout' _)]; exact hu0) (by rw [hkeep _ (hout' _)]; exact hsen)
    (Takes.of_laid hk hord tyC (by rw [Y.causeType]; rfl)) (Takes.of_laid hk hord tyS (by rw [Y.stackType]; exact fits_refV_array _ u0)) (Takes.of_laid hk hord tyP (by rw [Y.suppType]; exact fits_refV_object _ sen))
    (Takes.of_laid hk hord tyM (by rw [Y.msgType]; exact fits_refV_object _ ⟨msg, hmsg⟩)) Y.objLocals hskip htr [] hd6
    (by simp only [List.length_cons, hlen]; omega) (by simp only [List.length_cons, hlen]; exact hRlocals)
  obtain ⟨hwalk, hrun, hended, hWU, hsame⟩ := X₂.athrowLeaves hexec (g := { g with stack := .ref a :: rest, pc := g.pc + 3 }) hg hlocked hentered hout (a := a) (rest := rest) rfl hd9
  have hlt : a < ((W.setVm vm₁).setVm vm₂).heap.size := (Array.getElem?_eq_some_iff.mp hcell).1
  have hU := heapAt_setCell_self (s := (W.setVm vm₁).setVm vm₂) (plainBareV T.toThrowableT (freshCell P1.m.cls kX) a u0 sen msg) hlt
  refine ⟨_, st1 _ (fun acts => ?_), hrun, hended, hWU, hsame.weaken (fun y hy hlt' => ?_) (Nat.le_refl _) (Nat.le_refl _), _, hU, rfl, hfound⟩
  · rw [doInvoke_state]
    exact st2 _ hwalk
  · rcases List.mem_append.mp hy with h1 | h1
    · exact h1
    · exfalso
      have hb : y.base = a := by
        simp only [List.mem_cons, List.not_mem_nil, or_false] at h1
        rcases h1 with rfl | rfl | rfl | rfl | rfl <;> rfl
      rw [hb] at hlt'
      exact Nat.not_lt.mpr hnew hlt'
end XC
section XTX
variable {p : Program} {l : Launch} {e : Env} {R : Room} {s : State} {m : MethodId} {args : Array Value} {below : List Frame} {meth : Method} {c : Code}
/-- 'throw new E("text")', the constructor's own index ix, in a method that has changed nothing yet -/
theorem x_throwX {cc : ByteArray} {pc : Nat} {ls : Array Slot} {rest : List Value} (hx : p.tables.exec = Jvm.exec) (hb : c.code = cc) (hl : l.stackTraces = false) {own cls text : String} {names : List String} {ik is ic sa mc ms ix : Nat} {rx : ByteArray} (x0 : decode rx 0 = .ok (.aload_n 0, 1)) (x1 : decode rx 1 = .ok (.aload_n 1, 1)) (x2 : decode rx 2 = .ok (.invokespecial ix, 3)) (x5 : decode rx 5 = .ok (.return_, 1)) {A : Nat → Prop} {B : State → Prop} {free : Addr → Prop}
    (hown : s.vm.findClass own = some m.cls) (hcls : Bundle.fit cls = true) (hnames : ∀ n ∈ names, Bundle.fit n = true) (hk : (Cond.classLink own ik cls).before args s = true) (hini : (Cond.initialized cls).before args s = true)
    (hs1 : (Cond.stringRef own is text).before args s = true) (hs2 : (Term.string own is).eval args s none [] s = some (.ref sa)) (hat : ∀ w ∈ Bundle.ownAtomsX own ic cls ix rx names, w.before args s = true) (hsize : ls.size = c.maxLocals)
    (d0 : decode cc pc = .ok (.new ik, 3)) (d3 : decode cc (pc + 3) = .ok (.dup, 1)) (d4 : decode cc (pc + 4) = .ok (.ldc is, 2)) (d6 : decode cc (pc + 6) = .ok (.invokespecial ic, 3)) (d9 : decode cc (pc + 9) = .ok (.athrow, 1))
    (he : c.exceptionTable.isEmpty = true) (hRf : names.length + 3 < R.frames) (hRl : (rest.map fun v => v.category).sum + (13 * (names.length + 1) + 43) ≤ R.locals) (hRc : 1 ≤ R.cells) (hRs : 6 ≤ R.slots) (hlocks : meth.locks = false)
    (hB : ∀ t : State, s.vm.Alike t.vm → s.heap.size ≤ t.heap.size → (∀ q : Nat, q < s.heap.size → t.heap[q]? = s.heap[q]?) → B t) (hmc : 1 ≤ mc) (hms : 6 ≤ ms) :
    W p l e R s m args below meth c s.heap [] 0 0 (x_Z below cls B A mc ms free s) (F0 m pc ls rest) := by
  intro T hT X
  have htr : e.platform.stackTraces = false := (show e.platform.stackTraces = l.stackTraces by rw [X.admits.platform]).trans hl
  have hins : (Cond.instantiable cls 6).before args s = true := hat _ (by simp [Bundle.ownAtomsX])
  obtain ⟨vm₁, cX, kX, hfX, hkX, -, -, X₁, st1⟩ := X.newCold hx (own := own) (C := cls) (index := ik) (n := 6) hown hk hins hini (g := F0 m pc ls rest) rfl (by rw [hb]; exact d0) (by omega) (by omega)
  generalize hT1 : (T.setVm vm₁).pushCell { cls := cX, slots := kX.instanceTypes.map defaultValue, vm := .none } = T1 at X₁ st1
  have hcellA : T1.heap[T.heap.size]? = some (freshCell cX kX) := by rw [← hT1]; exact State.heap_pushCell_size _ _
  have d3' : decode c.code (pc + 3) = .ok (.dup, 1) := by rw [hb]; exact d3
  have d4' : decode c.code (pc + 4) = .ok (.ldc is, 2) := by rw [hb]; exact d4
  have hcat : (Value.ref T.heap.size).category = 1 := rfl
  obtain ⟨U, hsteps, hrun, hend, hW, hsame, ce, hce, hv9, hc9⟩ := x_ctor X₁ hx htr (own := own) (cls := cls) (names := names) (ic := ic) x0 x1 x2 x5 hown hcls hnames hat (fun x hx => nomatch hx) hfX hkX hcellA (by rw [hT]; exact Nat.le_refl _) (msg := .ref sa) rfl
    (g := { method := m, pc := pc + 6, locals := ls, stack := .ref sa :: .ref T.heap.size :: .ref T.heap.size :: rest, locked := none }) rfl hsize rfl rfl (rest := rest) rfl
    (by rw [hb]; exact d6) (by rw [hb]; exact d9) (fun x hx => by rw [Array.isEmpty_iff.mp he] at hx; exact absurd hx (by simp)) hRf (by simp only [List.map_cons, List.sum_cons, hcat]; have h0 : 2 * ({ method := m, pc := pc + 6, locals := ls, stack := .ref sa :: .ref T.heap.size :: .ref T.heap.size :: rest, locked := none } : JFrame).monitorRoom = 0 := rfl; omega) hlocks
  obtain ⟨-, k2, -, -, -, k6⟩ := id hsame
  have hkept : ∀ q : Nat, q < s.heap.size → U.heap[q]? = s.heap[q]? := fun q hq => by
    obtain ⟨c9, e1, e2, e3, e4⟩ := k6 q _ (Array.getElem?_eq_getElem hq)
    have hs : c9.slots = (s.heap[q]).slots := Array.ext_getElem? fun i => e4 i (fun hm => nomatch hm)
    have h9 : c9 = s.heap[q] := by
      rw [hs] at e2
      exact e2
    have e5 : U.heap[q]? = some c9 := e1
    rw [e5, h9, Array.getElem?_eq_getElem hq]
  refine ⟨U, ?_, .threw T.heap.size, hrun, hend, T.heap.size, ce, [], rfl, hce, hv9, hc9, hB U hW.alike k2 hkept, ⟨k2, fun q hq _ => hkept q hq⟩, hW, hsame.mono (by omega) (by omega), fun z hz => nomatch hz⟩
  refine st1 _ ?_
  show Steps p.tables e below (T1.setTop { method := m, pc := pc + 3, locals := ls, stack := .ref T.heap.size :: rest, locked := none }) _
  jvm_step X₁.here [X₁.here.top, hx, d3', Value.category]
  exact X₁.ldcString hx (own := own) (text := text) (index := is) (a := sa) hown hs1 hs2
    (g := { method := m, pc := pc + 4, locals := ls, stack := .ref T.heap.size :: .ref T.heap.size :: rest, locked := none }) rfl d4' _ hsteps
end XTX
/-! the words of a throw -/
/-- where a static field lies, and that a reference (or null) stands there -/
def x_St (C n d : String) (U : State) (H : Heap) : Prop := ∃ (c : ClassId) (k : Class) (i : Nat) (f : Field) (a : Nat) (cell : Cell) (v : Value), U.vm.findClass C = some c ∧ U.fieldFound? C n d = some (c, k, i, f) ∧ f.isStatic = true ∧ k.statics = some a ∧ H[a]? = some cell ∧ cell.vm.isStatics = true ∧ cell.cls = c ∧ f.slot < cell.slots.size ∧ k.staticTypes[f.slot]? = some f.type ∧ cell.slots[f.slot]? = some v ∧ v.isRef = true
theorem x_St.moved {C n d : String} {u U : State} {H : Heap} (hvm : u.vm.Alike U.vm) (h : x_St C n d u H) : x_St C n d U H := by
  obtain ⟨c, k, i, f, a, cell, v, h1, h2, h3, h4, h5, h6, h7, h8, h9, h10⟩ := h
  obtain ⟨k', hi', he⟩ := State.fieldFound?_setVm hvm h2
  exact ⟨c, k', i, f, a, cell, v, by rw [hvm.findClass]; exact h1, hi', h3, by rw [he]; exact h4, h5, h6, h7, h8, by rw [he]; exact h9, h10⟩
theorem x_St.kept {C n d : String} {U : State} {H H1 : Heap} (h : x_St C n d U H) (hq : ∀ (a : Nat) (cell : Cell), H[a]? = some cell → cell.vm.isStatics = true → H1[a]? = some cell) : x_St C n d U H1 := by
  obtain ⟨c, k, i, f, a, cell, v, h1, h2, h3, h4, h5, h6, h7⟩ := h
  exact ⟨c, k, i, f, a, cell, v, h1, h2, h3, h4, hq a cell h5 h6, h6, h7⟩
theorem x_St.lays {C n d : String} {s : State} {args : Array Value} (h : x_St C n d s s.heap) : (Cond.laysStatic C n d).before args s = true := by
  obtain ⟨c, k, i, f, a, cell, v, h1, h2, h3, h4, h5, h6, h7, h8, h9, -⟩ := h
  show (Cond.laysStatic C n d).holds args s none s [] = true
  exact Cond.laysStatic_of h1 h2 h3 h4 h5 h6 h7 h8 h9
theorem x_St.isRef {C n d : String} {s : State} {args : Array Value} (h : x_St C n d s s.heap) : (Cond.isRef (.static C n d)).before args s = true := by
  obtain ⟨c, k, i, f, a, cell, v, h1, h2, h3, h4, h5, h6, h7, h8, h9, h10, h11⟩ := h
  have he : (Term.static C n d).eval args s none [] s = some v := by
    simp [Term.eval, State.fieldNamed?, h2, h3, h4, h5, h6, h10]
  simp only [Cond.before, Cond.holds, Cond.value, he]
  cases v <;> simp_all [Value.isRef]
theorem x_St.of {C n d : String} {s : State} {args : Array Value} (hl : (Cond.laysStatic C n d).before args s = true) (h : (Cond.isRef (.static C n d)).before args s = true) : x_St C n d s s.heap := by
  obtain ⟨c, k, i, f, a, cell, h1, h2, h3, h4, h5, h6, h7, h8, h9⟩ := Cond.laysStatic_spec hl
  have he : (Term.static C n d).eval args s none [] s = some (cell.slots[f.slot]) := by
    simp [Term.eval, State.fieldNamed?, h2, h3, h4, h5, h6, h8]
  refine ⟨c, k, i, f, a, cell, cell.slots[f.slot], h1, h2, h3, h4, h5, h6, h7, h8, h9, Array.getElem?_eq_getElem h8, ?_⟩
  simp only [Cond.before, Cond.holds, Cond.value, he] at h
  revert h
  cases cell.slots[f.slot] <;> simp [Value.isRef]
/-- the words that are no good ones but stay with the tables: declares, castable -/
def xWs : List Cond := [.declares (Bundle.initS "java/lang/RuntimeException"), .declares (Bundle.initS "java/lang/Exception"), .declares (Bundle.initS Bundle.tN), .castable "java/lang/IllegalStateException" "java/lang/IllegalStateException", .castable "java/lang/IllegalArgumentException" "java/lang/IllegalArgumentException", .castable "java/util/NoSuchElementException" "java/util/NoSuchElementException"]
def isXW : Cond → Bool
  | .declares _ => true
  | .castable .. => true
  | _ => false
theorem xw_is : ∀ w ∈ xWs, isXW w = true := by decide
theorem xw_tab {w : Cond} (h : isXW w = true) : w.onTables = true := by cases w <;> first | rfl | exact (Bool.false_ne_true h).elim
theorem xw_one {w : Cond} (h : isXW w = true) {s U : State} (hW : s.WarmedH U.vm) (hZ : va_Nw w s) : va_Nw w U := by
  cases w <;> first | exact va_Nw.warmD hW hZ | exact va_Nw.warmC hW hZ | exact (Bool.false_ne_true h).elim
/-- what a throw needs beside the good words -/
def TF (U : State) (H : Heap) : Prop := x_St Bundle.tN "UNASSIGNED_STACK" Bundle.steD U H ∧ x_St Bundle.tN "SUPPRESSED_SENTINEL" Bundle.listD U H ∧ (∀ w ∈ xWs, va_Nw w U) ∧
  (∃ a, vk_R "HartDesk" 47 "n is not 1 .. 1000" a U) ∧ (∃ a, vk_R "HartDesk" 110 "100000 steps have been in all" a U) ∧ (∃ a, vk_R "HartDesk" 80 "no such register" a U) ∧ (∃ a, vk_R "HartDesk" 90 "no such control" a U) ∧ ∃ a, vk_R "HartDesk" 95 "no word at this address" a U
theorem TF.warm {s U : State} {H : Heap} (hW : s.WarmedH U.vm) (h : TF s H) : TF U H := by
  obtain ⟨h1, h2, h3, ⟨a4, h4⟩, ⟨a5, h5⟩, ⟨a6, h6⟩, ⟨a7, h7⟩, ⟨a8, h8⟩⟩ := h
  exact ⟨h1.moved hW.alike, h2.moved hW.alike, fun w hw => xw_one (xw_is w hw) hW (h3 w hw), ⟨a4, h4.warm hW⟩, ⟨a5, h5.warm hW⟩, ⟨a6, h6.warm hW⟩, ⟨a7, h7.warm hW⟩, ⟨a8, h8.warm hW⟩⟩
theorem TF.same {u U : State} {H : Heap} (hv : u.vm = U.vm) (h : TF u H) : TF U H := by
  obtain ⟨h1, h2, h3, ⟨a4, h4⟩, ⟨a5, h5⟩, ⟨a6, h6⟩, ⟨a7, h7⟩, ⟨a8, h8⟩⟩ := h
  have ha : u.vm.Alike U.vm := by rw [hv]; exact Vm.Alike.refl _
  exact ⟨h1.moved ha, h2.moved ha, fun w hw => va_Nw.same (u := u) (U := U) (xw_tab (xw_is w hw)) hv (h3 w hw), ⟨a4, h4.same hv.symm⟩, ⟨a5, h5.same hv.symm⟩, ⟨a6, h6.same hv.symm⟩, ⟨a7, h7.same hv.symm⟩, ⟨a8, h8.same hv.symm⟩⟩
theorem TF.kept {U : State} {H H1 : Heap} (h : TF U H) (hq : ∀ (a : Nat) (cell : Cell), H[a]? = some cell → cell.vm.isStatics = true → H1[a]? = some cell) : TF U H1 := ⟨h.1.kept hq, h.2.1.kept hq, h.2.2⟩
/-- a world's cells are no statics -/
theorem x_apart {D : va_G} {cl : List vw_C} {w : va_W} {H : Heap} (hP : va_P D cl w H) {a : Nat} {cell : Cell} (hA : va_A w H.size a) (hc : H[a]? = some cell) : cell.vm.isStatics = false := by
  rcases hA with ⟨k, e, h⟩ | h
  · have hq := hP k _ h
    unfold va_at at hq
    split at hq
    · rename_i b _
      have : some cell = some (vp_cell b.1 b.2) := hc.symm.trans hq
      cases this
      obtain ⟨b1, b2, b3⟩ := b
      rcases b3 with f | f | f | f | f <;> rfl
    · obtain ⟨r, -, ce, h1, -, h2, -⟩ := hq
      cases hc.symm.trans h1
      rw [h2]; rfl
  · have := (Array.getElem?_eq_some_iff.mp hc).1
    omega
theorem x_stat {D : va_G} {cl : List vw_C} {w : va_W} {H H1 : Heap} {A : Nat → Prop} {locs : List Loc} (hP : va_P D cl w H) (hS : va_S A H H1 locs) (hA : ∀ q, A q → va_A w H.size q) : ∀ (a : Nat) (cell : Cell), H[a]? = some cell → cell.vm.isStatics = true → H1[a]? = some cell := fun a cell h1 h2 => by
  rw [hS.2.1 a (Array.getElem?_eq_some_iff.mp h1).1 (fun h => by rw [x_apart hP (hA a h) h1] at h2; cases h2)]
  exact h1
/-- the words of a throw, out of the good ones and TF -/
theorem x_words {args : Array Value} {s : State} {L : List Cond} (hB : ∀ w ∈ BIG, w.before args s = true) (hT : TF s s.heap) (h : ∀ w ∈ L, w ∈ BIG ∨ w ∈ xWs ∨ w = .isRef (.static Bundle.tN "UNASSIGNED_STACK" Bundle.steD) ∨ w = .isRef (.static Bundle.tN "SUPPRESSED_SENTINEL" Bundle.listD) ∨ w = .laysStatic Bundle.tN "UNASSIGNED_STACK" Bundle.steD ∨ w = .laysStatic Bundle.tN "SUPPRESSED_SENTINEL" Bundle.listD) : ∀ w ∈ L, w.before args s = true := fun w hw => by
  rcases h w hw with h | h | rfl | rfl | rfl | rfl
  · exact hB w h
  · exact va_Nw.use (xw_tab (xw_is w h)) (hT.2.2.1 w h)
  · exact hT.1.isRef
  · exact hT.2.1.isRef
  · exact hT.1.lays
  · exact hT.2.1.lays
def x_okw (w : Cond) : Bool := (decide (w ∈ lw_tbl) && goodWord w) || decide (w ∈ xWs) || decide (w = .isRef (.static Bundle.tN "UNASSIGNED_STACK" Bundle.steD)) || decide (w = .isRef (.static Bundle.tN "SUPPRESSED_SENTINEL" Bundle.listD)) || decide (w = .laysStatic Bundle.tN "UNASSIGNED_STACK" Bundle.steD) || decide (w = .laysStatic Bundle.tN "SUPPRESSED_SENTINEL" Bundle.listD)
theorem x_okws {L : List Cond} (h : L.all x_okw = true) : ∀ w ∈ L, w ∈ BIG ∨ w ∈ xWs ∨ w = .isRef (.static Bundle.tN "UNASSIGNED_STACK" Bundle.steD) ∨ w = .isRef (.static Bundle.tN "SUPPRESSED_SENTINEL" Bundle.listD) ∨ w = .laysStatic Bundle.tN "UNASSIGNED_STACK" Bundle.steD ∨ w = .laysStatic Bundle.tN "SUPPRESSED_SENTINEL" Bundle.listD := fun w hw => by
  have h9 := List.all_eq_true.mp h w hw
  simp only [x_okw, Bool.or_eq_true, Bool.and_eq_true, decide_eq_true_eq] at h9
  rcases h9 with ((((⟨h1, h2⟩ | h) | h) | h) | h) | h
  · exact Or.inl (big_of h1 h2)
  · exact Or.inr (Or.inl h)
  · exact Or.inr (Or.inr (Or.inl h))
  · exact Or.inr (Or.inr (Or.inr (Or.inl h)))
  · exact Or.inr (Or.inr (Or.inr (Or.inr (Or.inl h))))
  · exact Or.inr (Or.inr (Or.inr (Or.inr (Or.inr h))))
def xNm : List String := ["java/lang/RuntimeException", "java/lang/Exception"]
def rx7 : ByteArray := Bundle.six
def rx13 : ByteArray := ⟨#[0x2a, 0x2b, 0xb7, 0x00, 0x0d, 0xb1]⟩
set_option maxRecDepth 100000 in
theorem okw_112 : (Bundle.ownAtomsX "HartDesk" 112 "java/lang/IllegalStateException" 7 rx7 xNm).all x_okw = true := by decide +kernel
set_option maxRecDepth 100000 in
theorem okw_49 : (Bundle.ownAtomsX "HartDesk" 49 "java/lang/IllegalArgumentException" 7 rx7 xNm).all x_okw = true := by decide +kernel
set_option maxRecDepth 100000 in
theorem okw_82 : (Bundle.ownAtomsX "HartDesk" 82 "java/util/NoSuchElementException" 13 rx13 xNm).all x_okw = true := by decide +kernel
