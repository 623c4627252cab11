/-! numbers -/
def bi : Bool → Int32
  | true => 1
  | false => 0
theorem bi_nar (b : Bool) : narrow .boolean (.int (bi b)) = .int (bi b) := by cases b <;> rfl
theorem bi_fit (b : Bool) : fits .boolean (.int (bi b)) = true := by cases b <;> rfl
def ush (x y : Int32) : Int32 := (x.toUInt32 >>> (y.toUInt32 &&& Int32.toUInt32 31)).toInt32
def lshlf (x : Int64) (y : Int32) : Int64 := x <<< (y.toInt64 &&& 63)
def lshrf (x : Int64) (y : Int32) : Int64 := x >>> (y.toInt64 &&& 63)
def lushf (x : Int64) (y : Int32) : Int64 := (x.toUInt64 >>> (y.toInt64.toUInt64 &&& Int64.toUInt64 63)).toInt64
theorem ush2_nat (a : Int32) : (ush a 2).toBitVec.toNat = a.toBitVec.toNat / 2 ^ 2 := pk_ushr a 2 2 (by decide)
theorem in_reg {k : Int32} (h1 : ¬ k < 1) (h2 : ¬ (32 : Int32) ≤ k) : vp_in k 32 := by
  rw [vp_in_iff]
  rw [Int32.lt_iff_toInt_lt] at h1
  rw [Int32.le_iff_toInt_le] at h2
  have e1 : (1 : Int32).toInt = 1 := by decide
  have e2 : (32 : Int32).toInt = 32 := by decide
  omega
theorem in_mem {a : Int32} (h2 : ¬ (1024 : Int32) ≤ ush a 2) : vp_in (ush a 2) 1024 := by
  rw [vp_in_iff]
  rw [Int32.le_iff_toInt_le] at h2
  have e2 : (1024 : Int32).toInt = 1024 := by decide
  have hn := ush2_nat a
  have hl : a.toBitVec.toNat < 2 ^ 32 := a.toBitVec.isLt
  have hi : (ush a 2).toInt = ((ush a 2).toBitVec.toNat : Int) := BitVec.toInt_eq_toNat_of_lt (by omega)
  omega
theorem hpT {D : va_G} {cl : List vw_C} {w : va_W} {H : Heap} {t : State} (ht : t.heap = H) (hP : va_P D cl w H) : va_P D cl w t.heap := by rw [ht]; exact hP
/-! calls that leave the heap as it is -/
def QcReadL (r : Int64) : Array Value → State → Outcome → State → Prop := fun _ st o t => o = .returned (some (.long r)) ∧ t.heap = st.heap
section KB
variable {p : Program} {l : Launch} {e : Env} {R : Room} {s : State} {m : MethodId} {args : Array Value} {below : List Frame} {meth : Method} {c : Code} {H : Heap} {locs : List Loc} {cells slots : Nat} {Q : State → Prop}
variable {pc : Nat} {ls : Array Slot} {rest st0 : List Value} {a : Array Value}
theorem k_ri {r : Int32} (hr : va_Run p l e R s m args below meth c H locs cells slots 0 0 (F0 m pc ls st0) rest (QcRead r a) (fun _ => False)) (kk : W p l e R s m args below meth c H locs cells slots Q (F0 m (pc + 3) ls (.int r :: rest))) : W p l e R s m args below meth c H locs cells slots Q (F0 m pc ls st0) := W.callR (va_Run.run hr) kk
theorem k_rl {r : Int64} (hr : va_Run p l e R s m args below meth c H locs cells slots 0 0 (F0 m pc ls st0) rest (QcReadL r a) (fun _ => False)) (kk : W p l e R s m args below meth c H locs cells slots Q (F0 m (pc + 3) ls (.long r :: rest))) : W p l e R s m args below meth c H locs cells slots Q (F0 m pc ls st0) := by
  intro T hT X
  obtain ⟨v, st₀, t, T', L, h0, X', hL, e1, e2, ⟨hv, hh⟩, st⟩ := hr T hT X
  cases hv
  obtain ⟨t2, a1, b1⟩ := kk T' (by rw [e1, hh, h0]) (Stand.forget X' (fun q h => (hL q h).elim))
  exact ⟨t2, st t2 a1, b1⟩
/-! calls that change a world of fixed addresses -/
theorem kd_at {w w' : va_W} (h : w.map Prod.fst = w'.map Prod.fst) {k : Nat} {q : Nat × va_E} (hq : w'[k]? = some q) : ∃ q0, w[k]? = some q0 ∧ q0.1 = q.1 := by
  have h1 : (w.map Prod.fst)[k]? = some q.1 := by rw [h, List.getElem?_map, hq]; rfl
  rw [List.getElem?_map] at h1
  cases hw : w[k]? with
  | none => rw [hw] at h1; cases h1
  | some q0 => rw [hw] at h1; exact ⟨q0, rfl, Option.some.inj h1⟩
theorem kd_same {A : Nat → Prop} {w w' : va_W} (h : w.map Prod.fst = w'.map Prod.fst) (hD : va_D A w) : va_D A w' :=
  ⟨fun i j p q hp hq e => by
    obtain ⟨p0, a1, a2⟩ := kd_at h hp
    obtain ⟨q0, b1, b2⟩ := kd_at h hq
    exact hD.1 i j p0 q0 a1 b1 (by rw [a2, b2, e]), fun k q hq => by
    obtain ⟨q0, b1, b2⟩ := kd_at h hq
    rw [← b2]; exact hD.2 k q0 b1⟩
theorem k_free {A0 : Nat → Prop} {w : va_W} {H0 : Heap} (hD : va_D A0 w) (hS : va_S A0 H0 H locs) (hA : ∀ q, H0.size ≤ q → A0 q) : ∀ q, va_A w H.size q → A0 q := fun q h => by
  rcases h with ⟨k, e, h⟩ | h
  · exact hD.2 k _ h
  · exact hA q (Nat.le_trans hS.1 h)
theorem k_mi {S : Type} {w : S → va_W} (hw : ∀ x u, (w x).map Prod.fst = (w u).map Prod.fst) {D : va_G} {cl : List vw_C} {x : S} {post : Int32 → S → Prop} {A0 : Nat → Prop} {H0 : Heap}
    (hr : va_Run p l e R s m args below meth c H locs cells slots 0 0 (F0 m pc ls st0) rest (va_Qi post (fun u t => va_P D cl (w u) t.heap) (va_A (w x) H.size) a) (va_A (w x) H.size)) (hD : va_D A0 (w x)) (hS : va_S A0 H0 H locs) (hA : ∀ q, H0.size ≤ q → A0 q)
    (kk : ∀ (r : Int32) (u : S) (H1 : Heap) (locs1 : List Loc), post r u → va_P D cl (w u) H1 → va_D A0 (w u) → va_S A0 H0 H1 locs1 → W p l e R s m args below meth c H1 locs1 cells slots Q (F0 m (pc + 3) ls (.int r :: rest))) : W p l e R s m args below meth c H locs cells slots Q (F0 m pc ls st0) :=
  va_calli hr hS (fun q _ h => k_free hD hS hA q h) (k_free hD hS hA) (fun r u t H1 locs1 ht _ hp hB _ _ hS1 => kk r u H1 locs1 hp (by rw [← ht]; exact hB) (kd_same (hw x u) hD) hS1)
theorem k_mv {S : Type} {w : S → va_W} (hw : ∀ x u, (w x).map Prod.fst = (w u).map Prod.fst) {D : va_G} {cl : List vw_C} {x : S} {post : S → Prop} {A0 : Nat → Prop} {H0 : Heap}
    (hr : va_Run p l e R s m args below meth c H locs cells slots 0 0 (F0 m pc ls st0) rest (va_Qv post (fun u t => va_P D cl (w u) t.heap) (va_A (w x) H.size) a) (va_A (w x) H.size)) (hD : va_D A0 (w x)) (hS : va_S A0 H0 H locs) (hA : ∀ q, H0.size ≤ q → A0 q)
    (kk : ∀ (u : S) (H1 : Heap) (locs1 : List Loc), post u → va_P D cl (w u) H1 → va_D A0 (w u) → va_S A0 H0 H1 locs1 → W p l e R s m args below meth c H1 locs1 cells slots Q (F0 m (pc + 3) ls rest)) : W p l e R s m args below meth c H locs cells slots Q (F0 m pc ls st0) :=
  va_callv hr hS (fun q _ h => k_free hD hS hA q h) (k_free hD hS hA) (fun u t H1 locs1 ht _ hp hB _ _ hS1 => kk u H1 locs1 hp (by rw [← ht]; exact hB) (kd_same (hw x u) hD) hS1)
end KB
/-! a method's start: the world, the tables' words on it, the nest's words -/
def kP (D : va_G) (tys : List (ClassId × FieldType)) (N : State → Prop) (w : va_W) (U : State) : Prop := va_P D vwCl w U.heap ∧ va_K D vwCl tys U ∧ N U
def kM (D : va_G) (tys : List (ClassId × FieldType)) (N : State → Prop) (w : va_W) (sz : Nat) (U : State) : Prop := U.heap.size = sz ∧ va_D (fun _ => True) w ∧ va_P D vwCl w U.heap ∧ va_K D vwCl tys U ∧ N U
section KP
variable {D : va_G} {tys : List (ClassId × FieldType)} {N : State → Prop} {w : va_W} {av : List Value} {s : State} {H : Heap}
theorem kP_blind (hN : ∀ (U : State) (g : JFrame) (mk : MethodId) (a : Array Value), N U → N (U.calling g mk a)) : FrameBlind (va_Pc av (kP D tys N w)) := fun a U g mk q =>
  ⟨q.1, q.2.1, va_K.moved (u := U) (U := U.calling g mk a) (Vm.Alike.refl U.vm) q.2.2.1, hN U g mk a q.2.2.2⟩
theorem kM_blind (hN : ∀ (U : State) (g : JFrame) (mk : MethodId) (a : Array Value), N U → N (U.calling g mk a)) {sz : Nat} : FrameBlind (va_Pc av (kM D tys N w sz)) := fun a U g mk q =>
  ⟨q.1, q.2.1, q.2.2.1, q.2.2.2.1, va_K.moved (u := U) (U := U.calling g mk a) (Vm.Alike.refl U.vm) q.2.2.2.2.1, hN U g mk a q.2.2.2.2.2⟩
theorem kP_pre (hW : ∀ (U : State), s.WarmedH U.vm → N s → N U) (hP : va_P D vwCl w H) (hK : va_K D vwCl tys s) (hN : N s) : ∀ U : State, U.heap = H → s.WarmedH U.vm → va_Pc av (kP D tys N w) av.toArray U :=
  fun U hU hw => ⟨rfl, by rw [hU]; exact hP, va_K.moved hw.alike hK, hW U hw hN⟩
theorem kM_pre {A : Nat → Prop} (hW : ∀ (U : State), s.WarmedH U.vm → N s → N U) (hP : va_P D vwCl w H) (hK : va_K D vwCl tys s) (hD : va_D A w) (hN : N s) : ∀ U : State, U.heap = H → s.WarmedH U.vm → va_Pc av (kM D tys N w H.size) av.toArray U :=
  fun U hU hw => ⟨rfl, by rw [hU], hD.weaken (fun _ _ _ _ => trivial), by rw [hU]; exact hP, va_K.moved hw.alike hK, hW U hw hN⟩
end KP
/-! the nest's words -/
def isNest : Cond → Bool
  | .methodLinkNest .. => true
  | .fieldLinkNest .. => true
  | _ => false
theorem nw_one {w : Cond} (h : isNest w = true) {s U : State} (hW : s.WarmedH U.vm) (hZ : va_Nw w s) : va_Nw w U := by
  cases w <;> first | exact va_Nw.warmM hW hZ | exact va_Nw.warmF hW hZ | exact (Bool.false_ne_true h).elim
/-- the desk's state: pc, stop, steps, traps, mem, reg, status, enabled, vector, scratch, back, cause, value, done, line -/
abbrev St : Type := Int32 × Bool × Int32 × Int32 × (Nat → Int32) × (Nat → Int32) × Int32 × Int32 × Int32 × Int32 × Int32 × Int32 × Int32 × Int32 × Bool
abbrev g_pc (x : St) : Int32 := x.1
abbrev g_stop (x : St) : Bool := x.2.1
abbrev g_steps (x : St) : Int32 := x.2.2.1
abbrev g_traps (x : St) : Int32 := x.2.2.2.1
abbrev g_mem (x : St) : Nat → Int32 := x.2.2.2.2.1
abbrev g_reg (x : St) : Nat → Int32 := x.2.2.2.2.2.1
abbrev g_status (x : St) : Int32 := x.2.2.2.2.2.2.1
abbrev g_enabled (x : St) : Int32 := x.2.2.2.2.2.2.2.1
abbrev g_vector (x : St) : Int32 := x.2.2.2.2.2.2.2.2.1
abbrev g_scratch (x : St) : Int32 := x.2.2.2.2.2.2.2.2.2.1
abbrev g_back (x : St) : Int32 := x.2.2.2.2.2.2.2.2.2.2.1
abbrev g_cause (x : St) : Int32 := x.2.2.2.2.2.2.2.2.2.2.2.1
abbrev g_value (x : St) : Int32 := x.2.2.2.2.2.2.2.2.2.2.2.2.1
abbrev g_done (x : St) : Int32 := x.2.2.2.2.2.2.2.2.2.2.2.2.2.1
abbrev g_line (x : St) : Bool := x.2.2.2.2.2.2.2.2.2.2.2.2.2.2
abbrev s_pc (x : St) (v : Int32) : St := (v, x.2)
abbrev s_stop (x : St) (v : Bool) : St := (x.1, v, x.2.2)
abbrev s_steps (x : St) (v : Int32) : St := (x.1, x.2.1, v, x.2.2.2)
abbrev s_traps (x : St) (v : Int32) : St := (x.1, x.2.1, x.2.2.1, v, x.2.2.2.2)
abbrev s_mem (x : St) (v : Nat → Int32) : St := (x.1, x.2.1, x.2.2.1, x.2.2.2.1, v, x.2.2.2.2.2)
abbrev s_reg (x : St) (v : Nat → Int32) : St := (x.1, x.2.1, x.2.2.1, x.2.2.2.1, x.2.2.2.2.1, v, x.2.2.2.2.2.2)
abbrev s_status (x : St) (v : Int32) : St := (x.1, x.2.1, x.2.2.1, x.2.2.2.1, x.2.2.2.2.1, x.2.2.2.2.2.1, v, x.2.2.2.2.2.2.2)
abbrev s_enabled (x : St) (v : Int32) : St := (x.1, x.2.1, x.2.2.1, x.2.2.2.1, x.2.2.2.2.1, x.2.2.2.2.2.1, x.2.2.2.2.2.2.1, v, x.2.2.2.2.2.2.2.2)
abbrev s_vector (x : St) (v : Int32) : St := (x.1, x.2.1, x.2.2.1, x.2.2.2.1, x.2.2.2.2.1, x.2.2.2.2.2.1, x.2.2.2.2.2.2.1, x.2.2.2.2.2.2.2.1, v, x.2.2.2.2.2.2.2.2.2)
abbrev s_scratch (x : St) (v : Int32) : St := (x.1, x.2.1, x.2.2.1, x.2.2.2.1, x.2.2.2.2.1, x.2.2.2.2.2.1, x.2.2.2.2.2.2.1, x.2.2.2.2.2.2.2.1, x.2.2.2.2.2.2.2.2.1, v, x.2.2.2.2.2.2.2.2.2.2)
abbrev s_back (x : St) (v : Int32) : St := (x.1, x.2.1, x.2.2.1, x.2.2.2.1, x.2.2.2.2.1, x.2.2.2.2.2.1, x.2.2.2.2.2.2.1, x.2.2.2.2.2.2.2.1, x.2.2.2.2.2.2.2.2.1, x.2.2.2.2.2.2.2.2.2.1, v, x.2.2.2.2.2.2.2.2.2.2.2)
abbrev s_cause (x : St) (v : Int32) : St := (x.1, x.2.1, x.2.2.1, x.2.2.2.1, x.2.2.2.2.1, x.2.2.2.2.2.1, x.2.2.2.2.2.2.1, x.2.2.2.2.2.2.2.1, x.2.2.2.2.2.2.2.2.1, x.2.2.2.2.2.2.2.2.2.1, x.2.2.2.2.2.2.2.2.2.2.1, v, x.2.2.2.2.2.2.2.2.2.2.2.2)
abbrev s_value (x : St) (v : Int32) : St := (x.1, x.2.1, x.2.2.1, x.2.2.2.1, x.2.2.2.2.1, x.2.2.2.2.2.1, x.2.2.2.2.2.2.1, x.2.2.2.2.2.2.2.1, x.2.2.2.2.2.2.2.2.1, x.2.2.2.2.2.2.2.2.2.1, x.2.2.2.2.2.2.2.2.2.2.1, x.2.2.2.2.2.2.2.2.2.2.2.1, v, x.2.2.2.2.2.2.2.2.2.2.2.2.2)
abbrev s_done (x : St) (v : Int32) : St := (x.1, x.2.1, x.2.2.1, x.2.2.2.1, x.2.2.2.2.1, x.2.2.2.2.2.1, x.2.2.2.2.2.2.1, x.2.2.2.2.2.2.2.1, x.2.2.2.2.2.2.2.2.1, x.2.2.2.2.2.2.2.2.2.1, x.2.2.2.2.2.2.2.2.2.2.1, x.2.2.2.2.2.2.2.2.2.2.2.1, x.2.2.2.2.2.2.2.2.2.2.2.2.1, v, x.2.2.2.2.2.2.2.2.2.2.2.2.2.2)
abbrev s_line (x : St) (v : Bool) : St := (x.1, x.2.1, x.2.2.1, x.2.2.2.1, x.2.2.2.2.1, x.2.2.2.2.2.1, x.2.2.2.2.2.2.1, x.2.2.2.2.2.2.2.1, x.2.2.2.2.2.2.2.2.1, x.2.2.2.2.2.2.2.2.2.1, x.2.2.2.2.2.2.2.2.2.2.1, x.2.2.2.2.2.2.2.2.2.2.2.1, x.2.2.2.2.2.2.2.2.2.2.2.2.1, x.2.2.2.2.2.2.2.2.2.2.2.2.2.1, v)
/-- the desk's five cells -/
abbrev wD (aH aM aW aC aR iW iR : Nat) (x : St) : va_W := [(aH, .inr (2, [.ref aM, .ref aC, .ref aR, .int (g_pc x), .int (bi (g_stop x)), .int (g_steps x), .int (g_traps x)])), (aM, .inr (1, [.ref aW])), (aW, .inl (iW, 1024, .inl (g_mem x))), (aC, .inr (0, [.int (g_status x), .int (g_enabled x), .int (g_vector x), .int (g_scratch x), .int (g_back x), .int (g_cause x), .int (g_value x), .int (g_done x), .int (bi (g_line x))])), (aR, .inl (iR, 32, .inl (g_reg x)))]
theorem wD_ad {aH aM aW aC aR iW iR : Nat} : ∀ x u : St, (wD aH aM aW aC aR iW iR x).map Prod.fst = (wD aH aM aW aC aR iW iR u).map Prod.fst := fun _ _ => rfl
/-! the nest's words that the desk's methods use -/
def nestWs : List Cond := [.methodLinkNest RX4 9 yX3_init RX4, .methodLinkNest RX4 18 yX2_init RX4, .fieldLinkNest RX4 191 "HartDesk$Controls" "vector" "I" RX4, .fieldLinkNest RX4 103 "HartDesk$Controls" "done" "I" RX4, .fieldLinkNest RX4 41 "HartDesk$Controls" "lineUp" "Z" RX4, .methodLinkNest RX4 27 yX3_isWordAddress RX4, .methodLinkNest RX4 31 yX3_writeWord RX4, .methodLinkNest RX4 67 yX2_clear RX4, .methodLinkNest RX4 77 yX3_clear RX4, .methodLinkNest RX4 113 yX2_isInterrupted RX4, .methodLinkNest RX4 187 yX2_enterTrap RX4, .methodLinkNest RX4 122 yX3_holds RX4, .methodLinkNest RX4 97 yX3_readWord RX4, .methodLinkNest RX4 128 yX1_op RX4, .methodLinkNest RX4 133 yX1_numberU RX4, .methodLinkNest RX4 139 yX1_d RX4, .methodLinkNest RX4 142 yX1_numberJ RX4, .methodLinkNest RX4 169 yX1_f RX4, .methodLinkNest RX4 181 yX1_a RX4, .methodLinkNest RX4 197 yX1_numberI RX4, .methodLinkNest RX4 184 yX1_b RX4, .methodLinkNest RX4 203 yX0_holds RX4, .methodLinkNest RX4 208 yX1_numberB RX4, .methodLinkNest RX4 211 yX3_isBy RX4, .methodLinkNest RX4 214 yX3_readPart RX4, .methodLinkNest RX4 218 yX1_numberS RX4, .methodLinkNest RX4 221 yX3_writePart RX4, .methodLinkNest RX4 224 yX1_s RX4, .methodLinkNest RX4 227 yX0_basic RX4, .methodLinkNest RX4 231 yX0_productOrQuotient RX4, .methodLinkNest RX4 234 yX2_leaveTrap RX4, .methodLinkNest RX4 238 yX1_controlNumber RX4, .methodLinkNest RX4 241 yX2_isWritable RX4, .methodLinkNest RX4 87 yX2_isKnown RX4, .methodLinkNest RX4 92 yX2_read RX4, .methodLinkNest RX4 244 yX0_exchanged RX4, .methodLinkNest RX4 247 yX2_write RX4]
def NW (U : State) : Prop := ∀ w ∈ nestWs, va_Nw w U
theorem nest_is : ∀ w ∈ nestWs, isNest w = true := by decide +kernel
theorem nest_tab : ∀ w ∈ nestWs, w.onTables = true := by decide +kernel
theorem NW_blind : ∀ (U : State) (g : JFrame) (mk : MethodId) (a : Array Value), NW U → NW (U.calling g mk a) := fun U g mk a h w hw => va_Nw.same (u := U) (U := U.calling g mk a) (nest_tab w hw) rfl (h w hw)
theorem NW_warm {s : State} : ∀ (U : State), s.WarmedH U.vm → NW s → NW U := fun U hW h w hw => nw_one (nest_is w hw) hW (h w hw)
theorem lg_ne {y : Int64} (h : ¬ lg_cmp y 0 = 0) : ¬ y = 0 := fun q => h (by rw [q]; decide)
