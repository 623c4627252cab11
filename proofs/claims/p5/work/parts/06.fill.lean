/-! java.util.Arrays.fill(int[], int) -/
def fillf (n : Nat) (v : Int32) (f : Nat → Int32) : Nat → Int32 := fun j => if j < n then v else f j
theorem fillf_0 (v : Int32) (f : Nat → Int32) : fillf 0 v f = f := by
  funext j
  unfold fillf
  rw [if_neg (Nat.not_lt_zero j)]
theorem fillf_s (i : Nat) (v : Int32) (f : Nat → Int32) : upd (fillf i v f) i v = fillf (i + 1) v f := by
  funext j
  unfold upd fillf
  by_cases h : j = i
  · rw [if_pos h, if_pos (by omega)]
  · rw [if_neg h]
    by_cases h2 : j < i
    · rw [if_pos h2, if_pos (by omega)]
    · rw [if_neg h2, if_neg (by omega)]
theorem set_at {w : va_W} {q : Nat} {e0 : Nat × va_E} (h : w[q]? = some e0) (e : Nat × va_E) : (w.set q e)[q]? = some e := by
  have hq : q < w.length := (List.getElem?_eq_some_iff.mp h).1
  simp [hq]
theorem set_back {w : va_W} {q : Nat} {e0 : Nat × va_E} (h : w[q]? = some e0) : w.set q e0 = w := by
  obtain ⟨hq, h⟩ := List.getElem?_eq_some_iff.mp h
  subst h
  exact List.set_getElem_self hq
set_option maxHeartbeats 4000000 in
set_option maxRecDepth 100000 in
theorem fill_loop {p : Program} {l : Launch} {e : Env} {R : Room} {s : State} {m : MethodId} {args : Array Value} {below : List Frame} {meth : Method} {c : Code} {cells slots : Nat} {Q : State → Prop} (hx : p.tables.exec = Jvm.exec) (hb : c.code = cJ7_fill)
    {dC : Nat → ClassId} {dI : Nat → Nat → Nat} {w : va_W} {tys : List (ClassId × FieldType)} {q0 t0 a cA n : Nat} {f : Nat → Int32} {v : Int32} {A : Nat → Prop} {H0 : Heap} (hK : va_K (dC, dI) vwCl tys s) (he : w[q0]? = some (a, .inl (cA, n, .inl f))) (ht : tys[t0]? = some (cA, .int)) (hn : n < 2 ^ 31)
    (kx : ∀ (H : Heap) (locs : List Loc) (ls : Array Slot), va_P (dC, dI) vwCl (w.set q0 (a, .inl (cA, n, .inl (fillf n v f)))) H → va_D A (w.set q0 (a, .inl (cA, n, .inl (fillf n v f)))) → va_S A H0 H locs → W p l e R s m args below meth c H locs cells slots Q (F0 m 20 ls [])) :
    ∀ (k i : Nat), i + k = n → ∀ (H : Heap) (locs : List Loc) (ls : Array Slot), va_P (dC, dI) vwCl (w.set q0 (a, .inl (cA, n, .inl (fillf i v f)))) H → va_D A (w.set q0 (a, .inl (cA, n, .inl (fillf i v f)))) → va_S A H0 H locs → lv_has ls 4 [(0, .ref a), (1, .int v), (2, .int (nI i)), (3, .int (nI n))] →
      W p l e R s m args below meth c H locs cells slots Q (F0 m 5 ls []) := by
  intro k
  induction k with
  | zero =>
    intro i hi H locs ls hP hD hS hl
    obtain rfl : i = n := by omega
    refine lv_iload_n hx hb dJ7_fill_5 rfl (lv_at hl 2 rfl) ?_
    refine lv_iload_n hx hb dJ7_fill_6 rfl (lv_at hl 3 rfl) ?_
    refine lv_icmp_ge (tgt := 20) hx hb dJ7_fill_7 (by decide) (fun _ => ?_) (fun h9 => absurd (nI_le (Nat.le_refl _) hn) h9)
    exact kx H locs ls hP hD hS
  | succ k ih =>
    intro i hi H locs ls hP hD hS hl
    have hlt : i < n := by omega
    refine lv_iload_n hx hb dJ7_fill_5 rfl (lv_at hl 2 rfl) ?_
    refine lv_iload_n hx hb dJ7_fill_6 rfl (lv_at hl 3 rfl) ?_
    refine lv_icmp_ge (tgt := 20) hx hb dJ7_fill_7 (by decide) (fun h9 => absurd h9 (nI_ge hlt hn)) (fun _ => ?_)
    refine lv_aload_n hx hb dJ7_fill_10 rfl (lv_at hl 0 rfl) ?_
    refine lv_iload_n hx hb dJ7_fill_11 rfl (lv_at hl 2 rfl) ?_
    refine lv_iload_n hx hb dJ7_fill_12 rfl (lv_at hl 1 rfl) ?_
    refine va_iast hx hb hK hP hD hS q0 t0 (set_at he _) ht (vp_in_nI hlt hn) dJ7_fill_13 (fun H locs hP hD hS => ?_)
    rw [List.set_set, nI_clamp (by omega), fillf_s] at hP hD
    refine lv_iinc (v := nI (i + 1)) (lv' := [(2, .int (nI (i + 1))), (0, .ref a), (1, .int v), (3, .int (nI n))]) hx hb dJ7_fill_14 hl (k := 2) rfl (nI_1 i) (by decide) rfl (fun ls hl => ?_)
    refine lv_goto (tgt := 5) hx hb dJ7_fill_17 (by decide) ?_
    exact ih (i + 1) (by omega) H locs ls hP hD hS (lv_sub hl [1, 2, 0, 3] rfl)
set_option maxHeartbeats 4000000 in
set_option maxRecDepth 100000 in
/-- Arrays.fill: the array at place q0 of a world holds v everywhere, all else stays -/
theorem m_fill (l : Launch) (dC : Nat → ClassId) (dI : Nat → Nat → Nat) (w : va_W) (tys : List (ClassId × FieldType)) (q0 t0 a cA n : Nat) (f : Nat → Int32) (v : Int32) (sz : Nat) (he : w[q0]? = some (a, .inl (cA, n, .inl f))) (ht : tys[t0]? = some (cA, .int)) (hn : n < 2 ^ 31) :
    Met l yJ7_fill wsJ7_fill ({ frames := 0, cells := 0, slots := 0, locals := 0 }) (va_Pc [.ref a, .int v] (kM (dC, dI) tys NW w sz)) (va_Qv (fun u : Nat → Int32 => u = fillf n v f) (fun u t => va_P (dC, dI) vwCl (w.set q0 (a, .inl (cA, n, .inl u))) t.heap) (va_A w sz)) 0 0 (va_A w sz) := by
  refine Met.ofW (cc := cJ7_fill) (maxL := 4) (ret := none) (by decide) rfl ?_
  intro p e s m args below meth c s₁ B hml hv
  obtain ⟨rfl, hsz, hD0, hP, hK, hN⟩ := hv
  have hx := B.exec
  have hb := B.bytes
  have hr := B.returns
  have hlocks := B.notSynchronized
  subst hsz
  have hD := hD0.self (sz := s.heap.size)
  generalize hAe : va_A w s.heap.size = A at hD ⊢
  have hS : va_S A s.heap s.heap [] := va_S.rf
  have hl := lv_entry ([.ref a, .int v]) (n := 4) (Nat.le_of_ble_eq_true rfl)
  rw [lg_entry_eq]
  generalize (lg_sl ([.ref a, .int v]) ++ List.replicate (4 - (lg_sl ([.ref a, .int v])).length) Slot.unset).toArray = ls at hl ⊢
  have hl : lv_has ls 4 [(0, .ref a), (1, .int v)] := hl
  refine lv_iconst (v := 0) hx hb dJ7_fill_0 (by decide) ?_
  refine lv_istore_n (lv' := [(2, .int 0), (0, .ref a), (1, .int v)]) hx hb dJ7_fill_1 rfl hl (by decide) rfl (fun ls hl => ?_)
  refine lv_aload_n hx hb dJ7_fill_2 rfl (lv_at hl 1 rfl) ?_
  refine va_alen (v := nI n) hx hb hK hP q0 t0 he ht rfl dJ7_fill_3 ?_
  refine lv_istore_n (lv' := [(3, .int (nI n)), (2, .int 0), (0, .ref a), (1, .int v)]) hx hb dJ7_fill_4 rfl hl (by decide) rfl (fun ls hl => ?_)
  have hl : lv_has ls 4 [(3, .int (nI n)), (2, .int (nI 0)), (0, .ref a), (1, .int v)] := by rw [nI_0]; exact hl
  refine fill_loop hx hb hK he ht hn (fun H locs ls hP hD hS => ?_) n 0 (Nat.zero_add n) s.heap [] ls ?_ ?_ hS (lv_sub hl [2, 3, 1, 0] rfl)
  · exact W.vret hx hb hr (fun t ht hW => ⟨⟨fillf n v f, rfl, rfl, hpT ht hP⟩, hS.F ht⟩) hS.2.2 dJ7_fill_20
  · rw [fillf_0, set_back he]; exact hP
  · rw [fillf_0, set_back he]; exact hD
