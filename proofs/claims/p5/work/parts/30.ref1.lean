/-- the reference's state: thrown, pc, line, stopped, steps, done, traps, word, trapped, cause, why, next, mem, reg, ctl -/
abbrev SR : Type := Int32 × Int32 × Bool × Bool × Int32 × Int32 × Int32 × Int32 × Bool × Int32 × Int32 × Int32 × (Nat → Int32) × (Nat → Int32) × (Nat → Int32)
abbrev r_thrown (x : SR) : Int32 := x.1
abbrev r_pc (x : SR) : Int32 := x.2.1
abbrev r_line (x : SR) : Bool := x.2.2.1
abbrev r_stopped (x : SR) : Bool := x.2.2.2.1
abbrev r_steps (x : SR) : Int32 := x.2.2.2.2.1
abbrev r_done (x : SR) : Int32 := x.2.2.2.2.2.1
abbrev r_traps (x : SR) : Int32 := x.2.2.2.2.2.2.1
abbrev r_word (x : SR) : Int32 := x.2.2.2.2.2.2.2.1
abbrev r_trapped (x : SR) : Bool := x.2.2.2.2.2.2.2.2.1
abbrev r_cause (x : SR) : Int32 := x.2.2.2.2.2.2.2.2.2.1
abbrev r_why (x : SR) : Int32 := x.2.2.2.2.2.2.2.2.2.2.1
abbrev r_next (x : SR) : Int32 := x.2.2.2.2.2.2.2.2.2.2.2.1
abbrev r_mem (x : SR) : Nat → Int32 := x.2.2.2.2.2.2.2.2.2.2.2.2.1
abbrev r_reg (x : SR) : Nat → Int32 := x.2.2.2.2.2.2.2.2.2.2.2.2.2.1
abbrev r_ctl (x : SR) : Nat → Int32 := x.2.2.2.2.2.2.2.2.2.2.2.2.2.2
abbrev t_thrown (x : SR) (v : Int32) : SR := (v, x.2)
abbrev t_pc (x : SR) (v : Int32) : SR := (x.1, v, x.2.2)
abbrev t_line (x : SR) (v : Bool) : SR := (x.1, x.2.1, v, x.2.2.2)
abbrev t_stopped (x : SR) (v : Bool) : SR := (x.1, x.2.1, x.2.2.1, v, x.2.2.2.2)
abbrev t_steps (x : SR) (v : Int32) : SR := (x.1, x.2.1, x.2.2.1, x.2.2.2.1, v, x.2.2.2.2.2)
abbrev t_done (x : SR) (v : Int32) : SR := (x.1, x.2.1, x.2.2.1, x.2.2.2.1, x.2.2.2.2.1, v, x.2.2.2.2.2.2)
abbrev t_traps (x : SR) (v : Int32) : SR := (x.1, x.2.1, x.2.2.1, x.2.2.2.1, x.2.2.2.2.1, x.2.2.2.2.2.1, v, x.2.2.2.2.2.2.2)
abbrev t_word (x : SR) (v : Int32) : SR := (x.1, x.2.1, x.2.2.1, x.2.2.2.1, x.2.2.2.2.1, x.2.2.2.2.2.1, x.2.2.2.2.2.2.1, v, x.2.2.2.2.2.2.2.2)
abbrev t_trapped (x : SR) (v : Bool) : SR := (x.1, x.2.1, x.2.2.1, x.2.2.2.1, x.2.2.2.2.1, x.2.2.2.2.2.1, x.2.2.2.2.2.2.1, x.2.2.2.2.2.2.2.1, v, x.2.2.2.2.2.2.2.2.2)
abbrev t_cause (x : SR) (v : Int32) : SR := (x.1, x.2.1, x.2.2.1, x.2.2.2.1, x.2.2.2.2.1, x.2.2.2.2.2.1, x.2.2.2.2.2.2.1, x.2.2.2.2.2.2.2.1, x.2.2.2.2.2.2.2.2.1, v, x.2.2.2.2.2.2.2.2.2.2)
abbrev t_why (x : SR) (v : Int32) : SR := (x.1, x.2.1, x.2.2.1, x.2.2.2.1, x.2.2.2.2.1, x.2.2.2.2.2.1, x.2.2.2.2.2.2.1, x.2.2.2.2.2.2.2.1, x.2.2.2.2.2.2.2.2.1, x.2.2.2.2.2.2.2.2.2.1, v, x.2.2.2.2.2.2.2.2.2.2.2)
abbrev t_next (x : SR) (v : Int32) : SR := (x.1, x.2.1, x.2.2.1, x.2.2.2.1, x.2.2.2.2.1, x.2.2.2.2.2.1, x.2.2.2.2.2.2.1, x.2.2.2.2.2.2.2.1, x.2.2.2.2.2.2.2.2.1, x.2.2.2.2.2.2.2.2.2.1, x.2.2.2.2.2.2.2.2.2.2.1, v, x.2.2.2.2.2.2.2.2.2.2.2.2)
abbrev t_mem (x : SR) (v : Nat → Int32) : SR := (x.1, x.2.1, x.2.2.1, x.2.2.2.1, x.2.2.2.2.1, x.2.2.2.2.2.1, x.2.2.2.2.2.2.1, x.2.2.2.2.2.2.2.1, x.2.2.2.2.2.2.2.2.1, x.2.2.2.2.2.2.2.2.2.1, x.2.2.2.2.2.2.2.2.2.2.1, x.2.2.2.2.2.2.2.2.2.2.2.1, v, x.2.2.2.2.2.2.2.2.2.2.2.2.2)
abbrev t_reg (x : SR) (v : Nat → Int32) : SR := (x.1, x.2.1, x.2.2.1, x.2.2.2.1, x.2.2.2.2.1, x.2.2.2.2.2.1, x.2.2.2.2.2.2.1, x.2.2.2.2.2.2.2.1, x.2.2.2.2.2.2.2.2.1, x.2.2.2.2.2.2.2.2.2.1, x.2.2.2.2.2.2.2.2.2.2.1, x.2.2.2.2.2.2.2.2.2.2.2.1, x.2.2.2.2.2.2.2.2.2.2.2.2.1, v, x.2.2.2.2.2.2.2.2.2.2.2.2.2.2)
abbrev t_ctl (x : SR) (v : Nat → Int32) : SR := (x.1, x.2.1, x.2.2.1, x.2.2.2.1, x.2.2.2.2.1, x.2.2.2.2.2.1, x.2.2.2.2.2.2.1, x.2.2.2.2.2.2.2.1, x.2.2.2.2.2.2.2.2.1, x.2.2.2.2.2.2.2.2.2.1, x.2.2.2.2.2.2.2.2.2.2.1, x.2.2.2.2.2.2.2.2.2.2.2.1, x.2.2.2.2.2.2.2.2.2.2.2.2.1, x.2.2.2.2.2.2.2.2.2.2.2.2.2.1, v)
/-- the reference's four cells -/
abbrev wR (bH bM bR bC jM jR jC : Nat) (x : SR) : va_W := [(bH, .inr (3, [.int (r_thrown x), .ref bM, .ref bR, .int (r_pc x), .ref bC, .int (bi (r_line x)), .int (bi (r_stopped x)), .int (r_steps x), .int (r_done x), .int (r_traps x), .int (r_word x), .int (bi (r_trapped x)), .int (r_cause x), .int (r_why x), .int (r_next x)])), (bM, .inl (jM, 1024, .inl (r_mem x))), (bR, .inl (jR, 32, .inl (r_reg x))), (bC, .inl (jC, 9, .inl (r_ctl x)))]
theorem wR_ad {bH bM bR bC jM jR jC : Nat} : ∀ x u : SR, (wR bH bM bR bC jM jR jC x).map Prod.fst = (wR bH bM bR bC jM jR jC u).map Prod.fst := fun _ _ => rfl
def NT (_ : State) : Prop := True
theorem NT_blind : ∀ (U : State) (g : JFrame) (mk : MethodId) (a : Array Value), NT U → NT (U.calling g mk a) := fun _ _ _ _ _ => trivial
theorem NT_warm {s : State} : ∀ (U : State), s.WarmedH U.vm → NT s → NT U := fun _ _ _ => trivial
def fX5_thrown (x : SR) : Int32 := r_thrown x
set_option maxHeartbeats 4000000 in
set_option maxRecDepth 100000 in
theorem mX5_thrown (l : Launch) (dC : Nat → ClassId) (dI : Nat → Nat → Nat) (bH bM bR bC jM jR jC : Nat) (x : SR) : Met l yX5_thrown wsX5_thrown ({ frames := 0, cells := 0, slots := 0, locals := 0 }) (va_Pc [.ref bH] (kP (dC, dI) [(jM, .int), (jR, .int), (jC, .int)] NT (wR bH bM bR bC jM jR jC x))) (QcRead ((fX5_thrown x))) 0 0 (fun _ => False) := by
  refine Met.ofW (cc := cX5_thrown) (maxL := 1) (ret := (some .int)) (by decide) rfl ?_
  intro p e s m args below meth c s₁ B hml hv
  obtain ⟨rfl, hP, hK, hN⟩ := hv
  have hx := B.exec
  have hb := B.bytes
  have hr := B.returns
  have hB := fun (w : Cond) (h : w ∈ BIG) => atoms_spec (ws := wsX5_thrown) B.pre w (List.mem_cons_of_mem _ h)
  have hown : s.vm.findClass RX5 = some m.cls := findClass_of_methodNamed B.named
  have hlocks := B.notSynchronized
  have hl := lv_entry ([.ref bH]) (n := 1) (Nat.le_of_ble_eq_true rfl)
  rw [lg_entry_eq]
  generalize (lg_sl ([.ref bH]) ++ List.replicate (1 - (lg_sl ([.ref bH])).length) Slot.unset).toArray = ls at hl ⊢
  have hl : lv_has ls 1 [(0, .ref bH)] := hl
  refine lv_aload_n hx hb dX5_thrown_0 rfl (lv_at hl 0 rfl) ?_
  refine va_get (D := (dC, dI)) (ci := 3) (v := .int (r_thrown x)) (C := RX5) (T := TX5) (N := 15) hx hb hB iX5 hown hK hP 0 rfl rfl 0 (by decide) (hB _ q_t2_231) (fun _ h9 => h9) rfl dX5_thrown_1 ?_
  exact W.iret (v := r_thrown x) hx hb hr (fun t ht hW => ⟨congrArg (fun z => Outcome.returned (some (Value.int z))) rfl, ht⟩) (fun q h => nomatch h) dX5_thrown_4
def fX5_raise (p0 : Int32) (x : SR) : Int32 × SR := ((0 : Int32), t_thrown x p0)
set_option maxHeartbeats 4000000 in
set_option maxRecDepth 100000 in
theorem mX5_raise (l : Launch) (dC : Nat → ClassId) (dI : Nat → Nat → Nat) (bH bM bR bC jM jR jC : Nat) (sz : Nat) (x : SR) (p0 : Int32) : Met l yX5_raise wsX5_raise ({ frames := 0, cells := 0, slots := 0, locals := 0 }) (va_Pc [.ref bH, .int p0] (kM (dC, dI) [(jM, .int), (jR, .int), (jC, .int)] NT (wR bH bM bR bC jM jR jC x) sz)) (va_Qi (fun r u => r = (fX5_raise p0 x).1 ∧ u = (fX5_raise p0 x).2) (fun u t => va_P (dC, dI) vwCl (wR bH bM bR bC jM jR jC u) t.heap) (va_A (wR bH bM bR bC jM jR jC x) sz)) 0 0 (va_A (wR bH bM bR bC jM jR jC x) sz) := by
  refine Met.ofW (cc := cX5_raise) (maxL := 2) (ret := (some .int)) (by decide) rfl ?_
  intro p e s m args below meth c s₁ B hml hv
  obtain ⟨rfl, hsz, hD0, hP, hK, hN⟩ := hv
  have hx := B.exec
  have hb := B.bytes
  have hr := B.returns
  have hB := fun (w : Cond) (h : w ∈ BIG) => atoms_spec (ws := wsX5_raise) B.pre w (List.mem_cons_of_mem _ h)
  have hown : s.vm.findClass RX5 = some m.cls := findClass_of_methodNamed B.named
  have hlocks := B.notSynchronized
  subst hsz
  have hD := hD0.self (sz := s.heap.size)
  generalize hAe : va_A (wR bH bM bR bC jM jR jC x) s.heap.size = A at hD ⊢
  have hA : ∀ q : Nat, s.heap.size ≤ q → A q := fun q h => by rw [← hAe]; exact Or.inr h
  have hS : va_S A s.heap s.heap [] := va_S.rf
  have hl := lv_entry ([.ref bH, .int p0]) (n := 2) (Nat.le_of_ble_eq_true rfl)
  rw [lg_entry_eq]
  generalize (lg_sl ([.ref bH, .int p0]) ++ List.replicate (2 - (lg_sl ([.ref bH, .int p0])).length) Slot.unset).toArray = ls at hl ⊢
  have hl : lv_has ls 2 [(0, .ref bH), (1, .int p0)] := hl
  refine lv_aload_n hx hb dX5_raise_0 rfl (lv_at hl 0 rfl) ?_
  refine lv_iload_n hx hb dX5_raise_1 rfl (lv_at hl 1 rfl) ?_
  refine va_put (D := (dC, dI)) (ci := 3) (v := .int p0) (ty := .int) (C := RX5) (T := TX5) (N := 15) hx hb hB iX5 tyX5 tyX5_ok nmX5 hown hK hP hD hS 0 rfl rfl 0 (by decide) (hB _ q_t2_231) (fun _ h9 => h9) rfl (by decide +kernel) rfl rfl (Nat.le_of_ble_eq_true rfl) dX5_raise_2 (fun H locs hP hD hS => ?_)
  have hP : va_P (dC, dI) vwCl (wR bH bM bR bC jM jR jC (t_thrown x p0)) H := hP
  have hD : va_D A (wR bH bM bR bC jM jR jC (t_thrown x p0)) := hD
  refine lv_iconst (v := 0) hx hb dX5_raise_5 (by decide) ?_
  exact W.iret (v := (0 : Int32)) hx hb hr (fun t ht hW => ⟨⟨(0 : Int32), (t_thrown x p0), rfl, ⟨rfl, rfl⟩, hpT ht hP⟩, hS.F ht⟩) hS.2.2 dX5_raise_6
def fX5_isAddress (p0 : Int32) : Bool := if p0 < 0 then
    false
  else
    if (4092 : Int32) < p0 then
      false
    else
      if (p0 &&& (3 : Int32)) = 0 then
        true
      else
        false
set_option maxHeartbeats 4000000 in
set_option maxRecDepth 100000 in
theorem mX5_isAddress (l : Launch) (p0 : Int32) : Met l yX5_isAddress wsX5_isAddress ({ frames := 0, cells := 0, slots := 0, locals := 0 }) (va_Pc [.int p0] (fun _ => True)) (QcRead (bi (fX5_isAddress p0))) 0 0 (fun _ => False) := by
  refine Met.ofW (cc := cX5_isAddress) (maxL := 1) (ret := (some .boolean)) (by decide) rfl ?_
  intro p e s m args below meth c s₁ B hml hv
  obtain ⟨rfl, -⟩ := hv
  have hx := B.exec
  have hb := B.bytes
  have hr := B.returns
  have hB := fun (w : Cond) (h : w ∈ BIG) => atoms_spec (ws := wsX5_isAddress) B.pre w (List.mem_cons_of_mem _ h)
  have hown : s.vm.findClass RX5 = some m.cls := findClass_of_methodNamed B.named
  have hlocks := B.notSynchronized
  have hl := lv_entry ([.int p0]) (n := 1) (Nat.le_of_ble_eq_true rfl)
  rw [lg_entry_eq]
  generalize (lg_sl ([.int p0]) ++ List.replicate (1 - (lg_sl ([.int p0])).length) Slot.unset).toArray = ls at hl ⊢
  have hl : lv_has ls 1 [(0, .int p0)] := hl
  refine lv_iload_n hx hb dX5_isAddress_0 rfl (lv_at hl 0 rfl) ?_
  refine lv_if_lt (tgt := 21) hx hb dX5_isAddress_1 (by decide) (fun c_1 => ?_) (fun c_1 => ?_)
  · refine lv_iconst (v := 0) hx hb dX5_isAddress_21 (by decide) ?_
    exact W.zret (v := 0) hx hb hr rfl (fun t ht hW => ⟨congrArg (fun z => Outcome.returned (some (Value.int z))) (by unfold fX5_isAddress; rw [if_pos c_1] <;> rfl), ht⟩) (fun q h => nomatch h) dX5_isAddress_22
  · refine lv_iload_n hx hb dX5_isAddress_4 rfl (lv_at hl 0 rfl) ?_
    refine lv_sipush (v := 4092) hx hb dX5_isAddress_5 (by decide) ?_
    refine lv_icmp_gt (tgt := 21) hx hb dX5_isAddress_8 (by decide) (fun c_8 => ?_) (fun c_8 => ?_)
    · refine lv_iconst (v := 0) hx hb dX5_isAddress_21 (by decide) ?_
      exact W.zret (v := 0) hx hb hr rfl (fun t ht hW => ⟨congrArg (fun z => Outcome.returned (some (Value.int z))) (by unfold fX5_isAddress; rw [if_neg c_1, if_pos c_8] <;> rfl), ht⟩) (fun q h => nomatch h) dX5_isAddress_22
    · refine lv_iload_n hx hb dX5_isAddress_11 rfl (lv_at hl 0 rfl) ?_
      refine lv_iconst (v := 3) hx hb dX5_isAddress_12 (by decide) ?_
      refine lv_iand hx hb dX5_isAddress_13 ?_
      refine lv_if_ne (tgt := 21) hx hb dX5_isAddress_14 (by decide) (fun c_14 => ?_) (fun c_14 => ?_)
      · refine lv_iconst (v := 0) hx hb dX5_isAddress_21 (by decide) ?_
        exact W.zret (v := 0) hx hb hr rfl (fun t ht hW => ⟨congrArg (fun z => Outcome.returned (some (Value.int z))) (by unfold fX5_isAddress; rw [if_neg c_1, if_neg c_8, if_neg c_14] <;> rfl), ht⟩) (fun q h => nomatch h) dX5_isAddress_22
      · refine lv_iconst (v := 1) hx hb dX5_isAddress_17 (by decide) ?_
        refine lv_goto (tgt := 22) hx hb dX5_isAddress_18 (by decide) ?_
        exact W.zret (v := 1) hx hb hr rfl (fun t ht hW => ⟨congrArg (fun z => Outcome.returned (some (Value.int z))) (by unfold fX5_isAddress; rw [if_neg c_1, if_neg c_8, if_pos c_14] <;> rfl), ht⟩) (fun q h => nomatch h) dX5_isAddress_22
def fX5_bits (p0 : Int32) (p1 : Int32) (x : SR) : Int32 := (ush (r_word x) p0) &&& (((1 : Int32) <<< (p1 &&& 31)) - (1 : Int32))
set_option maxHeartbeats 4000000 in
set_option maxRecDepth 100000 in
theorem mX5_bits (l : Launch) (dC : Nat → ClassId) (dI : Nat → Nat → Nat) (bH bM bR bC jM jR jC : Nat) (x : SR) (p0 : Int32) (p1 : Int32) : Met l yX5_bits wsX5_bits ({ frames := 0, cells := 0, slots := 0, locals := 0 }) (va_Pc [.ref bH, .int p0, .int p1] (kP (dC, dI) [(jM, .int), (jR, .int), (jC, .int)] NT (wR bH bM bR bC jM jR jC x))) (QcRead ((fX5_bits p0 p1 x))) 0 0 (fun _ => False) := by
  refine Met.ofW (cc := cX5_bits) (maxL := 3) (ret := (some .int)) (by decide) rfl ?_
  intro p e s m args below meth c s₁ B hml hv
  obtain ⟨rfl, hP, hK, hN⟩ := hv
  have hx := B.exec
  have hb := B.bytes
  have hr := B.returns
  have hB := fun (w : Cond) (h : w ∈ BIG) => atoms_spec (ws := wsX5_bits) B.pre w (List.mem_cons_of_mem _ h)
  have hown : s.vm.findClass RX5 = some m.cls := findClass_of_methodNamed B.named
  have hlocks := B.notSynchronized
  have hl := lv_entry ([.ref bH, .int p0, .int p1]) (n := 3) (Nat.le_of_ble_eq_true rfl)
  rw [lg_entry_eq]
  generalize (lg_sl ([.ref bH, .int p0, .int p1]) ++ List.replicate (3 - (lg_sl ([.ref bH, .int p0, .int p1])).length) Slot.unset).toArray = ls at hl ⊢
  have hl : lv_has ls 3 [(0, .ref bH), (1, .int p0), (2, .int p1)] := hl
  refine lv_aload_n hx hb dX5_bits_0 rfl (lv_at hl 0 rfl) ?_
  refine va_get (D := (dC, dI)) (ci := 3) (v := .int (r_word x)) (C := RX5) (T := TX5) (N := 15) hx hb hB iX5 hown hK hP 0 rfl rfl 10 (by decide) (hB _ q_t3_1) (fun _ h9 => h9) rfl dX5_bits_1 ?_
  refine lv_iload_n hx hb dX5_bits_4 rfl (lv_at hl 1 rfl) ?_
  refine lv_iushr (v := ush (r_word x) p0) hx hb dX5_bits_5 rfl ?_
  refine lv_iconst (v := 1) hx hb dX5_bits_6 (by decide) ?_
  refine lv_iload_n hx hb dX5_bits_7 rfl (lv_at hl 2 rfl) ?_
  refine lv_ishl hx hb dX5_bits_8 ?_
  refine lv_iconst (v := 1) hx hb dX5_bits_9 (by decide) ?_
  refine lv_isub hx hb dX5_bits_10 ?_
  refine lv_iand hx hb dX5_bits_11 ?_
  exact W.iret (v := (ush (r_word x) p0) &&& (((1 : Int32) <<< (p1 &&& 31)) - (1 : Int32))) hx hb hr (fun t ht hW => ⟨congrArg (fun z => Outcome.returned (some (Value.int z))) rfl, ht⟩) (fun q h => nomatch h) dX5_bits_12
def fX5_numberI (x : SR) : Int32 := (r_word x) >>> ((20 : Int32) &&& 31)
set_option maxHeartbeats 4000000 in
set_option maxRecDepth 100000 in
theorem mX5_numberI (l : Launch) (dC : Nat → ClassId) (dI : Nat → Nat → Nat) (bH bM bR bC jM jR jC : Nat) (x : SR) : Met l yX5_numberI wsX5_numberI ({ frames := 0, cells := 0, slots := 0, locals := 0 }) (va_Pc [.ref bH] (kP (dC, dI) [(jM, .int), (jR, .int), (jC, .int)] NT (wR bH bM bR bC jM jR jC x))) (QcRead ((fX5_numberI x))) 0 0 (fun _ => False) := by
  refine Met.ofW (cc := cX5_numberI) (maxL := 1) (ret := (some .int)) (by decide) rfl ?_
  intro p e s m args below meth c s₁ B hml hv
  obtain ⟨rfl, hP, hK, hN⟩ := hv
  have hx := B.exec
  have hb := B.bytes
  have hr := B.returns
  have hB := fun (w : Cond) (h : w ∈ BIG) => atoms_spec (ws := wsX5_numberI) B.pre w (List.mem_cons_of_mem _ h)
  have hown : s.vm.findClass RX5 = some m.cls := findClass_of_methodNamed B.named
  have hlocks := B.notSynchronized
  have hl := lv_entry ([.ref bH]) (n := 1) (Nat.le_of_ble_eq_true rfl)
  rw [lg_entry_eq]
  generalize (lg_sl ([.ref bH]) ++ List.replicate (1 - (lg_sl ([.ref bH])).length) Slot.unset).toArray = ls at hl ⊢
  have hl : lv_has ls 1 [(0, .ref bH)] := hl
  refine lv_aload_n hx hb dX5_numberI_0 rfl (lv_at hl 0 rfl) ?_
  refine va_get (D := (dC, dI)) (ci := 3) (v := .int (r_word x)) (C := RX5) (T := TX5) (N := 15) hx hb hB iX5 hown hK hP 0 rfl rfl 10 (by decide) (hB _ q_t3_1) (fun _ h9 => h9) rfl dX5_numberI_1 ?_
  refine lv_bipush (v := 20) hx hb dX5_numberI_4 (by decide) ?_
  refine lv_ishr hx hb dX5_numberI_6 ?_
  exact W.iret (v := (r_word x) >>> ((20 : Int32) &&& 31)) hx hb hr (fun t ht hW => ⟨congrArg (fun z => Outcome.returned (some (Value.int z))) rfl, ht⟩) (fun q h => nomatch h) dX5_numberI_7
def fX5_numberS (x : SR) : Int32 := (((r_word x) >>> ((25 : Int32) &&& 31)) <<< ((5 : Int32) &&& 31)) ||| (fX5_bits (7 : Int32) (5 : Int32) x)
set_option maxHeartbeats 4000000 in
set_option maxRecDepth 100000 in
theorem mX5_numberS (l : Launch) (dC : Nat → ClassId) (dI : Nat → Nat → Nat) (bH bM bR bC jM jR jC : Nat) (x : SR) : Met l yX5_numberS wsX5_numberS ({ frames := 1, cells := 0, slots := 0, locals := 22 }) (va_Pc [.ref bH] (kP (dC, dI) [(jM, .int), (jR, .int), (jC, .int)] NT (wR bH bM bR bC jM jR jC x))) (QcRead ((fX5_numberS x))) 0 0 (fun _ => False) := by
  refine Met.ofW (cc := cX5_numberS) (maxL := 1) (ret := (some .int)) (by decide) rfl ?_
  intro p e s m args below meth c s₁ B hml hv
  obtain ⟨rfl, hP, hK, hN⟩ := hv
  have hx := B.exec
  have hb := B.bytes
  have hr := B.returns
  have hB := fun (w : Cond) (h : w ∈ BIG) => atoms_spec (ws := wsX5_numberS) B.pre w (List.mem_cons_of_mem _ h)
  have hown : s.vm.findClass RX5 = some m.cls := findClass_of_methodNamed B.named
  have hlocks := B.notSynchronized
  have hl := lv_entry ([.ref bH]) (n := 1) (Nat.le_of_ble_eq_true rfl)
  rw [lg_entry_eq]
  generalize (lg_sl ([.ref bH]) ++ List.replicate (1 - (lg_sl ([.ref bH])).length) Slot.unset).toArray = ls at hl ⊢
  have hl : lv_has ls 1 [(0, .ref bH)] := hl
  refine lv_aload_n hx hb dX5_numberS_0 rfl (lv_at hl 0 rfl) ?_
  refine va_get (D := (dC, dI)) (ci := 3) (v := .int (r_word x)) (C := RX5) (T := TX5) (N := 15) hx hb hB iX5 hown hK hP 0 rfl rfl 10 (by decide) (hB _ q_t3_1) (fun _ h9 => h9) rfl dX5_numberS_1 ?_
  refine lv_bipush (v := 25) hx hb dX5_numberS_4 (by decide) ?_
  refine lv_ishr hx hb dX5_numberS_6 ?_
  refine lv_iconst (v := 5) hx hb dX5_numberS_7 (by decide) ?_
  refine lv_ishl hx hb dX5_numberS_8 ?_
  refine lv_aload_n hx hb dX5_numberS_9 rfl (lv_at hl 0 rfl) ?_
  refine lv_bipush (v := 7) hx hb dX5_numberS_10 (by decide) ?_
  refine lv_iconst (v := 5) hx hb dX5_numberS_12 (by decide) ?_
  refine k_ri (va_runV (As := [.int (7 : Int32), .int (5 : Int32)]) (rest := [.int (((r_word x) >>> ((25 : Int32) &&& 31)) <<< ((5 : Int32) &&& 31))]) ⟨hx, hb, hml, hown, hB⟩ (mX5_bits l dC dI bH bM bR bC jM jR jC x (7 : Int32) (5 : Int32)) (cwV 2 hB (gV q_t3_78 q_t3_80 q_s_37 q_t1_4 wX5_bits) rfl rfl rfl hX5_bits ⟨Nat.le_of_ble_eq_true rfl, Nat.le_of_ble_eq_true rfl⟩) ⟨kP_blind NT_blind, va_recv hK hP (ci := 3) (q0 := 0) rfl rfl, kP_pre NT_warm hP hK hN⟩ rfl rfl hl.1 rfl (lv_room (Nat.le_of_ble_eq_true rfl)) dX5_numberS_13 ⟨Nat.zero_le _, Nat.zero_le _⟩) ?_
  refine lv_ior hx hb dX5_numberS_16 ?_
  exact W.iret (v := (((r_word x) >>> ((25 : Int32) &&& 31)) <<< ((5 : Int32) &&& 31)) ||| (fX5_bits (7 : Int32) (5 : Int32) x)) hx hb hr (fun t ht hW => ⟨congrArg (fun z => Outcome.returned (some (Value.int z))) rfl, ht⟩) (fun q h => nomatch h) dX5_numberS_17
def fX5_numberB (x : SR) : Int32 := (((((r_word x) >>> ((31 : Int32) &&& 31)) <<< ((12 : Int32) &&& 31)) ||| ((fX5_bits (7 : Int32) (1 : Int32) x) <<< ((11 : Int32) &&& 31))) ||| ((fX5_bits (25 : Int32) (6 : Int32) x) <<< ((5 : Int32) &&& 31))) ||| ((fX5_bits (8 : Int32) (4 : Int32) x) <<< ((1 : Int32) &&& 31))
set_option maxHeartbeats 4000000 in
set_option maxRecDepth 100000 in
theorem mX5_numberB (l : Launch) (dC : Nat → ClassId) (dI : Nat → Nat → Nat) (bH bM bR bC jM jR jC : Nat) (x : SR) : Met l yX5_numberB wsX5_numberB ({ frames := 1, cells := 0, slots := 0, locals := 22 }) (va_Pc [.ref bH] (kP (dC, dI) [(jM, .int), (jR, .int), (jC, .int)] NT (wR bH bM bR bC jM jR jC x))) (QcRead ((fX5_numberB x))) 0 0 (fun _ => False) := by
  refine Met.ofW (cc := cX5_numberB) (maxL := 1) (ret := (some .int)) (by decide) rfl ?_
  intro p e s m args below meth c s₁ B hml hv
  obtain ⟨rfl, hP, hK, hN⟩ := hv
  have hx := B.exec
  have hb := B.bytes
  have hr := B.returns
  have hB := fun (w : Cond) (h : w ∈ BIG) => atoms_spec (ws := wsX5_numberB) B.pre w (List.mem_cons_of_mem _ h)
  have hown : s.vm.findClass RX5 = some m.cls := findClass_of_methodNamed B.named
  have hlocks := B.notSynchronized
  have hl := lv_entry ([.ref bH]) (n := 1) (Nat.le_of_ble_eq_true rfl)
  rw [lg_entry_eq]
  generalize (lg_sl ([.ref bH]) ++ List.replicate (1 - (lg_sl ([.ref bH])).length) Slot.unset).toArray = ls at hl ⊢
  have hl : lv_has ls 1 [(0, .ref bH)] := hl
  refine lv_aload_n hx hb dX5_numberB_0 rfl (lv_at hl 0 rfl) ?_
  refine va_get (D := (dC, dI)) (ci := 3) (v := .int (r_word x)) (C := RX5) (T := TX5) (N := 15) hx hb hB iX5 hown hK hP 0 rfl rfl 10 (by decide) (hB _ q_t3_1) (fun _ h9 => h9) rfl dX5_numberB_1 ?_
  refine lv_bipush (v := 31) hx hb dX5_numberB_4 (by decide) ?_
  refine lv_ishr hx hb dX5_numberB_6 ?_
  refine lv_bipush (v := 12) hx hb dX5_numberB_7 (by decide) ?_
  refine lv_ishl hx hb dX5_numberB_9 ?_
  refine lv_aload_n hx hb dX5_numberB_10 rfl (lv_at hl 0 rfl) ?_
  refine lv_bipush (v := 7) hx hb dX5_numberB_11 (by decide) ?_
  refine lv_iconst (v := 1) hx hb dX5_numberB_13 (by decide) ?_
  refine k_ri (va_runV (As := [.int (7 : Int32), .int (1 : Int32)]) (rest := [.int (((r_word x) >>> ((31 : Int32) &&& 31)) <<< ((12 : Int32) &&& 31))]) ⟨hx, hb, hml, hown, hB⟩ (mX5_bits l dC dI bH bM bR bC jM jR jC x (7 : Int32) (1 : Int32)) (cwV 2 hB (gV q_t3_78 q_t3_80 q_s_37 q_t1_4 wX5_bits) rfl rfl rfl hX5_bits ⟨Nat.le_of_ble_eq_true rfl, Nat.le_of_ble_eq_true rfl⟩) ⟨kP_blind NT_blind, va_recv hK hP (ci := 3) (q0 := 0) rfl rfl, kP_pre NT_warm hP hK hN⟩ rfl rfl hl.1 rfl (lv_room (Nat.le_of_ble_eq_true rfl)) dX5_numberB_14 ⟨Nat.zero_le _, Nat.zero_le _⟩) ?_
  refine lv_bipush (v := 11) hx hb dX5_numberB_17 (by decide) ?_
  refine lv_ishl hx hb dX5_numberB_19 ?_
  refine lv_ior hx hb dX5_numberB_20 ?_
  refine lv_aload_n hx hb dX5_numberB_21 rfl (lv_at hl 0 rfl) ?_
  refine lv_bipush (v := 25) hx hb dX5_numberB_22 (by decide) ?_
  refine lv_bipush (v := 6) hx hb dX5_numberB_24 (by decide) ?_
  refine k_ri (va_runV (As := [.int (25 : Int32), .int (6 : Int32)]) (rest := [.int ((((r_word x) >>> ((31 : Int32) &&& 31)) <<< ((12 : Int32) &&& 31)) ||| ((fX5_bits (7 : Int32) (1 : Int32) x) <<< ((11 : Int32) &&& 31)))]) ⟨hx, hb, hml, hown, hB⟩ (mX5_bits l dC dI bH bM bR bC jM jR jC x (25 : Int32) (6 : Int32)) (cwV 2 hB (gV q_t3_78 q_t3_80 q_s_37 q_t1_4 wX5_bits) rfl rfl rfl hX5_bits ⟨Nat.le_of_ble_eq_true rfl, Nat.le_of_ble_eq_true rfl⟩) ⟨kP_blind NT_blind, va_recv hK hP (ci := 3) (q0 := 0) rfl rfl, kP_pre NT_warm hP hK hN⟩ rfl rfl hl.1 rfl (lv_room (Nat.le_of_ble_eq_true rfl)) dX5_numberB_26 ⟨Nat.zero_le _, Nat.zero_le _⟩) ?_
  refine lv_iconst (v := 5) hx hb dX5_numberB_29 (by decide) ?_
  refine lv_ishl hx hb dX5_numberB_30 ?_
  refine lv_ior hx hb dX5_numberB_31 ?_
  refine lv_aload_n hx hb dX5_numberB_32 rfl (lv_at hl 0 rfl) ?_
  refine lv_bipush (v := 8) hx hb dX5_numberB_33 (by decide) ?_
  refine lv_iconst (v := 4) hx hb dX5_numberB_35 (by decide) ?_
  refine k_ri (va_runV (As := [.int (8 : Int32), .int (4 : Int32)]) (rest := [.int (((((r_word x) >>> ((31 : Int32) &&& 31)) <<< ((12 : Int32) &&& 31)) ||| ((fX5_bits (7 : Int32) (1 : Int32) x) <<< ((11 : Int32) &&& 31))) ||| ((fX5_bits (25 : Int32) (6 : Int32) x) <<< ((5 : Int32) &&& 31)))]) ⟨hx, hb, hml, hown, hB⟩ (mX5_bits l dC dI bH bM bR bC jM jR jC x (8 : Int32) (4 : Int32)) (cwV 2 hB (gV q_t3_78 q_t3_80 q_s_37 q_t1_4 wX5_bits) rfl rfl rfl hX5_bits ⟨Nat.le_of_ble_eq_true rfl, Nat.le_of_ble_eq_true rfl⟩) ⟨kP_blind NT_blind, va_recv hK hP (ci := 3) (q0 := 0) rfl rfl, kP_pre NT_warm hP hK hN⟩ rfl rfl hl.1 rfl (lv_room (Nat.le_of_ble_eq_true rfl)) dX5_numberB_36 ⟨Nat.zero_le _, Nat.zero_le _⟩) ?_
  refine lv_iconst (v := 1) hx hb dX5_numberB_39 (by decide) ?_
  refine lv_ishl hx hb dX5_numberB_40 ?_
  refine lv_ior hx hb dX5_numberB_41 ?_
  exact W.iret (v := (((((r_word x) >>> ((31 : Int32) &&& 31)) <<< ((12 : Int32) &&& 31)) ||| ((fX5_bits (7 : Int32) (1 : Int32) x) <<< ((11 : Int32) &&& 31))) ||| ((fX5_bits (25 : Int32) (6 : Int32) x) <<< ((5 : Int32) &&& 31))) ||| ((fX5_bits (8 : Int32) (4 : Int32) x) <<< ((1 : Int32) &&& 31))) hx hb hr (fun t ht hW => ⟨congrArg (fun z => Outcome.returned (some (Value.int z))) rfl, ht⟩) (fun q h => nomatch h) dX5_numberB_42
def fX5_numberJ (x : SR) : Int32 := (((((r_word x) >>> ((31 : Int32) &&& 31)) <<< ((20 : Int32) &&& 31)) ||| ((fX5_bits (12 : Int32) (8 : Int32) x) <<< ((12 : Int32) &&& 31))) ||| ((fX5_bits (20 : Int32) (1 : Int32) x) <<< ((11 : Int32) &&& 31))) ||| ((fX5_bits (21 : Int32) (10 : Int32) x) <<< ((1 : Int32) &&& 31))
set_option maxHeartbeats 4000000 in
set_option maxRecDepth 100000 in
theorem mX5_numberJ (l : Launch) (dC : Nat → ClassId) (dI : Nat → Nat → Nat) (bH bM bR bC jM jR jC : Nat) (x : SR) : Met l yX5_numberJ wsX5_numberJ ({ frames := 1, cells := 0, slots := 0, locals := 22 }) (va_Pc [.ref bH] (kP (dC, dI) [(jM, .int), (jR, .int), (jC, .int)] NT (wR bH bM bR bC jM jR jC x))) (QcRead ((fX5_numberJ x))) 0 0 (fun _ => False) := by
  refine Met.ofW (cc := cX5_numberJ) (maxL := 1) (ret := (some .int)) (by decide) rfl ?_
  intro p e s m args below meth c s₁ B hml hv
  obtain ⟨rfl, hP, hK, hN⟩ := hv
  have hx := B.exec
  have hb := B.bytes
  have hr := B.returns
  have hB := fun (w : Cond) (h : w ∈ BIG) => atoms_spec (ws := wsX5_numberJ) B.pre w (List.mem_cons_of_mem _ h)
  have hown : s.vm.findClass RX5 = some m.cls := findClass_of_methodNamed B.named
  have hlocks := B.notSynchronized
  have hl := lv_entry ([.ref bH]) (n := 1) (Nat.le_of_ble_eq_true rfl)
  rw [lg_entry_eq]
  generalize (lg_sl ([.ref bH]) ++ List.replicate (1 - (lg_sl ([.ref bH])).length) Slot.unset).toArray = ls at hl ⊢
  have hl : lv_has ls 1 [(0, .ref bH)] := hl
  refine lv_aload_n hx hb dX5_numberJ_0 rfl (lv_at hl 0 rfl) ?_
  refine va_get (D := (dC, dI)) (ci := 3) (v := .int (r_word x)) (C := RX5) (T := TX5) (N := 15) hx hb hB iX5 hown hK hP 0 rfl rfl 10 (by decide) (hB _ q_t3_1) (fun _ h9 => h9) rfl dX5_numberJ_1 ?_
  refine lv_bipush (v := 31) hx hb dX5_numberJ_4 (by decide) ?_
  refine lv_ishr hx hb dX5_numberJ_6 ?_
  refine lv_bipush (v := 20) hx hb dX5_numberJ_7 (by decide) ?_
  refine lv_ishl hx hb dX5_numberJ_9 ?_
  refine lv_aload_n hx hb dX5_numberJ_10 rfl (lv_at hl 0 rfl) ?_
  refine lv_bipush (v := 12) hx hb dX5_numberJ_11 (by decide) ?_
  refine lv_bipush (v := 8) hx hb dX5_numberJ_13 (by decide) ?_
  refine k_ri (va_runV (As := [.int (12 : Int32), .int (8 : Int32)]) (rest := [.int (((r_word x) >>> ((31 : Int32) &&& 31)) <<< ((20 : Int32) &&& 31))]) ⟨hx, hb, hml, hown, hB⟩ (mX5_bits l dC dI bH bM bR bC jM jR jC x (12 : Int32) (8 : Int32)) (cwV 2 hB (gV q_t3_78 q_t3_80 q_s_37 q_t1_4 wX5_bits) rfl rfl rfl hX5_bits ⟨Nat.le_of_ble_eq_true rfl, Nat.le_of_ble_eq_true rfl⟩) ⟨kP_blind NT_blind, va_recv hK hP (ci := 3) (q0 := 0) rfl rfl, kP_pre NT_warm hP hK hN⟩ rfl rfl hl.1 rfl (lv_room (Nat.le_of_ble_eq_true rfl)) dX5_numberJ_15 ⟨Nat.zero_le _, Nat.zero_le _⟩) ?_
  refine lv_bipush (v := 12) hx hb dX5_numberJ_18 (by decide) ?_
  refine lv_ishl hx hb dX5_numberJ_20 ?_
  refine lv_ior hx hb dX5_numberJ_21 ?_
  refine lv_aload_n hx hb dX5_numberJ_22 rfl (lv_at hl 0 rfl) ?_
  refine lv_bipush (v := 20) hx hb dX5_numberJ_23 (by decide) ?_
  refine lv_iconst (v := 1) hx hb dX5_numberJ_25 (by decide) ?_
  refine k_ri (va_runV (As := [.int (20 : Int32), .int (1 : Int32)]) (rest := [.int ((((r_word x) >>> ((31 : Int32) &&& 31)) <<< ((20 : Int32) &&& 31)) ||| ((fX5_bits (12 : Int32) (8 : Int32) x) <<< ((12 : Int32) &&& 31)))]) ⟨hx, hb, hml, hown, hB⟩ (mX5_bits l dC dI bH bM bR bC jM jR jC x (20 : Int32) (1 : Int32)) (cwV 2 hB (gV q_t3_78 q_t3_80 q_s_37 q_t1_4 wX5_bits) rfl rfl rfl hX5_bits ⟨Nat.le_of_ble_eq_true rfl, Nat.le_of_ble_eq_true rfl⟩) ⟨kP_blind NT_blind, va_recv hK hP (ci := 3) (q0 := 0) rfl rfl, kP_pre NT_warm hP hK hN⟩ rfl rfl hl.1 rfl (lv_room (Nat.le_of_ble_eq_true rfl)) dX5_numberJ_26 ⟨Nat.zero_le _, Nat.zero_le _⟩) ?_
  refine lv_bipush (v := 11) hx hb dX5_numberJ_29 (by decide) ?_
  refine lv_ishl hx hb dX5_numberJ_31 ?_
  refine lv_ior hx hb dX5_numberJ_32 ?_
  refine lv_aload_n hx hb dX5_numberJ_33 rfl (lv_at hl 0 rfl) ?_
  refine lv_bipush (v := 21) hx hb dX5_numberJ_34 (by decide) ?_
  refine lv_bipush (v := 10) hx hb dX5_numberJ_36 (by decide) ?_
  refine k_ri (va_runV (As := [.int (21 : Int32), .int (10 : Int32)]) (rest := [.int (((((r_word x) >>> ((31 : Int32) &&& 31)) <<< ((20 : Int32) &&& 31)) ||| ((fX5_bits (12 : Int32) (8 : Int32) x) <<< ((12 : Int32) &&& 31))) ||| ((fX5_bits (20 : Int32) (1 : Int32) x) <<< ((11 : Int32) &&& 31)))]) ⟨hx, hb, hml, hown, hB⟩ (mX5_bits l dC dI bH bM bR bC jM jR jC x (21 : Int32) (10 : Int32)) (cwV 2 hB (gV q_t3_78 q_t3_80 q_s_37 q_t1_4 wX5_bits) rfl rfl rfl hX5_bits ⟨Nat.le_of_ble_eq_true rfl, Nat.le_of_ble_eq_true rfl⟩) ⟨kP_blind NT_blind, va_recv hK hP (ci := 3) (q0 := 0) rfl rfl, kP_pre NT_warm hP hK hN⟩ rfl rfl hl.1 rfl (lv_room (Nat.le_of_ble_eq_true rfl)) dX5_numberJ_38 ⟨Nat.zero_le _, Nat.zero_le _⟩) ?_
  refine lv_iconst (v := 1) hx hb dX5_numberJ_41 (by decide) ?_
  refine lv_ishl hx hb dX5_numberJ_42 ?_
  refine lv_ior hx hb dX5_numberJ_43 ?_
  exact W.iret (v := (((((r_word x) >>> ((31 : Int32) &&& 31)) <<< ((20 : Int32) &&& 31)) ||| ((fX5_bits (12 : Int32) (8 : Int32) x) <<< ((12 : Int32) &&& 31))) ||| ((fX5_bits (20 : Int32) (1 : Int32) x) <<< ((11 : Int32) &&& 31))) ||| ((fX5_bits (21 : Int32) (10 : Int32) x) <<< ((1 : Int32) &&& 31))) hx hb hr (fun t ht hW => ⟨congrArg (fun z => Outcome.returned (some (Value.int z))) rfl, ht⟩) (fun q h => nomatch h) dX5_numberJ_44
def fX5_numberU (x : SR) : Int32 := (r_word x) &&& (-4096 : Int32)
set_option maxHeartbeats 4000000 in
set_option maxRecDepth 100000 in
theorem mX5_numberU (l : Launch) (dC : Nat → ClassId) (dI : Nat → Nat → Nat) (bH bM bR bC jM jR jC : Nat) (x : SR) : Met l yX5_numberU wsX5_numberU ({ frames := 0, cells := 0, slots := 0, locals := 0 }) (va_Pc [.ref bH] (kP (dC, dI) [(jM, .int), (jR, .int), (jC, .int)] NT (wR bH bM bR bC jM jR jC x))) (QcRead ((fX5_numberU x))) 0 0 (fun _ => False) := by
  refine Met.ofW (cc := cX5_numberU) (maxL := 1) (ret := (some .int)) (by decide) rfl ?_
  intro p e s m args below meth c s₁ B hml hv
  obtain ⟨rfl, hP, hK, hN⟩ := hv
  have hx := B.exec
  have hb := B.bytes
  have hr := B.returns
  have hB := fun (w : Cond) (h : w ∈ BIG) => atoms_spec (ws := wsX5_numberU) B.pre w (List.mem_cons_of_mem _ h)
  have hown : s.vm.findClass RX5 = some m.cls := findClass_of_methodNamed B.named
  have hlocks := B.notSynchronized
  have hl := lv_entry ([.ref bH]) (n := 1) (Nat.le_of_ble_eq_true rfl)
  rw [lg_entry_eq]
  generalize (lg_sl ([.ref bH]) ++ List.replicate (1 - (lg_sl ([.ref bH])).length) Slot.unset).toArray = ls at hl ⊢
  have hl : lv_has ls 1 [(0, .ref bH)] := hl
  refine lv_aload_n hx hb dX5_numberU_0 rfl (lv_at hl 0 rfl) ?_
  refine va_get (D := (dC, dI)) (ci := 3) (v := .int (r_word x)) (C := RX5) (T := TX5) (N := 15) hx hb hB iX5 hown hK hP 0 rfl rfl 10 (by decide) (hB _ q_t3_1) (fun _ h9 => h9) rfl dX5_numberU_1 ?_
  refine lv_sipush (v := -4096) hx hb dX5_numberU_4 (by decide) ?_
  refine lv_iand hx hb dX5_numberU_7 ?_
  exact W.iret (v := (r_word x) &&& (-4096 : Int32)) hx hb hr (fun t ht hW => ⟨congrArg (fun z => Outcome.returned (some (Value.int z))) rfl, ht⟩) (fun q h => nomatch h) dX5_numberU_8
def fX5_isBelow (p0 : Int32) (p1 : Int32) : Bool := if (p1 + (-2147483648 : Int32)) ≤ (p0 + (-2147483648 : Int32)) then
    false
  else
    true
set_option maxHeartbeats 4000000 in
set_option maxRecDepth 100000 in
theorem mX5_isBelow (l : Launch) (p0 : Int32) (p1 : Int32) : Met l yX5_isBelow wsX5_isBelow ({ frames := 0, cells := 0, slots := 0, locals := 0 }) (va_Pc [.int p0, .int p1] (fun _ => True)) (QcRead (bi (fX5_isBelow p0 p1))) 0 0 (fun _ => False) := by
  refine Met.ofW (cc := cX5_isBelow) (maxL := 2) (ret := (some .boolean)) (by decide) rfl ?_
  intro p e s m args below meth c s₁ B hml hv
  obtain ⟨rfl, -⟩ := hv
  have hx := B.exec
  have hb := B.bytes
  have hr := B.returns
  have hB := fun (w : Cond) (h : w ∈ BIG) => atoms_spec (ws := wsX5_isBelow) B.pre w (List.mem_cons_of_mem _ h)
  have hown : s.vm.findClass RX5 = some m.cls := findClass_of_methodNamed B.named
  have hlocks := B.notSynchronized
  have hl := lv_entry ([.int p0, .int p1]) (n := 2) (Nat.le_of_ble_eq_true rfl)
  rw [lg_entry_eq]
  generalize (lg_sl ([.int p0, .int p1]) ++ List.replicate (2 - (lg_sl ([.int p0, .int p1])).length) Slot.unset).toArray = ls at hl ⊢
  have hl : lv_has ls 2 [(0, .int p0), (1, .int p1)] := hl
  refine lv_iload_n hx hb dX5_isBelow_0 rfl (lv_at hl 0 rfl) ?_
  refine lv_ldc (v := -2147483648) hx hb hown (hB _ q_t3_125) dX5_isBelow_1 ?_
  refine lv_iadd hx hb dX5_isBelow_3 ?_
  refine lv_iload_n hx hb dX5_isBelow_4 rfl (lv_at hl 1 rfl) ?_
  refine lv_ldc (v := -2147483648) hx hb hown (hB _ q_t3_125) dX5_isBelow_5 ?_
  refine lv_iadd hx hb dX5_isBelow_7 ?_
  refine lv_icmp_ge (tgt := 15) hx hb dX5_isBelow_8 (by decide) (fun c_8 => ?_) (fun c_8 => ?_)
  · refine lv_iconst (v := 0) hx hb dX5_isBelow_15 (by decide) ?_
    exact W.zret (v := 0) hx hb hr rfl (fun t ht hW => ⟨congrArg (fun z => Outcome.returned (some (Value.int z))) (by unfold fX5_isBelow; rw [if_pos c_8] <;> rfl), ht⟩) (fun q h => nomatch h) dX5_isBelow_16
  · refine lv_iconst (v := 1) hx hb dX5_isBelow_11 (by decide) ?_
    refine lv_goto (tgt := 16) hx hb dX5_isBelow_12 (by decide) ?_
    exact W.zret (v := 1) hx hb hr rfl (fun t ht hW => ⟨congrArg (fun z => Outcome.returned (some (Value.int z))) (by unfold fX5_isBelow; rw [if_neg c_8] <;> rfl), ht⟩) (fun q h => nomatch h) dX5_isBelow_16
def fX5_trap (p0 : Int32) (p1 : Int32) (x : SR) : SR := if (bi (r_trapped x)) = 0 then
    t_why (t_cause (t_trapped x true) p0) p1
  else
    x
set_option maxHeartbeats 4000000 in
set_option maxRecDepth 100000 in
theorem mX5_trap (l : Launch) (dC : Nat → ClassId) (dI : Nat → Nat → Nat) (bH bM bR bC jM jR jC : Nat) (sz : Nat) (x : SR) (p0 : Int32) (p1 : Int32) : Met l yX5_trap wsX5_trap ({ frames := 0, cells := 0, slots := 0, locals := 0 }) (va_Pc [.ref bH, .int p0, .int p1] (kM (dC, dI) [(jM, .int), (jR, .int), (jC, .int)] NT (wR bH bM bR bC jM jR jC x) sz)) (va_Qv (fun u => u = fX5_trap p0 p1 x) (fun u t => va_P (dC, dI) vwCl (wR bH bM bR bC jM jR jC u) t.heap) (va_A (wR bH bM bR bC jM jR jC x) sz)) 0 0 (va_A (wR bH bM bR bC jM jR jC x) sz) := by
  refine Met.ofW (cc := cX5_trap) (maxL := 3) (ret := none) (by decide) rfl ?_
  intro p e s m args below meth c s₁ B hml hv
  obtain ⟨rfl, hsz, hD0, hP, hK, hN⟩ := hv
  have hx := B.exec
  have hb := B.bytes
  have hr := B.returns
  have hB := fun (w : Cond) (h : w ∈ BIG) => atoms_spec (ws := wsX5_trap) B.pre w (List.mem_cons_of_mem _ h)
  have hown : s.vm.findClass RX5 = some m.cls := findClass_of_methodNamed B.named
  have hlocks := B.notSynchronized
  subst hsz
  have hD := hD0.self (sz := s.heap.size)
  generalize hAe : va_A (wR bH bM bR bC jM jR jC x) s.heap.size = A at hD ⊢
  have hA : ∀ q : Nat, s.heap.size ≤ q → A q := fun q h => by rw [← hAe]; exact Or.inr h
  have hS : va_S A s.heap s.heap [] := va_S.rf
  have hl := lv_entry ([.ref bH, .int p0, .int p1]) (n := 3) (Nat.le_of_ble_eq_true rfl)
  rw [lg_entry_eq]
  generalize (lg_sl ([.ref bH, .int p0, .int p1]) ++ List.replicate (3 - (lg_sl ([.ref bH, .int p0, .int p1])).length) Slot.unset).toArray = ls at hl ⊢
  have hl : lv_has ls 3 [(0, .ref bH), (1, .int p0), (2, .int p1)] := hl
  refine lv_aload_n hx hb dX5_trap_0 rfl (lv_at hl 0 rfl) ?_
  refine va_get (D := (dC, dI)) (ci := 3) (v := .int (bi (r_trapped x))) (C := RX5) (T := TX5) (N := 15) hx hb hB iX5 hown hK hP 0 rfl rfl 11 (by decide) (hB _ q_t3_2) (fun _ h9 => h9) rfl dX5_trap_1 ?_
  refine lv_if_eq (tgt := 8) hx hb dX5_trap_4 (by decide) (fun c_4 => ?_) (fun c_4 => ?_)
  · refine lv_aload_n hx hb dX5_trap_8 rfl (lv_at hl 0 rfl) ?_
    refine lv_iconst (v := 1) hx hb dX5_trap_9 (by decide) ?_
    refine va_put (D := (dC, dI)) (ci := 3) (v := .int 1) (ty := .boolean) (C := RX5) (T := TX5) (N := 15) hx hb hB iX5 tyX5 tyX5_ok nmX5 hown hK hP hD hS 0 rfl rfl 11 (by decide) (hB _ q_t3_2) (fun _ h9 => h9) rfl (by decide +kernel) rfl rfl (Nat.le_of_ble_eq_true rfl) dX5_trap_10 (fun H locs hP hD hS => ?_)
    have hP : va_P (dC, dI) vwCl (wR bH bM bR bC jM jR jC (t_trapped x true)) H := hP
    have hD : va_D A (wR bH bM bR bC jM jR jC (t_trapped x true)) := hD
    refine lv_aload_n hx hb dX5_trap_13 rfl (lv_at hl 0 rfl) ?_
    refine lv_iload_n hx hb dX5_trap_14 rfl (lv_at hl 1 rfl) ?_
    refine va_put (D := (dC, dI)) (ci := 3) (v := .int p0) (ty := .int) (C := RX5) (T := TX5) (N := 15) hx hb hB iX5 tyX5 tyX5_ok nmX5 hown hK hP hD hS 0 rfl rfl 12 (by decide) (hB _ q_t3_3) (fun _ h9 => h9) rfl (by decide +kernel) rfl rfl (Nat.le_of_ble_eq_true rfl) dX5_trap_15 (fun H locs hP hD hS => ?_)
    have hP : va_P (dC, dI) vwCl (wR bH bM bR bC jM jR jC (t_cause (t_trapped x true) p0)) H := hP
    have hD : va_D A (wR bH bM bR bC jM jR jC (t_cause (t_trapped x true) p0)) := hD
    refine lv_aload_n hx hb dX5_trap_18 rfl (lv_at hl 0 rfl) ?_
    refine lv_iload_n hx hb dX5_trap_19 rfl (lv_at hl 2 rfl) ?_
    refine va_put (D := (dC, dI)) (ci := 3) (v := .int p1) (ty := .int) (C := RX5) (T := TX5) (N := 15) hx hb hB iX5 tyX5 tyX5_ok nmX5 hown hK hP hD hS 0 rfl rfl 13 (by decide) (hB _ q_t3_4) (fun _ h9 => h9) rfl (by decide +kernel) rfl rfl (Nat.le_of_ble_eq_true rfl) dX5_trap_20 (fun H locs hP hD hS => ?_)
    have hP : va_P (dC, dI) vwCl (wR bH bM bR bC jM jR jC (t_why (t_cause (t_trapped x true) p0) p1)) H := hP
    have hD : va_D A (wR bH bM bR bC jM jR jC (t_why (t_cause (t_trapped x true) p0) p1)) := hD
    exact W.vret hx hb hr (fun t ht hW => ⟨⟨(t_why (t_cause (t_trapped x true) p0) p1), rfl, (by unfold fX5_trap; rw [if_pos c_4] <;> rfl), hpT ht hP⟩, hS.F ht⟩) hS.2.2 dX5_trap_23
  · exact W.vret hx hb hr (fun t ht hW => ⟨⟨x, rfl, (by unfold fX5_trap; rw [if_neg c_4] <;> rfl), hpT ht hP⟩, hS.F ht⟩) hS.2.2 dX5_trap_7
def fX5_none (x : SR) : SR := fX5_trap (2 : Int32) (r_word x) x
set_option maxHeartbeats 4000000 in
set_option maxRecDepth 100000 in
theorem mX5_none (l : Launch) (dC : Nat → ClassId) (dI : Nat → Nat → Nat) (bH bM bR bC jM jR jC : Nat) (sz : Nat) (x : SR) : Met l yX5_none wsX5_none ({ frames := 1, cells := 0, slots := 0, locals := 22 }) (va_Pc [.ref bH] (kM (dC, dI) [(jM, .int), (jR, .int), (jC, .int)] NT (wR bH bM bR bC jM jR jC x) sz)) (va_Qv (fun u => u = fX5_none x) (fun u t => va_P (dC, dI) vwCl (wR bH bM bR bC jM jR jC u) t.heap) (va_A (wR bH bM bR bC jM jR jC x) sz)) 0 0 (va_A (wR bH bM bR bC jM jR jC x) sz) := by
  refine Met.ofW (cc := cX5_none) (maxL := 1) (ret := none) (by decide) rfl ?_
  intro p e s m args below meth c s₁ B hml hv
  obtain ⟨rfl, hsz, hD0, hP, hK, hN⟩ := hv
  have hx := B.exec
  have hb := B.bytes
  have hr := B.returns
  have hB := fun (w : Cond) (h : w ∈ BIG) => atoms_spec (ws := wsX5_none) B.pre w (List.mem_cons_of_mem _ h)
  have hown : s.vm.findClass RX5 = some m.cls := findClass_of_methodNamed B.named
  have hlocks := B.notSynchronized
  subst hsz
  have hD := hD0.self (sz := s.heap.size)
  generalize hAe : va_A (wR bH bM bR bC jM jR jC x) s.heap.size = A at hD ⊢
  have hA : ∀ q : Nat, s.heap.size ≤ q → A q := fun q h => by rw [← hAe]; exact Or.inr h
  have hS : va_S A s.heap s.heap [] := va_S.rf
  have hl := lv_entry ([.ref bH]) (n := 1) (Nat.le_of_ble_eq_true rfl)
  rw [lg_entry_eq]
  generalize (lg_sl ([.ref bH]) ++ List.replicate (1 - (lg_sl ([.ref bH])).length) Slot.unset).toArray = ls at hl ⊢
  have hl : lv_has ls 1 [(0, .ref bH)] := hl
  refine lv_aload_n hx hb dX5_none_0 rfl (lv_at hl 0 rfl) ?_
  refine lv_iconst (v := 2) hx hb dX5_none_1 (by decide) ?_
  refine lv_aload_n hx hb dX5_none_2 rfl (lv_at hl 0 rfl) ?_
  refine va_get (D := (dC, dI)) (ci := 3) (v := .int (r_word x)) (C := RX5) (T := TX5) (N := 15) hx hb hB iX5 hown hK hP 0 rfl rfl 10 (by decide) (hB _ q_t3_1) (fun _ h9 => h9) rfl dX5_none_3 ?_
  refine k_mv (w := wR bH bM bR bC jM jR jC) wR_ad (va_runV (As := [.int (2 : Int32), .int (r_word x)]) (rest := []) ⟨hx, hb, hml, hown, hB⟩ (mX5_trap l dC dI bH bM bR bC jM jR jC s.heap.size x (2 : Int32) (r_word x)) (cwV 2 hB (gV q_t3_70 q_t3_72 q_s_35 q_t1_4 wX5_trap) rfl rfl rfl hX5_trap ⟨Nat.le_of_ble_eq_true rfl, Nat.le_of_ble_eq_true rfl⟩) ⟨kM_blind NT_blind, va_recv hK hP (ci := 3) (q0 := 0) rfl rfl, kM_pre NT_warm hP hK hD hN⟩ rfl rfl hl.1 rfl (lv_room (Nat.le_of_ble_eq_true rfl)) dX5_none_6 ⟨Nat.zero_le _, Nat.zero_le _⟩) hD hS hA (fun u H locs hw hP hD hS => ?_)
  obtain rfl := hw
  exact W.vret hx hb hr (fun t ht hW => ⟨⟨(fX5_trap (2 : Int32) (r_word x) x), rfl, rfl, hpT ht hP⟩, hS.F ht⟩) hS.2.2 dX5_none_9
def fX5_goes (p0 : Int32) (x : SR) : Bool × SR := if (p0 &&& (3 : Int32)) = 0 then
    (true, t_next x p0)
  else
    (false, fX5_trap (0 : Int32) p0 x)
set_option maxHeartbeats 4000000 in
set_option maxRecDepth 100000 in
theorem mX5_goes (l : Launch) (dC : Nat → ClassId) (dI : Nat → Nat → Nat) (bH bM bR bC jM jR jC : Nat) (sz : Nat) (x : SR) (p0 : Int32) : Met l yX5_goes wsX5_goes ({ frames := 1, cells := 0, slots := 0, locals := 22 }) (va_Pc [.ref bH, .int p0] (kM (dC, dI) [(jM, .int), (jR, .int), (jC, .int)] NT (wR bH bM bR bC jM jR jC x) sz)) (va_Qi (fun r u => r = bi (fX5_goes p0 x).1 ∧ u = (fX5_goes p0 x).2) (fun u t => va_P (dC, dI) vwCl (wR bH bM bR bC jM jR jC u) t.heap) (va_A (wR bH bM bR bC jM jR jC x) sz)) 0 0 (va_A (wR bH bM bR bC jM jR jC x) sz) := by
  refine Met.ofW (cc := cX5_goes) (maxL := 2) (ret := (some .boolean)) (by decide) rfl ?_
  intro p e s m args below meth c s₁ B hml hv
  obtain ⟨rfl, hsz, hD0, hP, hK, hN⟩ := hv
  have hx := B.exec
  have hb := B.bytes
  have hr := B.returns
  have hB := fun (w : Cond) (h : w ∈ BIG) => atoms_spec (ws := wsX5_goes) B.pre w (List.mem_cons_of_mem _ h)
  have hown : s.vm.findClass RX5 = some m.cls := findClass_of_methodNamed B.named
  have hlocks := B.notSynchronized
  subst hsz
  have hD := hD0.self (sz := s.heap.size)
  generalize hAe : va_A (wR bH bM bR bC jM jR jC x) s.heap.size = A at hD ⊢
  have hA : ∀ q : Nat, s.heap.size ≤ q → A q := fun q h => by rw [← hAe]; exact Or.inr h
  have hS : va_S A s.heap s.heap [] := va_S.rf
  have hl := lv_entry ([.ref bH, .int p0]) (n := 2) (Nat.le_of_ble_eq_true rfl)
  rw [lg_entry_eq]
  generalize (lg_sl ([.ref bH, .int p0]) ++ List.replicate (2 - (lg_sl ([.ref bH, .int p0])).length) Slot.unset).toArray = ls at hl ⊢
  have hl : lv_has ls 2 [(0, .ref bH), (1, .int p0)] := hl
  refine lv_iload_n hx hb dX5_goes_0 rfl (lv_at hl 1 rfl) ?_
  refine lv_iconst (v := 3) hx hb dX5_goes_1 (by decide) ?_
  refine lv_iand hx hb dX5_goes_2 ?_
  refine lv_if_eq (tgt := 14) hx hb dX5_goes_3 (by decide) (fun c_3 => ?_) (fun c_3 => ?_)
  · refine lv_aload_n hx hb dX5_goes_14 rfl (lv_at hl 0 rfl) ?_
    refine lv_iload_n hx hb dX5_goes_15 rfl (lv_at hl 1 rfl) ?_
    refine va_put (D := (dC, dI)) (ci := 3) (v := .int p0) (ty := .int) (C := RX5) (T := TX5) (N := 15) hx hb hB iX5 tyX5 tyX5_ok nmX5 hown hK hP hD hS 0 rfl rfl 14 (by decide) (hB _ q_t3_5) (fun _ h9 => h9) rfl (by decide +kernel) rfl rfl (Nat.le_of_ble_eq_true rfl) dX5_goes_16 (fun H locs hP hD hS => ?_)
    have hP : va_P (dC, dI) vwCl (wR bH bM bR bC jM jR jC (t_next x p0)) H := hP
    have hD : va_D A (wR bH bM bR bC jM jR jC (t_next x p0)) := hD
    refine lv_iconst (v := 1) hx hb dX5_goes_19 (by decide) ?_
    exact W.zret (v := (1 : Int32)) hx hb hr rfl (fun t ht hW => ⟨⟨(1 : Int32), (t_next x p0), rfl, ⟨(by unfold fX5_goes; rw [if_pos c_3] <;> rfl), (by unfold fX5_goes; rw [if_pos c_3] <;> rfl)⟩, hpT ht hP⟩, hS.F ht⟩) hS.2.2 dX5_goes_20
  · refine lv_aload_n hx hb dX5_goes_6 rfl (lv_at hl 0 rfl) ?_
    refine lv_iconst (v := 0) hx hb dX5_goes_7 (by decide) ?_
    refine lv_iload_n hx hb dX5_goes_8 rfl (lv_at hl 1 rfl) ?_
    refine k_mv (w := wR bH bM bR bC jM jR jC) wR_ad (va_runV (As := [.int (0 : Int32), .int p0]) (rest := []) ⟨hx, hb, hml, hown, hB⟩ (mX5_trap l dC dI bH bM bR bC jM jR jC s.heap.size x (0 : Int32) p0) (cwV 2 hB (gV q_t3_70 q_t3_72 q_s_35 q_t1_4 wX5_trap) rfl rfl rfl hX5_trap ⟨Nat.le_of_ble_eq_true rfl, Nat.le_of_ble_eq_true rfl⟩) ⟨kM_blind NT_blind, va_recv hK hP (ci := 3) (q0 := 0) rfl rfl, kM_pre NT_warm hP hK hD hN⟩ rfl rfl hl.1 rfl (lv_room (Nat.le_of_ble_eq_true rfl)) dX5_goes_9 ⟨Nat.zero_le _, Nat.zero_le _⟩) hD hS hA (fun u H locs hw hP hD hS => ?_)
    obtain rfl := hw
    refine lv_iconst (v := 0) hx hb dX5_goes_12 (by decide) ?_
    exact W.zret (v := (0 : Int32)) hx hb hr rfl (fun t ht hW => ⟨⟨(0 : Int32), (fX5_trap (0 : Int32) p0 x), rfl, ⟨(by unfold fX5_goes; rw [if_neg c_3] <;> rfl), (by unfold fX5_goes; rw [if_neg c_3] <;> rfl)⟩, hpT ht hP⟩, hS.F ht⟩) hS.2.2 dX5_goes_13
def fX5_may (p0 : Int32) (p1 : Int32) (p2 : Int32) (p3 : Int32) (x : SR) : Bool × SR := if (p0 &&& (p1 - (1 : Int32))) = 0 then
    if p0 < 0 then
      if (bi (r_trapped (fX5_trap p3 p0 x))) = 0 then
        (true, fX5_trap p3 p0 x)
      else
        (false, fX5_trap p3 p0 x)
    else
      if p0 ≤ ((4096 : Int32) - p1) then
        if (bi (r_trapped x)) = 0 then
          (true, x)
        else
          (false, x)
      else
        if (bi (r_trapped (fX5_trap p3 p0 x))) = 0 then
          (true, fX5_trap p3 p0 x)
        else
          (false, fX5_trap p3 p0 x)
  else
    if p0 < 0 then
      if (bi (r_trapped (fX5_trap p3 p0 (fX5_trap p2 p0 x)))) = 0 then
        (true, fX5_trap p3 p0 (fX5_trap p2 p0 x))
      else
        (false, fX5_trap p3 p0 (fX5_trap p2 p0 x))
    else
      if p0 ≤ ((4096 : Int32) - p1) then
        if (bi (r_trapped (fX5_trap p2 p0 x))) = 0 then
          (true, fX5_trap p2 p0 x)
        else
          (false, fX5_trap p2 p0 x)
      else
        if (bi (r_trapped (fX5_trap p3 p0 (fX5_trap p2 p0 x)))) = 0 then
          (true, fX5_trap p3 p0 (fX5_trap p2 p0 x))
        else
          (false, fX5_trap p3 p0 (fX5_trap p2 p0 x))
set_option maxHeartbeats 4000000 in
set_option maxRecDepth 100000 in
theorem mX5_may (l : Launch) (dC : Nat → ClassId) (dI : Nat → Nat → Nat) (bH bM bR bC jM jR jC : Nat) (sz : Nat) (x : SR) (p0 : Int32) (p1 : Int32) (p2 : Int32) (p3 : Int32) : Met l yX5_may wsX5_may ({ frames := 1, cells := 0, slots := 0, locals := 22 }) (va_Pc [.ref bH, .int p0, .int p1, .int p2, .int p3] (kM (dC, dI) [(jM, .int), (jR, .int), (jC, .int)] NT (wR bH bM bR bC jM jR jC x) sz)) (va_Qi (fun r u => r = bi (fX5_may p0 p1 p2 p3 x).1 ∧ u = (fX5_may p0 p1 p2 p3 x).2) (fun u t => va_P (dC, dI) vwCl (wR bH bM bR bC jM jR jC u) t.heap) (va_A (wR bH bM bR bC jM jR jC x) sz)) 0 0 (va_A (wR bH bM bR bC jM jR jC x) sz) := by
  refine Met.ofW (cc := cX5_may) (maxL := 5) (ret := (some .boolean)) (by decide) rfl ?_
  intro p e s m args below meth c s₁ B hml hv
  obtain ⟨rfl, hsz, hD0, hP, hK, hN⟩ := hv
  have hx := B.exec
  have hb := B.bytes
  have hr := B.returns
  have hB := fun (w : Cond) (h : w ∈ BIG) => atoms_spec (ws := wsX5_may) B.pre w (List.mem_cons_of_mem _ h)
  have hown : s.vm.findClass RX5 = some m.cls := findClass_of_methodNamed B.named
  have hlocks := B.notSynchronized
  subst hsz
  have hD := hD0.self (sz := s.heap.size)
  generalize hAe : va_A (wR bH bM bR bC jM jR jC x) s.heap.size = A at hD ⊢
  have hA : ∀ q : Nat, s.heap.size ≤ q → A q := fun q h => by rw [← hAe]; exact Or.inr h
  have hS : va_S A s.heap s.heap [] := va_S.rf
  have hl := lv_entry ([.ref bH, .int p0, .int p1, .int p2, .int p3]) (n := 5) (Nat.le_of_ble_eq_true rfl)
  rw [lg_entry_eq]
  generalize (lg_sl ([.ref bH, .int p0, .int p1, .int p2, .int p3]) ++ List.replicate (5 - (lg_sl ([.ref bH, .int p0, .int p1, .int p2, .int p3])).length) Slot.unset).toArray = ls at hl ⊢
  have hl : lv_has ls 5 [(0, .ref bH), (1, .int p0), (2, .int p1), (3, .int p2), (4, .int p3)] := hl
  refine lv_iload_n hx hb dX5_may_0 rfl (lv_at hl 1 rfl) ?_
  refine lv_iload_n hx hb dX5_may_1 rfl (lv_at hl 2 rfl) ?_
  refine lv_iconst (v := 1) hx hb dX5_may_2 (by decide) ?_
  refine lv_isub hx hb dX5_may_3 ?_
  refine lv_iand hx hb dX5_may_4 ?_
  refine lv_if_eq (tgt := 14) hx hb dX5_may_5 (by decide) (fun c_5 => ?_) (fun c_5 => ?_)
  · refine lv_iload_n hx hb dX5_may_14 rfl (lv_at hl 1 rfl) ?_
    refine lv_if_lt (tgt := 27) hx hb dX5_may_15 (by decide) (fun c_15 => ?_) (fun c_15 => ?_)
    · refine lv_aload_n hx hb dX5_may_27 rfl (lv_at hl 0 rfl) ?_
      refine lv_iload hx hb dX5_may_28 (lv_at hl 4 rfl) ?_
      refine lv_iload_n hx hb dX5_may_30 rfl (lv_at hl 1 rfl) ?_
      refine k_mv (w := wR bH bM bR bC jM jR jC) wR_ad (va_runV (As := [.int p3, .int p0]) (rest := []) ⟨hx, hb, hml, hown, hB⟩ (mX5_trap l dC dI bH bM bR bC jM jR jC s.heap.size x p3 p0) (cwV 2 hB (gV q_t3_70 q_t3_72 q_s_35 q_t1_4 wX5_trap) rfl rfl rfl hX5_trap ⟨Nat.le_of_ble_eq_true rfl, Nat.le_of_ble_eq_true rfl⟩) ⟨kM_blind NT_blind, va_recv hK hP (ci := 3) (q0 := 0) rfl rfl, kM_pre NT_warm hP hK hD hN⟩ rfl rfl hl.1 rfl (lv_room (Nat.le_of_ble_eq_true rfl)) dX5_may_31 ⟨Nat.zero_le _, Nat.zero_le _⟩) hD hS hA (fun u H locs hw hP hD hS => ?_)
      obtain rfl := hw
      refine lv_aload_n hx hb dX5_may_34 rfl (lv_at hl 0 rfl) ?_
      refine va_get (D := (dC, dI)) (ci := 3) (v := .int (bi (r_trapped (fX5_trap p3 p0 x)))) (C := RX5) (T := TX5) (N := 15) hx hb hB iX5 hown hK hP 0 rfl rfl 11 (by decide) (hB _ q_t3_2) (fun _ h9 => h9) rfl dX5_may_35 ?_
      refine lv_if_ne (tgt := 45) hx hb dX5_may_38 (by decide) (fun c_38 => ?_) (fun c_38 => ?_)
      · refine lv_iconst (v := 0) hx hb dX5_may_45 (by decide) ?_
        exact W.zret (v := (0 : Int32)) hx hb hr rfl (fun t ht hW => ⟨⟨(0 : Int32), (fX5_trap p3 p0 x), rfl, ⟨(by unfold fX5_may; rw [if_pos c_5, if_pos c_15, if_neg c_38] <;> rfl), (by unfold fX5_may; rw [if_pos c_5, if_pos c_15, if_neg c_38] <;> rfl)⟩, hpT ht hP⟩, hS.F ht⟩) hS.2.2 dX5_may_46
      · refine lv_iconst (v := 1) hx hb dX5_may_41 (by decide) ?_
        refine lv_goto (tgt := 46) hx hb dX5_may_42 (by decide) ?_
        exact W.zret (v := (1 : Int32)) hx hb hr rfl (fun t ht hW => ⟨⟨(1 : Int32), (fX5_trap p3 p0 x), rfl, ⟨(by unfold fX5_may; rw [if_pos c_5, if_pos c_15, if_pos c_38] <;> rfl), (by unfold fX5_may; rw [if_pos c_5, if_pos c_15, if_pos c_38] <;> rfl)⟩, hpT ht hP⟩, hS.F ht⟩) hS.2.2 dX5_may_46
    · refine lv_iload_n hx hb dX5_may_18 rfl (lv_at hl 1 rfl) ?_
      refine lv_sipush (v := 4096) hx hb dX5_may_19 (by decide) ?_
      refine lv_iload_n hx hb dX5_may_22 rfl (lv_at hl 2 rfl) ?_
      refine lv_isub hx hb dX5_may_23 ?_
      refine lv_icmp_le (tgt := 34) hx hb dX5_may_24 (by decide) (fun c_24 => ?_) (fun c_24 => ?_)
      · refine lv_aload_n hx hb dX5_may_34 rfl (lv_at hl 0 rfl) ?_
        refine va_get (D := (dC, dI)) (ci := 3) (v := .int (bi (r_trapped x))) (C := RX5) (T := TX5) (N := 15) hx hb hB iX5 hown hK hP 0 rfl rfl 11 (by decide) (hB _ q_t3_2) (fun _ h9 => h9) rfl dX5_may_35 ?_
        refine lv_if_ne (tgt := 45) hx hb dX5_may_38 (by decide) (fun c_38 => ?_) (fun c_38 => ?_)
        · refine lv_iconst (v := 0) hx hb dX5_may_45 (by decide) ?_
          exact W.zret (v := (0 : Int32)) hx hb hr rfl (fun t ht hW => ⟨⟨(0 : Int32), x, rfl, ⟨(by unfold fX5_may; rw [if_pos c_5, if_neg c_15, if_pos c_24, if_neg c_38] <;> rfl), (by unfold fX5_may; rw [if_pos c_5, if_neg c_15, if_pos c_24, if_neg c_38] <;> rfl)⟩, hpT ht hP⟩, hS.F ht⟩) hS.2.2 dX5_may_46
        · refine lv_iconst (v := 1) hx hb dX5_may_41 (by decide) ?_
          refine lv_goto (tgt := 46) hx hb dX5_may_42 (by decide) ?_
          exact W.zret (v := (1 : Int32)) hx hb hr rfl (fun t ht hW => ⟨⟨(1 : Int32), x, rfl, ⟨(by unfold fX5_may; rw [if_pos c_5, if_neg c_15, if_pos c_24, if_pos c_38] <;> rfl), (by unfold fX5_may; rw [if_pos c_5, if_neg c_15, if_pos c_24, if_pos c_38] <;> rfl)⟩, hpT ht hP⟩, hS.F ht⟩) hS.2.2 dX5_may_46
      · refine lv_aload_n hx hb dX5_may_27 rfl (lv_at hl 0 rfl) ?_
        refine lv_iload hx hb dX5_may_28 (lv_at hl 4 rfl) ?_
        refine lv_iload_n hx hb dX5_may_30 rfl (lv_at hl 1 rfl) ?_
        refine k_mv (w := wR bH bM bR bC jM jR jC) wR_ad (va_runV (As := [.int p3, .int p0]) (rest := []) ⟨hx, hb, hml, hown, hB⟩ (mX5_trap l dC dI bH bM bR bC jM jR jC s.heap.size x p3 p0) (cwV 2 hB (gV q_t3_70 q_t3_72 q_s_35 q_t1_4 wX5_trap) rfl rfl rfl hX5_trap ⟨Nat.le_of_ble_eq_true rfl, Nat.le_of_ble_eq_true rfl⟩) ⟨kM_blind NT_blind, va_recv hK hP (ci := 3) (q0 := 0) rfl rfl, kM_pre NT_warm hP hK hD hN⟩ rfl rfl hl.1 rfl (lv_room (Nat.le_of_ble_eq_true rfl)) dX5_may_31 ⟨Nat.zero_le _, Nat.zero_le _⟩) hD hS hA (fun u H locs hw hP hD hS => ?_)
        obtain rfl := hw
        refine lv_aload_n hx hb dX5_may_34 rfl (lv_at hl 0 rfl) ?_
        refine va_get (D := (dC, dI)) (ci := 3) (v := .int (bi (r_trapped (fX5_trap p3 p0 x)))) (C := RX5) (T := TX5) (N := 15) hx hb hB iX5 hown hK hP 0 rfl rfl 11 (by decide) (hB _ q_t3_2) (fun _ h9 => h9) rfl dX5_may_35 ?_
        refine lv_if_ne (tgt := 45) hx hb dX5_may_38 (by decide) (fun c_38 => ?_) (fun c_38 => ?_)
        · refine lv_iconst (v := 0) hx hb dX5_may_45 (by decide) ?_
          exact W.zret (v := (0 : Int32)) hx hb hr rfl (fun t ht hW => ⟨⟨(0 : Int32), (fX5_trap p3 p0 x), rfl, ⟨(by unfold fX5_may; rw [if_pos c_5, if_neg c_15, if_neg c_24, if_neg c_38] <;> rfl), (by unfold fX5_may; rw [if_pos c_5, if_neg c_15, if_neg c_24, if_neg c_38] <;> rfl)⟩, hpT ht hP⟩, hS.F ht⟩) hS.2.2 dX5_may_46
        · refine lv_iconst (v := 1) hx hb dX5_may_41 (by decide) ?_
          refine lv_goto (tgt := 46) hx hb dX5_may_42 (by decide) ?_
          exact W.zret (v := (1 : Int32)) hx hb hr rfl (fun t ht hW => ⟨⟨(1 : Int32), (fX5_trap p3 p0 x), rfl, ⟨(by unfold fX5_may; rw [if_pos c_5, if_neg c_15, if_neg c_24, if_pos c_38] <;> rfl), (by unfold fX5_may; rw [if_pos c_5, if_neg c_15, if_neg c_24, if_pos c_38] <;> rfl)⟩, hpT ht hP⟩, hS.F ht⟩) hS.2.2 dX5_may_46
  · refine lv_aload_n hx hb dX5_may_8 rfl (lv_at hl 0 rfl) ?_
    refine lv_iload_n hx hb dX5_may_9 rfl (lv_at hl 3 rfl) ?_
    refine lv_iload_n hx hb dX5_may_10 rfl (lv_at hl 1 rfl) ?_
    refine k_mv (w := wR bH bM bR bC jM jR jC) wR_ad (va_runV (As := [.int p2, .int p0]) (rest := []) ⟨hx, hb, hml, hown, hB⟩ (mX5_trap l dC dI bH bM bR bC jM jR jC s.heap.size x p2 p0) (cwV 2 hB (gV q_t3_70 q_t3_72 q_s_35 q_t1_4 wX5_trap) rfl rfl rfl hX5_trap ⟨Nat.le_of_ble_eq_true rfl, Nat.le_of_ble_eq_true rfl⟩) ⟨kM_blind NT_blind, va_recv hK hP (ci := 3) (q0 := 0) rfl rfl, kM_pre NT_warm hP hK hD hN⟩ rfl rfl hl.1 rfl (lv_room (Nat.le_of_ble_eq_true rfl)) dX5_may_11 ⟨Nat.zero_le _, Nat.zero_le _⟩) hD hS hA (fun u H locs hw hP hD hS => ?_)
    obtain rfl := hw
    refine lv_iload_n hx hb dX5_may_14 rfl (lv_at hl 1 rfl) ?_
    refine lv_if_lt (tgt := 27) hx hb dX5_may_15 (by decide) (fun c_15 => ?_) (fun c_15 => ?_)
    · refine lv_aload_n hx hb dX5_may_27 rfl (lv_at hl 0 rfl) ?_
      refine lv_iload hx hb dX5_may_28 (lv_at hl 4 rfl) ?_
      refine lv_iload_n hx hb dX5_may_30 rfl (lv_at hl 1 rfl) ?_
      refine k_mv (w := wR bH bM bR bC jM jR jC) wR_ad (va_runV (As := [.int p3, .int p0]) (rest := []) ⟨hx, hb, hml, hown, hB⟩ (mX5_trap l dC dI bH bM bR bC jM jR jC H.size (fX5_trap p2 p0 x) p3 p0) (cwV 2 hB (gV q_t3_70 q_t3_72 q_s_35 q_t1_4 wX5_trap) rfl rfl rfl hX5_trap ⟨Nat.le_of_ble_eq_true rfl, Nat.le_of_ble_eq_true rfl⟩) ⟨kM_blind NT_blind, va_recv hK hP (ci := 3) (q0 := 0) rfl rfl, kM_pre NT_warm hP hK hD hN⟩ rfl rfl hl.1 rfl (lv_room (Nat.le_of_ble_eq_true rfl)) dX5_may_31 ⟨Nat.zero_le _, Nat.zero_le _⟩) hD hS hA (fun u H locs hw hP hD hS => ?_)
      obtain rfl := hw
      refine lv_aload_n hx hb dX5_may_34 rfl (lv_at hl 0 rfl) ?_
      refine va_get (D := (dC, dI)) (ci := 3) (v := .int (bi (r_trapped (fX5_trap p3 p0 (fX5_trap p2 p0 x))))) (C := RX5) (T := TX5) (N := 15) hx hb hB iX5 hown hK hP 0 rfl rfl 11 (by decide) (hB _ q_t3_2) (fun _ h9 => h9) rfl dX5_may_35 ?_
      refine lv_if_ne (tgt := 45) hx hb dX5_may_38 (by decide) (fun c_38 => ?_) (fun c_38 => ?_)
      · refine lv_iconst (v := 0) hx hb dX5_may_45 (by decide) ?_
        exact W.zret (v := (0 : Int32)) hx hb hr rfl (fun t ht hW => ⟨⟨(0 : Int32), (fX5_trap p3 p0 (fX5_trap p2 p0 x)), rfl, ⟨(by unfold fX5_may; rw [if_neg c_5, if_pos c_15, if_neg c_38] <;> rfl), (by unfold fX5_may; rw [if_neg c_5, if_pos c_15, if_neg c_38] <;> rfl)⟩, hpT ht hP⟩, hS.F ht⟩) hS.2.2 dX5_may_46
      · refine lv_iconst (v := 1) hx hb dX5_may_41 (by decide) ?_
        refine lv_goto (tgt := 46) hx hb dX5_may_42 (by decide) ?_
        exact W.zret (v := (1 : Int32)) hx hb hr rfl (fun t ht hW => ⟨⟨(1 : Int32), (fX5_trap p3 p0 (fX5_trap p2 p0 x)), rfl, ⟨(by unfold fX5_may; rw [if_neg c_5, if_pos c_15, if_pos c_38] <;> rfl), (by unfold fX5_may; rw [if_neg c_5, if_pos c_15, if_pos c_38] <;> rfl)⟩, hpT ht hP⟩, hS.F ht⟩) hS.2.2 dX5_may_46
    · refine lv_iload_n hx hb dX5_may_18 rfl (lv_at hl 1 rfl) ?_
      refine lv_sipush (v := 4096) hx hb dX5_may_19 (by decide) ?_
      refine lv_iload_n hx hb dX5_may_22 rfl (lv_at hl 2 rfl) ?_
      refine lv_isub hx hb dX5_may_23 ?_
      refine lv_icmp_le (tgt := 34) hx hb dX5_may_24 (by decide) (fun c_24 => ?_) (fun c_24 => ?_)
      · refine lv_aload_n hx hb dX5_may_34 rfl (lv_at hl 0 rfl) ?_
        refine va_get (D := (dC, dI)) (ci := 3) (v := .int (bi (r_trapped (fX5_trap p2 p0 x)))) (C := RX5) (T := TX5) (N := 15) hx hb hB iX5 hown hK hP 0 rfl rfl 11 (by decide) (hB _ q_t3_2) (fun _ h9 => h9) rfl dX5_may_35 ?_
        refine lv_if_ne (tgt := 45) hx hb dX5_may_38 (by decide) (fun c_38 => ?_) (fun c_38 => ?_)
        · refine lv_iconst (v := 0) hx hb dX5_may_45 (by decide) ?_
          exact W.zret (v := (0 : Int32)) hx hb hr rfl (fun t ht hW => ⟨⟨(0 : Int32), (fX5_trap p2 p0 x), rfl, ⟨(by unfold fX5_may; rw [if_neg c_5, if_neg c_15, if_pos c_24, if_neg c_38] <;> rfl), (by unfold fX5_may; rw [if_neg c_5, if_neg c_15, if_pos c_24, if_neg c_38] <;> rfl)⟩, hpT ht hP⟩, hS.F ht⟩) hS.2.2 dX5_may_46
        · refine lv_iconst (v := 1) hx hb dX5_may_41 (by decide) ?_
          refine lv_goto (tgt := 46) hx hb dX5_may_42 (by decide) ?_
          exact W.zret (v := (1 : Int32)) hx hb hr rfl (fun t ht hW => ⟨⟨(1 : Int32), (fX5_trap p2 p0 x), rfl, ⟨(by unfold fX5_may; rw [if_neg c_5, if_neg c_15, if_pos c_24, if_pos c_38] <;> rfl), (by unfold fX5_may; rw [if_neg c_5, if_neg c_15, if_pos c_24, if_pos c_38] <;> rfl)⟩, hpT ht hP⟩, hS.F ht⟩) hS.2.2 dX5_may_46
      · refine lv_aload_n hx hb dX5_may_27 rfl (lv_at hl 0 rfl) ?_
        refine lv_iload hx hb dX5_may_28 (lv_at hl 4 rfl) ?_
        refine lv_iload_n hx hb dX5_may_30 rfl (lv_at hl 1 rfl) ?_
        refine k_mv (w := wR bH bM bR bC jM jR jC) wR_ad (va_runV (As := [.int p3, .int p0]) (rest := []) ⟨hx, hb, hml, hown, hB⟩ (mX5_trap l dC dI bH bM bR bC jM jR jC H.size (fX5_trap p2 p0 x) p3 p0) (cwV 2 hB (gV q_t3_70 q_t3_72 q_s_35 q_t1_4 wX5_trap) rfl rfl rfl hX5_trap ⟨Nat.le_of_ble_eq_true rfl, Nat.le_of_ble_eq_true rfl⟩) ⟨kM_blind NT_blind, va_recv hK hP (ci := 3) (q0 := 0) rfl rfl, kM_pre NT_warm hP hK hD hN⟩ rfl rfl hl.1 rfl (lv_room (Nat.le_of_ble_eq_true rfl)) dX5_may_31 ⟨Nat.zero_le _, Nat.zero_le _⟩) hD hS hA (fun u H locs hw hP hD hS => ?_)
        obtain rfl := hw
        refine lv_aload_n hx hb dX5_may_34 rfl (lv_at hl 0 rfl) ?_
        refine va_get (D := (dC, dI)) (ci := 3) (v := .int (bi (r_trapped (fX5_trap p3 p0 (fX5_trap p2 p0 x))))) (C := RX5) (T := TX5) (N := 15) hx hb hB iX5 hown hK hP 0 rfl rfl 11 (by decide) (hB _ q_t3_2) (fun _ h9 => h9) rfl dX5_may_35 ?_
        refine lv_if_ne (tgt := 45) hx hb dX5_may_38 (by decide) (fun c_38 => ?_) (fun c_38 => ?_)
        · refine lv_iconst (v := 0) hx hb dX5_may_45 (by decide) ?_
          exact W.zret (v := (0 : Int32)) hx hb hr rfl (fun t ht hW => ⟨⟨(0 : Int32), (fX5_trap p3 p0 (fX5_trap p2 p0 x)), rfl, ⟨(by unfold fX5_may; rw [if_neg c_5, if_neg c_15, if_neg c_24, if_neg c_38] <;> rfl), (by unfold fX5_may; rw [if_neg c_5, if_neg c_15, if_neg c_24, if_neg c_38] <;> rfl)⟩, hpT ht hP⟩, hS.F ht⟩) hS.2.2 dX5_may_46
        · refine lv_iconst (v := 1) hx hb dX5_may_41 (by decide) ?_
          refine lv_goto (tgt := 46) hx hb dX5_may_42 (by decide) ?_
          exact W.zret (v := (1 : Int32)) hx hb hr rfl (fun t ht hW => ⟨⟨(1 : Int32), (fX5_trap p3 p0 (fX5_trap p2 p0 x)), rfl, ⟨(by unfold fX5_may; rw [if_neg c_5, if_neg c_15, if_neg c_24, if_pos c_38] <;> rfl), (by unfold fX5_may; rw [if_neg c_5, if_neg c_15, if_neg c_24, if_pos c_38] <;> rfl)⟩, hpT ht hP⟩, hS.F ht⟩) hS.2.2 dX5_may_46
def fX5_upper (p0 : Int32) (p1 : Int32) : Int32 := ((((ush p0 (16 : Int32)) * (ush p1 (16 : Int32))) + (ush ((ush p0 (16 : Int32)) * (p1 &&& (65535 : Int32))) (16 : Int32))) + (ush ((p0 &&& (65535 : Int32)) * (ush p1 (16 : Int32))) (16 : Int32))) + (ush (((ush ((p0 &&& (65535 : Int32)) * (p1 &&& (65535 : Int32))) (16 : Int32)) + (((ush p0 (16 : Int32)) * (p1 &&& (65535 : Int32))) &&& (65535 : Int32))) + (((p0 &&& (65535 : Int32)) * (ush p1 (16 : Int32))) &&& (65535 : Int32))) (16 : Int32))
set_option maxHeartbeats 4000000 in
set_option maxRecDepth 100000 in
theorem mX5_upper (l : Launch) (p0 : Int32) (p1 : Int32) : Met l yX5_upper wsX5_upper ({ frames := 0, cells := 0, slots := 0, locals := 0 }) (va_Pc [.int p0, .int p1] (fun _ => True)) (QcRead ((fX5_upper p0 p1))) 0 0 (fun _ => False) := by
  refine Met.ofW (cc := cX5_upper) (maxL := 10) (ret := (some .int)) (by decide) rfl ?_
  intro p e s m args below meth c s₁ B hml hv
  obtain ⟨rfl, -⟩ := hv
  have hx := B.exec
  have hb := B.bytes
  have hr := B.returns
  have hB := fun (w : Cond) (h : w ∈ BIG) => atoms_spec (ws := wsX5_upper) B.pre w (List.mem_cons_of_mem _ h)
  have hown : s.vm.findClass RX5 = some m.cls := findClass_of_methodNamed B.named
  have hlocks := B.notSynchronized
  have hl := lv_entry ([.int p0, .int p1]) (n := 10) (Nat.le_of_ble_eq_true rfl)
  rw [lg_entry_eq]
  generalize (lg_sl ([.int p0, .int p1]) ++ List.replicate (10 - (lg_sl ([.int p0, .int p1])).length) Slot.unset).toArray = ls at hl ⊢
  have hl : lv_has ls 10 [(0, .int p0), (1, .int p1)] := hl
  refine lv_iload_n hx hb dX5_upper_0 rfl (lv_at hl 0 rfl) ?_
  refine lv_ldc (v := 65535) hx hb hown (hB _ q_t3_138) dX5_upper_1 ?_
  refine lv_iand hx hb dX5_upper_3 ?_
  refine lv_istore_n (lv' := [(2, .int (p0 &&& (65535 : Int32))), (0, .int p0), (1, .int p1)]) hx hb dX5_upper_4 rfl hl (by decide) rfl (fun ls hl => ?_)
  refine lv_iload_n hx hb dX5_upper_5 rfl (lv_at hl 1 rfl) ?_
  refine lv_bipush (v := 16) hx hb dX5_upper_6 (by decide) ?_
  refine lv_iushr (v := ush p0 (16 : Int32)) hx hb dX5_upper_8 rfl ?_
  refine lv_istore_n (lv' := [(3, .int (ush p0 (16 : Int32))), (2, .int (p0 &&& (65535 : Int32))), (0, .int p0), (1, .int p1)]) hx hb dX5_upper_9 rfl hl (by decide) rfl (fun ls hl => ?_)
  refine lv_iload_n hx hb dX5_upper_10 rfl (lv_at hl 3 rfl) ?_
  refine lv_ldc (v := 65535) hx hb hown (hB _ q_t3_138) dX5_upper_11 ?_
  refine lv_iand hx hb dX5_upper_13 ?_
  refine lv_istore (lv' := [(4, .int (p1 &&& (65535 : Int32))), (3, .int (ush p0 (16 : Int32))), (2, .int (p0 &&& (65535 : Int32))), (0, .int p0), (1, .int p1)]) hx hb dX5_upper_14 hl (by decide) rfl (fun ls hl => ?_)
  refine lv_iload_n hx hb dX5_upper_16 rfl (lv_at hl 4 rfl) ?_
  refine lv_bipush (v := 16) hx hb dX5_upper_17 (by decide) ?_
  refine lv_iushr (v := ush p1 (16 : Int32)) hx hb dX5_upper_19 rfl ?_
  refine lv_istore (lv' := [(5, .int (ush p1 (16 : Int32))), (4, .int (p1 &&& (65535 : Int32))), (3, .int (ush p0 (16 : Int32))), (2, .int (p0 &&& (65535 : Int32))), (0, .int p0), (1, .int p1)]) hx hb dX5_upper_20 hl (by decide) rfl (fun ls hl => ?_)
  refine lv_iload_n hx hb dX5_upper_22 rfl (lv_at hl 3 rfl) ?_
  refine lv_iload hx hb dX5_upper_23 (lv_at hl 1 rfl) ?_
  refine lv_imul hx hb dX5_upper_25 ?_
  refine lv_bipush (v := 16) hx hb dX5_upper_26 (by decide) ?_
  refine lv_iushr (v := ush ((p0 &&& (65535 : Int32)) * (p1 &&& (65535 : Int32))) (16 : Int32)) hx hb dX5_upper_28 rfl ?_
  refine lv_istore (lv' := [(6, .int (ush ((p0 &&& (65535 : Int32)) * (p1 &&& (65535 : Int32))) (16 : Int32))), (5, .int (ush p1 (16 : Int32))), (4, .int (p1 &&& (65535 : Int32))), (3, .int (ush p0 (16 : Int32))), (2, .int (p0 &&& (65535 : Int32))), (0, .int p0), (1, .int p1)]) hx hb dX5_upper_29 hl (by decide) rfl (fun ls hl => ?_)
  refine lv_iload_n hx hb dX5_upper_31 rfl (lv_at hl 3 rfl) ?_
  refine lv_iload hx hb dX5_upper_32 (lv_at hl 2 rfl) ?_
  refine lv_imul hx hb dX5_upper_34 ?_
  refine lv_istore (lv' := [(7, .int ((ush p0 (16 : Int32)) * (p1 &&& (65535 : Int32)))), (6, .int (ush ((p0 &&& (65535 : Int32)) * (p1 &&& (65535 : Int32))) (16 : Int32))), (5, .int (ush p1 (16 : Int32))), (4, .int (p1 &&& (65535 : Int32))), (3, .int (ush p0 (16 : Int32))), (2, .int (p0 &&& (65535 : Int32))), (0, .int p0), (1, .int p1)]) hx hb dX5_upper_35 hl (by decide) rfl (fun ls hl => ?_)
  refine lv_iload_n hx hb dX5_upper_37 rfl (lv_at hl 5 rfl) ?_
  refine lv_iload hx hb dX5_upper_38 (lv_at hl 2 rfl) ?_
  refine lv_imul hx hb dX5_upper_40 ?_
  refine lv_istore (lv' := [(8, .int ((p0 &&& (65535 : Int32)) * (ush p1 (16 : Int32)))), (7, .int ((ush p0 (16 : Int32)) * (p1 &&& (65535 : Int32)))), (6, .int (ush ((p0 &&& (65535 : Int32)) * (p1 &&& (65535 : Int32))) (16 : Int32))), (5, .int (ush p1 (16 : Int32))), (4, .int (p1 &&& (65535 : Int32))), (3, .int (ush p0 (16 : Int32))), (2, .int (p0 &&& (65535 : Int32))), (0, .int p0), (1, .int p1)]) hx hb dX5_upper_41 hl (by decide) rfl (fun ls hl => ?_)
  refine lv_iload hx hb dX5_upper_43 (lv_at hl 2 rfl) ?_
  refine lv_iload hx hb dX5_upper_45 (lv_at hl 1 rfl) ?_
  refine lv_ldc (v := 65535) hx hb hown (hB _ q_t3_138) dX5_upper_47 ?_
  refine lv_iand hx hb dX5_upper_49 ?_
  refine lv_iadd hx hb dX5_upper_50 ?_
  refine lv_iload hx hb dX5_upper_51 (lv_at hl 0 rfl) ?_
  refine lv_ldc (v := 65535) hx hb hown (hB _ q_t3_138) dX5_upper_53 ?_
  refine lv_iand hx hb dX5_upper_55 ?_
  refine lv_iadd hx hb dX5_upper_56 ?_
  refine lv_istore (lv' := [(9, .int (((ush ((p0 &&& (65535 : Int32)) * (p1 &&& (65535 : Int32))) (16 : Int32)) + (((ush p0 (16 : Int32)) * (p1 &&& (65535 : Int32))) &&& (65535 : Int32))) + (((p0 &&& (65535 : Int32)) * (ush p1 (16 : Int32))) &&& (65535 : Int32)))), (8, .int ((p0 &&& (65535 : Int32)) * (ush p1 (16 : Int32)))), (7, .int ((ush p0 (16 : Int32)) * (p1 &&& (65535 : Int32)))), (6, .int (ush ((p0 &&& (65535 : Int32)) * (p1 &&& (65535 : Int32))) (16 : Int32))), (5, .int (ush p1 (16 : Int32))), (4, .int (p1 &&& (65535 : Int32))), (3, .int (ush p0 (16 : Int32))), (2, .int (p0 &&& (65535 : Int32))), (0, .int p0), (1, .int p1)]) hx hb dX5_upper_57 hl (by decide) rfl (fun ls hl => ?_)
  refine lv_iload_n hx hb dX5_upper_59 rfl (lv_at hl 6 rfl) ?_
  refine lv_iload hx hb dX5_upper_60 (lv_at hl 4 rfl) ?_
  refine lv_imul hx hb dX5_upper_62 ?_
  refine lv_iload hx hb dX5_upper_63 (lv_at hl 2 rfl) ?_
  refine lv_bipush (v := 16) hx hb dX5_upper_65 (by decide) ?_
  refine lv_iushr (v := ush ((ush p0 (16 : Int32)) * (p1 &&& (65535 : Int32))) (16 : Int32)) hx hb dX5_upper_67 rfl ?_
  refine lv_iadd hx hb dX5_upper_68 ?_
  refine lv_iload hx hb dX5_upper_69 (lv_at hl 1 rfl) ?_
  refine lv_bipush (v := 16) hx hb dX5_upper_71 (by decide) ?_
  refine lv_iushr (v := ush ((p0 &&& (65535 : Int32)) * (ush p1 (16 : Int32))) (16 : Int32)) hx hb dX5_upper_73 rfl ?_
  refine lv_iadd hx hb dX5_upper_74 ?_
  refine lv_iload hx hb dX5_upper_75 (lv_at hl 0 rfl) ?_
  refine lv_bipush (v := 16) hx hb dX5_upper_77 (by decide) ?_
  refine lv_iushr (v := ush (((ush ((p0 &&& (65535 : Int32)) * (p1 &&& (65535 : Int32))) (16 : Int32)) + (((ush p0 (16 : Int32)) * (p1 &&& (65535 : Int32))) &&& (65535 : Int32))) + (((p0 &&& (65535 : Int32)) * (ush p1 (16 : Int32))) &&& (65535 : Int32))) (16 : Int32)) hx hb dX5_upper_79 rfl ?_
  refine lv_iadd hx hb dX5_upper_80 ?_
  exact W.iret (v := ((((ush p0 (16 : Int32)) * (ush p1 (16 : Int32))) + (ush ((ush p0 (16 : Int32)) * (p1 &&& (65535 : Int32))) (16 : Int32))) + (ush ((p0 &&& (65535 : Int32)) * (ush p1 (16 : Int32))) (16 : Int32))) + (ush (((ush ((p0 &&& (65535 : Int32)) * (p1 &&& (65535 : Int32))) (16 : Int32)) + (((ush p0 (16 : Int32)) * (p1 &&& (65535 : Int32))) &&& (65535 : Int32))) + (((p0 &&& (65535 : Int32)) * (ush p1 (16 : Int32))) &&& (65535 : Int32))) (16 : Int32))) hx hb hr (fun t ht hW => ⟨congrArg (fun z => Outcome.returned (some (Value.int z))) rfl, ht⟩) (fun q h => nomatch h) dX5_upper_81
def fX5_controlOf (p0 : Int32) : Int32 := if p0 = (768 : Int32) then
    (0 : Int32)
  else
    if p0 = (772 : Int32) then
      (1 : Int32)
    else
      if p0 = (773 : Int32) then
        (2 : Int32)
      else
        if p0 = (832 : Int32) then
          (3 : Int32)
        else
          if p0 = (833 : Int32) then
            (4 : Int32)
          else
            if p0 = (834 : Int32) then
              (5 : Int32)
            else
              if p0 = (835 : Int32) then
                (6 : Int32)
              else
                if p0 = (836 : Int32) then
                  (7 : Int32)
                else
                  if p0 = (2816 : Int32) then
                    (8 : Int32)
                  else
                    (-1 : Int32)
set_option maxHeartbeats 4000000 in
set_option maxRecDepth 100000 in
theorem mX5_controlOf (l : Launch) (p0 : Int32) : Met l yX5_controlOf wsX5_controlOf ({ frames := 0, cells := 0, slots := 0, locals := 0 }) (va_Pc [.int p0] (fun _ => True)) (QcRead ((fX5_controlOf p0))) 0 0 (fun _ => False) := by
  refine Met.ofW (cc := cX5_controlOf) (maxL := 1) (ret := (some .int)) (by decide) rfl ?_
  intro p e s m args below meth c s₁ B hml hv
  obtain ⟨rfl, -⟩ := hv
  have hx := B.exec
  have hb := B.bytes
  have hr := B.returns
  have hB := fun (w : Cond) (h : w ∈ BIG) => atoms_spec (ws := wsX5_controlOf) B.pre w (List.mem_cons_of_mem _ h)
  have hown : s.vm.findClass RX5 = some m.cls := findClass_of_methodNamed B.named
  have hlocks := B.notSynchronized
  have hl := lv_entry ([.int p0]) (n := 1) (Nat.le_of_ble_eq_true rfl)
  rw [lg_entry_eq]
  generalize (lg_sl ([.int p0]) ++ List.replicate (1 - (lg_sl ([.int p0])).length) Slot.unset).toArray = ls at hl ⊢
  have hl : lv_has ls 1 [(0, .int p0)] := hl
  refine lv_iload_n hx hb dX5_controlOf_0 rfl (lv_at hl 0 rfl) ?_
  by_cases c_1_768 : p0 = (768 : Int32)
  · refine lv_lookup (off := 83) (tgt := 84) hx hb dX5_controlOf_1 (by decide) (by rw [c_1_768]; decide) (by decide) ?_
    refine lv_iconst (v := 0) hx hb dX5_controlOf_84 (by decide) ?_
    exact W.iret (v := (0 : Int32)) hx hb hr (fun t ht hW => ⟨congrArg (fun z => Outcome.returned (some (Value.int z))) (by unfold fX5_controlOf; rw [if_pos c_1_768] <;> rfl), ht⟩) (fun q h => nomatch h) dX5_controlOf_85
  by_cases c_1_772 : p0 = (772 : Int32)
  · refine lv_lookup (off := 85) (tgt := 86) hx hb dX5_controlOf_1 (by decide) (by rw [c_1_772]; decide) (by decide) ?_
    refine lv_iconst (v := 1) hx hb dX5_controlOf_86 (by decide) ?_
    exact W.iret (v := (1 : Int32)) hx hb hr (fun t ht hW => ⟨congrArg (fun z => Outcome.returned (some (Value.int z))) (by unfold fX5_controlOf; rw [if_neg c_1_768, if_pos c_1_772] <;> rfl), ht⟩) (fun q h => nomatch h) dX5_controlOf_87
  by_cases c_1_773 : p0 = (773 : Int32)
  · refine lv_lookup (off := 87) (tgt := 88) hx hb dX5_controlOf_1 (by decide) (by rw [c_1_773]; decide) (by decide) ?_
    refine lv_iconst (v := 2) hx hb dX5_controlOf_88 (by decide) ?_
    exact W.iret (v := (2 : Int32)) hx hb hr (fun t ht hW => ⟨congrArg (fun z => Outcome.returned (some (Value.int z))) (by unfold fX5_controlOf; rw [if_neg c_1_768, if_neg c_1_772, if_pos c_1_773] <;> rfl), ht⟩) (fun q h => nomatch h) dX5_controlOf_89
  by_cases c_1_832 : p0 = (832 : Int32)
  · refine lv_lookup (off := 89) (tgt := 90) hx hb dX5_controlOf_1 (by decide) (by rw [c_1_832]; decide) (by decide) ?_
    refine lv_iconst (v := 3) hx hb dX5_controlOf_90 (by decide) ?_
    exact W.iret (v := (3 : Int32)) hx hb hr (fun t ht hW => ⟨congrArg (fun z => Outcome.returned (some (Value.int z))) (by unfold fX5_controlOf; rw [if_neg c_1_768, if_neg c_1_772, if_neg c_1_773, if_pos c_1_832] <;> rfl), ht⟩) (fun q h => nomatch h) dX5_controlOf_91
  by_cases c_1_833 : p0 = (833 : Int32)
  · refine lv_lookup (off := 91) (tgt := 92) hx hb dX5_controlOf_1 (by decide) (by rw [c_1_833]; decide) (by decide) ?_
    refine lv_iconst (v := 4) hx hb dX5_controlOf_92 (by decide) ?_
    exact W.iret (v := (4 : Int32)) hx hb hr (fun t ht hW => ⟨congrArg (fun z => Outcome.returned (some (Value.int z))) (by unfold fX5_controlOf; rw [if_neg c_1_768, if_neg c_1_772, if_neg c_1_773, if_neg c_1_832, if_pos c_1_833] <;> rfl), ht⟩) (fun q h => nomatch h) dX5_controlOf_93
  by_cases c_1_834 : p0 = (834 : Int32)
  · refine lv_lookup (off := 93) (tgt := 94) hx hb dX5_controlOf_1 (by decide) (by rw [c_1_834]; decide) (by decide) ?_
    refine lv_iconst (v := 5) hx hb dX5_controlOf_94 (by decide) ?_
    exact W.iret (v := (5 : Int32)) hx hb hr (fun t ht hW => ⟨congrArg (fun z => Outcome.returned (some (Value.int z))) (by unfold fX5_controlOf; rw [if_neg c_1_768, if_neg c_1_772, if_neg c_1_773, if_neg c_1_832, if_neg c_1_833, if_pos c_1_834] <;> rfl), ht⟩) (fun q h => nomatch h) dX5_controlOf_95
  by_cases c_1_835 : p0 = (835 : Int32)
  · refine lv_lookup (off := 95) (tgt := 96) hx hb dX5_controlOf_1 (by decide) (by rw [c_1_835]; decide) (by decide) ?_
    refine lv_bipush (v := 6) hx hb dX5_controlOf_96 (by decide) ?_
    exact W.iret (v := (6 : Int32)) hx hb hr (fun t ht hW => ⟨congrArg (fun z => Outcome.returned (some (Value.int z))) (by unfold fX5_controlOf; rw [if_neg c_1_768, if_neg c_1_772, if_neg c_1_773, if_neg c_1_832, if_neg c_1_833, if_neg c_1_834, if_pos c_1_835] <;> rfl), ht⟩) (fun q h => nomatch h) dX5_controlOf_98
  by_cases c_1_836 : p0 = (836 : Int32)
  · refine lv_lookup (off := 98) (tgt := 99) hx hb dX5_controlOf_1 (by decide) (by rw [c_1_836]; decide) (by decide) ?_
    refine lv_bipush (v := 7) hx hb dX5_controlOf_99 (by decide) ?_
    exact W.iret (v := (7 : Int32)) hx hb hr (fun t ht hW => ⟨congrArg (fun z => Outcome.returned (some (Value.int z))) (by unfold fX5_controlOf; rw [if_neg c_1_768, if_neg c_1_772, if_neg c_1_773, if_neg c_1_832, if_neg c_1_833, if_neg c_1_834, if_neg c_1_835, if_pos c_1_836] <;> rfl), ht⟩) (fun q h => nomatch h) dX5_controlOf_101
  by_cases c_1_2816 : p0 = (2816 : Int32)
  · refine lv_lookup (off := 101) (tgt := 102) hx hb dX5_controlOf_1 (by decide) (by rw [c_1_2816]; decide) (by decide) ?_
    refine lv_bipush (v := 8) hx hb dX5_controlOf_102 (by decide) ?_
    exact W.iret (v := (8 : Int32)) hx hb hr (fun t ht hW => ⟨congrArg (fun z => Outcome.returned (some (Value.int z))) (by unfold fX5_controlOf; rw [if_neg c_1_768, if_neg c_1_772, if_neg c_1_773, if_neg c_1_832, if_neg c_1_833, if_neg c_1_834, if_neg c_1_835, if_neg c_1_836, if_pos c_1_2816] <;> rfl), ht⟩) (fun q h => nomatch h) dX5_controlOf_104
  refine lv_lookup (off := 104) (tgt := 105) hx hb dX5_controlOf_1 (by decide) ((lv_osw c_1_768 (by decide)).trans ((lv_osw c_1_772 (by decide)).trans ((lv_osw c_1_773 (by decide)).trans ((lv_osw c_1_832 (by decide)).trans ((lv_osw c_1_833 (by decide)).trans ((lv_osw c_1_834 (by decide)).trans ((lv_osw c_1_835 (by decide)).trans ((lv_osw c_1_836 (by decide)).trans ((lv_osw c_1_2816 (by decide)).trans rfl))))))))) (by decide) ?_
  refine lv_iconst (v := -1) hx hb dX5_controlOf_105 (by decide) ?_
  exact W.iret (v := (-1 : Int32)) hx hb hr (fun t ht hW => ⟨congrArg (fun z => Outcome.returned (some (Value.int z))) (by unfold fX5_controlOf; rw [if_neg c_1_768, if_neg c_1_772, if_neg c_1_773, if_neg c_1_832, if_neg c_1_833, if_neg c_1_834, if_neg c_1_835, if_neg c_1_836, if_neg c_1_2816] <;> rfl), ht⟩) (fun q h => nomatch h) dX5_controlOf_106
def fX5_line (p0 : Bool) (x : SR) : SR := t_line (t_thrown x (0 : Int32)) p0
set_option maxHeartbeats 4000000 in
set_option maxRecDepth 100000 in
theorem mX5_line (l : Launch) (dC : Nat → ClassId) (dI : Nat → Nat → Nat) (bH bM bR bC jM jR jC : Nat) (sz : Nat) (x : SR) (p0 : Bool) : Met l yX5_line wsX5_line ({ frames := 0, cells := 0, slots := 0, locals := 0 }) (va_Pc [.ref bH, .int (bi p0)] (kM (dC, dI) [(jM, .int), (jR, .int), (jC, .int)] NT (wR bH bM bR bC jM jR jC x) sz)) (va_Qv (fun u => u = fX5_line p0 x) (fun u t => va_P (dC, dI) vwCl (wR bH bM bR bC jM jR jC u) t.heap) (va_A (wR bH bM bR bC jM jR jC x) sz)) 0 0 (va_A (wR bH bM bR bC jM jR jC x) sz) := by
  refine Met.ofW (cc := cX5_line) (maxL := 2) (ret := none) (by decide) rfl ?_
  intro p e s m args below meth c s₁ B hml hv
  obtain ⟨rfl, hsz, hD0, hP, hK, hN⟩ := hv
  have hx := B.exec
  have hb := B.bytes
  have hr := B.returns
  have hB := fun (w : Cond) (h : w ∈ BIG) => atoms_spec (ws := wsX5_line) B.pre w (List.mem_cons_of_mem _ h)
  have hown : s.vm.findClass RX5 = some m.cls := findClass_of_methodNamed B.named
  have hlocks := B.notSynchronized
  subst hsz
  have hD := hD0.self (sz := s.heap.size)
  generalize hAe : va_A (wR bH bM bR bC jM jR jC x) s.heap.size = A at hD ⊢
  have hA : ∀ q : Nat, s.heap.size ≤ q → A q := fun q h => by rw [← hAe]; exact Or.inr h
  have hS : va_S A s.heap s.heap [] := va_S.rf
  have hl := lv_entry ([.ref bH, .int (bi p0)]) (n := 2) (Nat.le_of_ble_eq_true rfl)
  rw [lg_entry_eq]
  generalize (lg_sl ([.ref bH, .int (bi p0)]) ++ List.replicate (2 - (lg_sl ([.ref bH, .int (bi p0)])).length) Slot.unset).toArray = ls at hl ⊢
  have hl : lv_has ls 2 [(0, .ref bH), (1, .int (bi p0))] := hl
  refine lv_aload_n hx hb dX5_line_0 rfl (lv_at hl 0 rfl) ?_
  refine lv_iconst (v := 0) hx hb dX5_line_1 (by decide) ?_
  refine va_put (D := (dC, dI)) (ci := 3) (v := .int (0 : Int32)) (ty := .int) (C := RX5) (T := TX5) (N := 15) hx hb hB iX5 tyX5 tyX5_ok nmX5 hown hK hP hD hS 0 rfl rfl 0 (by decide) (hB _ q_t2_231) (fun _ h9 => h9) rfl (by decide +kernel) rfl rfl (Nat.le_of_ble_eq_true rfl) dX5_line_2 (fun H locs hP hD hS => ?_)
  have hP : va_P (dC, dI) vwCl (wR bH bM bR bC jM jR jC (t_thrown x (0 : Int32))) H := hP
  have hD : va_D A (wR bH bM bR bC jM jR jC (t_thrown x (0 : Int32))) := hD
  refine lv_aload_n hx hb dX5_line_5 rfl (lv_at hl 0 rfl) ?_
  refine lv_iload_n hx hb dX5_line_6 rfl (lv_at hl 1 rfl) ?_
  refine va_put (D := (dC, dI)) (ci := 3) (v := .int (bi p0)) (ty := .boolean) (C := RX5) (T := TX5) (N := 15) hx hb hB iX5 tyX5 tyX5_ok nmX5 hown hK hP hD hS 0 rfl rfl 5 (by decide) (hB _ q_t2_236) (fun _ h9 => h9) rfl (by decide +kernel) (bi_nar _) (bi_fit _) (Nat.le_of_ble_eq_true rfl) dX5_line_7 (fun H locs hP hD hS => ?_)
  have hP : va_P (dC, dI) vwCl (wR bH bM bR bC jM jR jC (t_line (t_thrown x (0 : Int32)) p0)) H := hP
  have hD : va_D A (wR bH bM bR bC jM jR jC (t_line (t_thrown x (0 : Int32)) p0)) := hD
  exact W.vret hx hb hr (fun t ht hW => ⟨⟨(t_line (t_thrown x (0 : Int32)) p0), rfl, rfl, hpT ht hP⟩, hS.F ht⟩) hS.2.2 dX5_line_10
def fX5_state (p0 : Int32) (x : SR) : Int32 × SR := if p0 = (0 : Int32) then
    if (bi (r_stopped x)) = 0 then
      ((0 : Int32), t_thrown x (0 : Int32))
    else
      ((1 : Int32), t_thrown x (0 : Int32))
  else
    if p0 = (1 : Int32) then
      (r_steps x, t_thrown x (0 : Int32))
    else
      if p0 = (2 : Int32) then
        ((r_done x) &&& (2147483647 : Int32), t_thrown x (0 : Int32))
      else
        if p0 = (3 : Int32) then
          (r_traps x, t_thrown x (0 : Int32))
        else
          if p0 = (4 : Int32) then
            if (bi (r_line x)) = 0 then
              ((0 : Int32), t_thrown x (0 : Int32))
            else
              ((1 : Int32), t_thrown x (0 : Int32))
          else
            ((-1 : Int32), t_thrown x (0 : Int32))
set_option maxHeartbeats 4000000 in
set_option maxRecDepth 100000 in
theorem mX5_state (l : Launch) (dC : Nat → ClassId) (dI : Nat → Nat → Nat) (bH bM bR bC jM jR jC : Nat) (sz : Nat) (x : SR) (p0 : Int32) : Met l yX5_state wsX5_state ({ frames := 0, cells := 0, slots := 0, locals := 0 }) (va_Pc [.ref bH, .int p0] (kM (dC, dI) [(jM, .int), (jR, .int), (jC, .int)] NT (wR bH bM bR bC jM jR jC x) sz)) (va_Qi (fun r u => r = (fX5_state p0 x).1 ∧ u = (fX5_state p0 x).2) (fun u t => va_P (dC, dI) vwCl (wR bH bM bR bC jM jR jC u) t.heap) (va_A (wR bH bM bR bC jM jR jC x) sz)) 0 0 (va_A (wR bH bM bR bC jM jR jC x) sz) := by
  refine Met.ofW (cc := cX5_state) (maxL := 2) (ret := (some .int)) (by decide) rfl ?_
  intro p e s m args below meth c s₁ B hml hv
  obtain ⟨rfl, hsz, hD0, hP, hK, hN⟩ := hv
  have hx := B.exec
  have hb := B.bytes
  have hr := B.returns
  have hB := fun (w : Cond) (h : w ∈ BIG) => atoms_spec (ws := wsX5_state) B.pre w (List.mem_cons_of_mem _ h)
  have hown : s.vm.findClass RX5 = some m.cls := findClass_of_methodNamed B.named
  have hlocks := B.notSynchronized
  subst hsz
  have hD := hD0.self (sz := s.heap.size)
  generalize hAe : va_A (wR bH bM bR bC jM jR jC x) s.heap.size = A at hD ⊢
  have hA : ∀ q : Nat, s.heap.size ≤ q → A q := fun q h => by rw [← hAe]; exact Or.inr h
  have hS : va_S A s.heap s.heap [] := va_S.rf
  have hl := lv_entry ([.ref bH, .int p0]) (n := 2) (Nat.le_of_ble_eq_true rfl)
  rw [lg_entry_eq]
  generalize (lg_sl ([.ref bH, .int p0]) ++ List.replicate (2 - (lg_sl ([.ref bH, .int p0])).length) Slot.unset).toArray = ls at hl ⊢
  have hl : lv_has ls 2 [(0, .ref bH), (1, .int p0)] := hl
  refine lv_aload_n hx hb dX5_state_0 rfl (lv_at hl 0 rfl) ?_
  refine lv_iconst (v := 0) hx hb dX5_state_1 (by decide) ?_
  refine va_put (D := (dC, dI)) (ci := 3) (v := .int (0 : Int32)) (ty := .int) (C := RX5) (T := TX5) (N := 15) hx hb hB iX5 tyX5 tyX5_ok nmX5 hown hK hP hD hS 0 rfl rfl 0 (by decide) (hB _ q_t2_231) (fun _ h9 => h9) rfl (by decide +kernel) rfl rfl (Nat.le_of_ble_eq_true rfl) dX5_state_2 (fun H locs hP hD hS => ?_)
  have hP : va_P (dC, dI) vwCl (wR bH bM bR bC jM jR jC (t_thrown x (0 : Int32))) H := hP
  have hD : va_D A (wR bH bM bR bC jM jR jC (t_thrown x (0 : Int32))) := hD
  refine lv_iload_n hx hb dX5_state_5 rfl (lv_at hl 1 rfl) ?_
  by_cases c_6_0 : p0 = (0 : Int32)
  · refine lv_tableIn (off := 34) (tgt := 40) hx hb dX5_state_6 (by rw [c_6_0]; decide) (by rw [c_6_0]; decide) (by rw [c_6_0]; rfl) (by decide) ?_
    refine lv_aload_n hx hb dX5_state_40 rfl (lv_at hl 0 rfl) ?_
    refine va_get (D := (dC, dI)) (ci := 3) (v := .int (bi (r_stopped x))) (C := RX5) (T := TX5) (N := 15) hx hb hB iX5 hown hK hP 0 rfl rfl 6 (by decide) (hB _ q_t2_237) (fun _ h9 => h9) rfl dX5_state_41 ?_
    refine lv_if_eq (tgt := 51) hx hb dX5_state_44 (by decide) (fun c_44 => ?_) (fun c_44 => ?_)
    · refine lv_iconst (v := 0) hx hb dX5_state_51 (by decide) ?_
      exact W.iret (v := (0 : Int32)) hx hb hr (fun t ht hW => ⟨⟨(0 : Int32), (t_thrown x (0 : Int32)), rfl, ⟨(by unfold fX5_state; rw [if_pos c_6_0, if_pos c_44] <;> rfl), (by unfold fX5_state; rw [if_pos c_6_0, if_pos c_44] <;> rfl)⟩, hpT ht hP⟩, hS.F ht⟩) hS.2.2 dX5_state_52
    · refine lv_iconst (v := 1) hx hb dX5_state_47 (by decide) ?_
      refine lv_goto (tgt := 52) hx hb dX5_state_48 (by decide) ?_
      exact W.iret (v := (1 : Int32)) hx hb hr (fun t ht hW => ⟨⟨(1 : Int32), (t_thrown x (0 : Int32)), rfl, ⟨(by unfold fX5_state; rw [if_pos c_6_0, if_neg c_44] <;> rfl), (by unfold fX5_state; rw [if_pos c_6_0, if_neg c_44] <;> rfl)⟩, hpT ht hP⟩, hS.F ht⟩) hS.2.2 dX5_state_52
  by_cases c_6_1 : p0 = (1 : Int32)
  · refine lv_tableIn (off := 47) (tgt := 53) hx hb dX5_state_6 (by rw [c_6_1]; decide) (by rw [c_6_1]; decide) (by rw [c_6_1]; rfl) (by decide) ?_
    refine lv_aload_n hx hb dX5_state_53 rfl (lv_at hl 0 rfl) ?_
    refine va_get (D := (dC, dI)) (ci := 3) (v := .int (r_steps x)) (C := RX5) (T := TX5) (N := 15) hx hb hB iX5 hown hK hP 0 rfl rfl 7 (by decide) (hB _ q_t2_238) (fun _ h9 => h9) rfl dX5_state_54 ?_
    exact W.iret (v := r_steps x) hx hb hr (fun t ht hW => ⟨⟨r_steps x, (t_thrown x (0 : Int32)), rfl, ⟨(by unfold fX5_state; rw [if_neg c_6_0, if_pos c_6_1] <;> rfl), (by unfold fX5_state; rw [if_neg c_6_0, if_pos c_6_1] <;> rfl)⟩, hpT ht hP⟩, hS.F ht⟩) hS.2.2 dX5_state_57
  by_cases c_6_2 : p0 = (2 : Int32)
  · refine lv_tableIn (off := 52) (tgt := 58) hx hb dX5_state_6 (by rw [c_6_2]; decide) (by rw [c_6_2]; decide) (by rw [c_6_2]; rfl) (by decide) ?_
    refine lv_aload_n hx hb dX5_state_58 rfl (lv_at hl 0 rfl) ?_
    refine va_get (D := (dC, dI)) (ci := 3) (v := .int (r_done x)) (C := RX5) (T := TX5) (N := 15) hx hb hB iX5 hown hK hP 0 rfl rfl 8 (by decide) (hB _ q_t2_239) (fun _ h9 => h9) rfl dX5_state_59 ?_
    refine lv_ldc (v := 2147483647) hx hb hown (hB _ q_t3_206) dX5_state_62 ?_
    refine lv_iand hx hb dX5_state_64 ?_
    exact W.iret (v := (r_done x) &&& (2147483647 : Int32)) hx hb hr (fun t ht hW => ⟨⟨(r_done x) &&& (2147483647 : Int32), (t_thrown x (0 : Int32)), rfl, ⟨(by unfold fX5_state; rw [if_neg c_6_0, if_neg c_6_1, if_pos c_6_2] <;> rfl), (by unfold fX5_state; rw [if_neg c_6_0, if_neg c_6_1, if_pos c_6_2] <;> rfl)⟩, hpT ht hP⟩, hS.F ht⟩) hS.2.2 dX5_state_65
  by_cases c_6_3 : p0 = (3 : Int32)
  · refine lv_tableIn (off := 60) (tgt := 66) hx hb dX5_state_6 (by rw [c_6_3]; decide) (by rw [c_6_3]; decide) (by rw [c_6_3]; rfl) (by decide) ?_
    refine lv_aload_n hx hb dX5_state_66 rfl (lv_at hl 0 rfl) ?_
    refine va_get (D := (dC, dI)) (ci := 3) (v := .int (r_traps x)) (C := RX5) (T := TX5) (N := 15) hx hb hB iX5 hown hK hP 0 rfl rfl 9 (by decide) (hB _ q_t3_0) (fun _ h9 => h9) rfl dX5_state_67 ?_
    exact W.iret (v := r_traps x) hx hb hr (fun t ht hW => ⟨⟨r_traps x, (t_thrown x (0 : Int32)), rfl, ⟨(by unfold fX5_state; rw [if_neg c_6_0, if_neg c_6_1, if_neg c_6_2, if_pos c_6_3] <;> rfl), (by unfold fX5_state; rw [if_neg c_6_0, if_neg c_6_1, if_neg c_6_2, if_pos c_6_3] <;> rfl)⟩, hpT ht hP⟩, hS.F ht⟩) hS.2.2 dX5_state_70
  by_cases c_6_4 : p0 = (4 : Int32)
  · refine lv_tableIn (off := 65) (tgt := 71) hx hb dX5_state_6 (by rw [c_6_4]; decide) (by rw [c_6_4]; decide) (by rw [c_6_4]; rfl) (by decide) ?_
    refine lv_aload_n hx hb dX5_state_71 rfl (lv_at hl 0 rfl) ?_
    refine va_get (D := (dC, dI)) (ci := 3) (v := .int (bi (r_line x))) (C := RX5) (T := TX5) (N := 15) hx hb hB iX5 hown hK hP 0 rfl rfl 5 (by decide) (hB _ q_t2_236) (fun _ h9 => h9) rfl dX5_state_72 ?_
    refine lv_if_eq (tgt := 82) hx hb dX5_state_75 (by decide) (fun c_75 => ?_) (fun c_75 => ?_)
    · refine lv_iconst (v := 0) hx hb dX5_state_82 (by decide) ?_
      exact W.iret (v := (0 : Int32)) hx hb hr (fun t ht hW => ⟨⟨(0 : Int32), (t_thrown x (0 : Int32)), rfl, ⟨(by unfold fX5_state; rw [if_neg c_6_0, if_neg c_6_1, if_neg c_6_2, if_neg c_6_3, if_pos c_6_4, if_pos c_75] <;> rfl), (by unfold fX5_state; rw [if_neg c_6_0, if_neg c_6_1, if_neg c_6_2, if_neg c_6_3, if_pos c_6_4, if_pos c_75] <;> rfl)⟩, hpT ht hP⟩, hS.F ht⟩) hS.2.2 dX5_state_83
    · refine lv_iconst (v := 1) hx hb dX5_state_78 (by decide) ?_
      refine lv_goto (tgt := 83) hx hb dX5_state_79 (by decide) ?_
      exact W.iret (v := (1 : Int32)) hx hb hr (fun t ht hW => ⟨⟨(1 : Int32), (t_thrown x (0 : Int32)), rfl, ⟨(by unfold fX5_state; rw [if_neg c_6_0, if_neg c_6_1, if_neg c_6_2, if_neg c_6_3, if_pos c_6_4, if_neg c_75] <;> rfl), (by unfold fX5_state; rw [if_neg c_6_0, if_neg c_6_1, if_neg c_6_2, if_neg c_6_3, if_pos c_6_4, if_neg c_75] <;> rfl)⟩, hpT ht hP⟩, hS.F ht⟩) hS.2.2 dX5_state_83
  refine lv_tableOut (tgt := 84) hx hb dX5_state_6 (by have h0 := lv_neT (a := 0) c_6_0 (by decide); have h1 := lv_neT (a := 1) c_6_1 (by decide); have h2 := lv_neT (a := 2) c_6_2 (by decide); have h3 := lv_neT (a := 3) c_6_3 (by decide); have h4 := lv_neT (a := 4) c_6_4 (by decide); omega) (by decide) ?_
  refine lv_iconst (v := -1) hx hb dX5_state_84 (by decide) ?_
  exact W.iret (v := (-1 : Int32)) hx hb hr (fun t ht hW => ⟨⟨(-1 : Int32), (t_thrown x (0 : Int32)), rfl, ⟨(by unfold fX5_state; rw [if_neg c_6_0, if_neg c_6_1, if_neg c_6_2, if_neg c_6_3, if_neg c_6_4] <;> rfl), (by unfold fX5_state; rw [if_neg c_6_0, if_neg c_6_1, if_neg c_6_2, if_neg c_6_3, if_neg c_6_4] <;> rfl)⟩, hpT ht hP⟩, hS.F ht⟩) hS.2.2 dX5_state_85
/-! indexes of the reference's arrays -/
theorem in_q {i : Nat} (h : i < 4096) : vp_in (nI i / 4) 1024 := by
  rw [show (4 : Int32) = nI 4 from rfl, pk_div (by omega) (by decide) (by decide)]
  exact vp_in_nI (by omega) (by decide)
theorem in_div4 {a : Int32} (h1 : ¬ a < 0) (h2 : a ≤ 4092) : vp_in (a / 4) 1024 := by
  obtain ⟨i, hi, rfl⟩ := nI_of h1
  have h3 : nI i ≤ nI 4092 := h2
  rw [nI_leI hi (by decide)] at h3
  exact in_q (by omega)
theorem in_addr {a : Int32} (h : ¬ bi (fX5_isAddress a) = 0) : vp_in (a / 4) 1024 := by
  by_cases h1 : a < 0
  · exact absurd (by unfold fX5_isAddress; rw [if_pos h1]; rfl) h
  · by_cases h2 : (4092 : Int32) < a
    · exact absurd (by unfold fX5_isAddress; rw [if_neg h1, if_pos h2]; rfl) h
    · obtain ⟨i, hi, rfl⟩ := nI_of h1
      have h3 : ¬ nI 4092 < nI i := h2
      rw [nI_ltI (by decide) hi] at h3
      exact in_q (by omega)
theorem in_r32 {k : Int32} (h1 : ¬ k < 0) (h2 : k ≤ 32) (h3 : ¬ k = 32) : vp_in k 32 := by
  obtain ⟨i, hi, rfl⟩ := nI_of h1
  have h4 : nI i ≤ nI 32 := h2
  have h5 : ¬ nI i = nI 32 := h3
  rw [nI_leI hi (by decide)] at h4
  rw [nI_eq hi (by decide)] at h5
  exact vp_in_nI (by omega) (by decide)
theorem in_bits5 (lo : Int32) (x : SR) : vp_in (fX5_bits lo 5 x) 32 := by
  unfold fX5_bits
  exact pk_andIn _ 5 (by decide) (by decide)
theorem in_ctl {n : Int32} (h : ¬ fX5_controlOf n = -1) : vp_in (fX5_controlOf n) 9 := by
  revert h
  unfold fX5_controlOf
  repeat' split
  all_goals (intro h; first | (unfold vp_in; decide) | exact absurd rfl h)
theorem trap_tr (c v : Int32) (x : SR) : r_trapped (fX5_trap c v x) = true := by
  unfold fX5_trap
  by_cases h : bi (r_trapped x) = 0
  · rw [if_pos h]
  · rw [if_neg h]
    cases hx : r_trapped x
    · rw [hx] at h
      exact absurd rfl h
    · rfl
def sz1 (s : Int32) : Prop := ∃ j : Nat, 1 ≤ j ∧ j ≤ 128 ∧ s = nI j
theorem sh8 : ∀ j, j < 8 → (1 : Int32) <<< (nI j &&& 31) = nI (2 ^ j) := by decide +kernel
theorem sh8b : ∀ j, j < 8 → 1 ≤ 2 ^ j ∧ 2 ^ j ≤ 128 := by decide
theorem sz_and (f : Int32) {m : Int32} (k : Nat) (hk : k ≤ 3) (hm : m.toBitVec.toNat = 2 ^ k - 1) : sz1 ((1 : Int32) <<< ((f &&& m) &&& 31)) := by
  obtain ⟨j, hj, e⟩ := pk_andE f k hm
  have h8 : j < 8 := Nat.lt_of_lt_of_le hj (Nat.pow_le_pow_right (by decide) hk)
  rw [e, sh8 j h8]
  exact ⟨_, (sh8b j h8).1, (sh8b j h8).2, rfl⟩
theorem in_may {a sz o b : Int32} {x : SR} (hs : sz1 sz) (h : ¬ bi (fX5_may a sz o b x).1 = 0) : vp_in (a / 4) 1024 := by
  by_cases h1 : a < 0
  · exfalso
    apply h
    unfold fX5_may
    by_cases h2 : (a &&& (sz - 1)) = 0
    · rw [if_pos h2, if_pos h1, if_neg (by rw [trap_tr]; decide)]; rfl
    · rw [if_neg h2, if_pos h1, if_neg (by rw [trap_tr]; decide)]; rfl
  · by_cases h3 : a ≤ 4096 - sz
    · obtain ⟨i, hi, rfl⟩ := nI_of h1
      obtain ⟨j, h4, h5, rfl⟩ := hs
      have h6 : nI i ≤ nI 4096 - nI j := h3
      rw [pk_sub (by omega), nI_leI hi (by omega)] at h6
      exact in_q (by omega)
    · exfalso
      apply h
      unfold fX5_may
      by_cases h2 : (a &&& (sz - 1)) = 0
      · rw [if_pos h2, if_neg h1, if_neg h3, if_neg (by rw [trap_tr]; decide)]; rfl
      · rw [if_neg h2, if_neg h1, if_neg h3, if_neg (by rw [trap_tr]; decide)]; rfl
