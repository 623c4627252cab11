def fX4_readRegister (p0 : Int32) (x : St) : Int32 := if p0 < (1 : Int32) then
    (0 : Int32)
  else
    if (32 : Int32) ≤ p0 then
      (0 : Int32)
    else
      (g_reg x) p0.toNatClampNeg
set_option maxHeartbeats 4000000 in
set_option maxRecDepth 100000 in
theorem mX4_readRegister (l : Launch) (dC : Nat → ClassId) (dI : Nat → Nat → Nat) (aH aM aW aC aR iW iR : Nat) (x : St) (p0 : Int32) : Met l yX4_readRegister wsX4_readRegister ({ frames := 0, cells := 0, slots := 0, locals := 0 }) (va_Pc [.ref aH, .int p0] (kP (dC, dI) [(iW, .int), (iR, .int)] NW (wD aH aM aW aC aR iW iR x))) (QcRead ((fX4_readRegister p0 x))) 0 0 (fun _ => False) := by
  refine Met.ofW (cc := cX4_readRegister) (maxL := 2) (ret := (some .int)) (by decide) rfl ?_
  intro p e s m args below meth c s₁ B hml hv
  obtain ⟨rfl, hP, hK, hN⟩ := hv
  have hx := B.exec
  have hb := B.bytes
  have hr := B.returns
  have hB := fun (w : Cond) (h : w ∈ BIG) => atoms_spec (ws := wsX4_readRegister) B.pre w (List.mem_cons_of_mem _ h)
  have hown : s.vm.findClass RX4 = some m.cls := findClass_of_methodNamed B.named
  have hlocks := B.notSynchronized
  have hl := lv_entry ([.ref aH, .int p0]) (n := 2) (Nat.le_of_ble_eq_true rfl)
  rw [lg_entry_eq]
  generalize (lg_sl ([.ref aH, .int p0]) ++ List.replicate (2 - (lg_sl ([.ref aH, .int p0])).length) Slot.unset).toArray = ls at hl ⊢
  have hl : lv_has ls 2 [(0, .ref aH), (1, .int p0)] := hl
  refine lv_iload_n hx hb dX4_readRegister_0 rfl (lv_at hl 1 rfl) ?_
  refine lv_iconst (v := 1) hx hb dX4_readRegister_1 (by decide) ?_
  refine lv_icmp_lt (tgt := 23) hx hb dX4_readRegister_2 (by decide) (fun c_2 => ?_) (fun c_2 => ?_)
  · refine lv_iconst (v := 0) hx hb dX4_readRegister_23 (by decide) ?_
    exact W.iret (v := (0 : Int32)) hx hb hr (fun t ht hW => ⟨congrArg (fun z => Outcome.returned (some (Value.int z))) (by unfold fX4_readRegister; rw [if_pos c_2] <;> rfl), ht⟩) (fun q h => nomatch h) dX4_readRegister_24
  · refine lv_iload_n hx hb dX4_readRegister_5 rfl (lv_at hl 1 rfl) ?_
    refine lv_aload_n hx hb dX4_readRegister_6 rfl (lv_at hl 0 rfl) ?_
    refine va_get (D := (dC, dI)) (ci := 2) (v := .ref aR) (C := RX4) (T := TX4) (N := 7) hx hb hB iX4 hown hK hP 0 rfl rfl 2 (by decide) (hB _ q_t1_72) (fun _ h9 => h9) rfl dX4_readRegister_7 ?_
    refine va_alen (v := 32) hx hb hK hP 4 1 rfl rfl rfl dX4_readRegister_10 ?_
    refine lv_icmp_ge (tgt := 23) hx hb dX4_readRegister_11 (by decide) (fun c_11 => ?_) (fun c_11 => ?_)
    · refine lv_iconst (v := 0) hx hb dX4_readRegister_23 (by decide) ?_
      exact W.iret (v := (0 : Int32)) hx hb hr (fun t ht hW => ⟨congrArg (fun z => Outcome.returned (some (Value.int z))) (by unfold fX4_readRegister; rw [if_neg c_2, if_pos c_11] <;> rfl), ht⟩) (fun q h => nomatch h) dX4_readRegister_24
    · refine lv_aload_n hx hb dX4_readRegister_14 rfl (lv_at hl 0 rfl) ?_
      refine va_get (D := (dC, dI)) (ci := 2) (v := .ref aR) (C := RX4) (T := TX4) (N := 7) hx hb hB iX4 hown hK hP 0 rfl rfl 2 (by decide) (hB _ q_t1_72) (fun _ h9 => h9) rfl dX4_readRegister_15 ?_
      refine lv_iload_n hx hb dX4_readRegister_18 rfl (lv_at hl 1 rfl) ?_
      refine va_iald hx hb hK hP 4 1 rfl rfl (in_reg c_2 c_11) dX4_readRegister_19 ?_
      refine lv_goto (tgt := 24) hx hb dX4_readRegister_20 (by decide) ?_
      exact W.iret (v := (g_reg x) p0.toNatClampNeg) hx hb hr (fun t ht hW => ⟨congrArg (fun z => Outcome.returned (some (Value.int z))) (by unfold fX4_readRegister; rw [if_neg c_2, if_neg c_11] <;> rfl), ht⟩) (fun q h => nomatch h) dX4_readRegister_24
def fX4_writeRegister (p0 : Int32) (p1 : Int32) (x : St) : St := if p0 < (1 : Int32) then
    x
  else
    if (32 : Int32) ≤ p0 then
      x
    else
      s_reg x (upd (g_reg x) p0.toNatClampNeg p1)
set_option maxHeartbeats 4000000 in
set_option maxRecDepth 100000 in
theorem mX4_writeRegister (l : Launch) (dC : Nat → ClassId) (dI : Nat → Nat → Nat) (aH aM aW aC aR iW iR : Nat) (sz : Nat) (x : St) (p0 : Int32) (p1 : Int32) : Met l yX4_writeRegister wsX4_writeRegister ({ frames := 0, cells := 0, slots := 0, locals := 0 }) (va_Pc [.ref aH, .int p0, .int p1] (kM (dC, dI) [(iW, .int), (iR, .int)] NW (wD aH aM aW aC aR iW iR x) sz)) (va_Qv (fun u => u = fX4_writeRegister p0 p1 x) (fun u t => va_P (dC, dI) vwCl (wD aH aM aW aC aR iW iR u) t.heap) (va_A (wD aH aM aW aC aR iW iR x) sz)) 0 0 (va_A (wD aH aM aW aC aR iW iR x) sz) := by
  refine Met.ofW (cc := cX4_writeRegister) (maxL := 3) (ret := none) (by decide) rfl ?_
  intro p e s m args below meth c s₁ B hml hv
  obtain ⟨rfl, hsz, hD0, hP, hK, hN⟩ := hv
  have hx := B.exec
  have hb := B.bytes
  have hr := B.returns
  have hB := fun (w : Cond) (h : w ∈ BIG) => atoms_spec (ws := wsX4_writeRegister) B.pre w (List.mem_cons_of_mem _ h)
  have hown : s.vm.findClass RX4 = some m.cls := findClass_of_methodNamed B.named
  have hlocks := B.notSynchronized
  subst hsz
  have hD := hD0.self (sz := s.heap.size)
  generalize hAe : va_A (wD aH aM aW aC aR iW iR x) s.heap.size = A at hD ⊢
  have hA : ∀ q : Nat, s.heap.size ≤ q → A q := fun q h => by rw [← hAe]; exact Or.inr h
  have hS : va_S A s.heap s.heap [] := va_S.rf
  have hl := lv_entry ([.ref aH, .int p0, .int p1]) (n := 3) (Nat.le_of_ble_eq_true rfl)
  rw [lg_entry_eq]
  generalize (lg_sl ([.ref aH, .int p0, .int p1]) ++ List.replicate (3 - (lg_sl ([.ref aH, .int p0, .int p1])).length) Slot.unset).toArray = ls at hl ⊢
  have hl : lv_has ls 3 [(0, .ref aH), (1, .int p0), (2, .int p1)] := hl
  refine lv_iload_n hx hb dX4_writeRegister_0 rfl (lv_at hl 1 rfl) ?_
  refine lv_iconst (v := 1) hx hb dX4_writeRegister_1 (by decide) ?_
  refine lv_icmp_lt (tgt := 21) hx hb dX4_writeRegister_2 (by decide) (fun c_2 => ?_) (fun c_2 => ?_)
  · exact W.vret hx hb hr (fun t ht hW => ⟨⟨x, rfl, (by unfold fX4_writeRegister; rw [if_pos c_2] <;> rfl), hpT ht hP⟩, hS.F ht⟩) hS.2.2 dX4_writeRegister_21
  · refine lv_iload_n hx hb dX4_writeRegister_5 rfl (lv_at hl 1 rfl) ?_
    refine lv_aload_n hx hb dX4_writeRegister_6 rfl (lv_at hl 0 rfl) ?_
    refine va_get (D := (dC, dI)) (ci := 2) (v := .ref aR) (C := RX4) (T := TX4) (N := 7) hx hb hB iX4 hown hK hP 0 rfl rfl 2 (by decide) (hB _ q_t1_72) (fun _ h9 => h9) rfl dX4_writeRegister_7 ?_
    refine va_alen (v := 32) hx hb hK hP 4 1 rfl rfl rfl dX4_writeRegister_10 ?_
    refine lv_icmp_ge (tgt := 21) hx hb dX4_writeRegister_11 (by decide) (fun c_11 => ?_) (fun c_11 => ?_)
    · exact W.vret hx hb hr (fun t ht hW => ⟨⟨x, rfl, (by unfold fX4_writeRegister; rw [if_neg c_2, if_pos c_11] <;> rfl), hpT ht hP⟩, hS.F ht⟩) hS.2.2 dX4_writeRegister_21
    · refine lv_aload_n hx hb dX4_writeRegister_14 rfl (lv_at hl 0 rfl) ?_
      refine va_get (D := (dC, dI)) (ci := 2) (v := .ref aR) (C := RX4) (T := TX4) (N := 7) hx hb hB iX4 hown hK hP 0 rfl rfl 2 (by decide) (hB _ q_t1_72) (fun _ h9 => h9) rfl dX4_writeRegister_15 ?_
      refine lv_iload_n hx hb dX4_writeRegister_18 rfl (lv_at hl 1 rfl) ?_
      refine lv_iload_n hx hb dX4_writeRegister_19 rfl (lv_at hl 2 rfl) ?_
      refine va_iast hx hb hK hP hD hS 4 1 rfl rfl (in_reg c_2 c_11) dX4_writeRegister_20 (fun H locs hP hD hS => ?_)
      have hP : va_P (dC, dI) vwCl (wD aH aM aW aC aR iW iR (s_reg x (upd (g_reg x) p0.toNatClampNeg p1))) H := hP
      have hD : va_D A (wD aH aM aW aC aR iW iR (s_reg x (upd (g_reg x) p0.toNatClampNeg p1))) := hD
      exact W.vret hx hb hr (fun t ht hW => ⟨⟨(s_reg x (upd (g_reg x) p0.toNatClampNeg p1)), rfl, (by unfold fX4_writeRegister; rw [if_neg c_2, if_neg c_11] <;> rfl), hpT ht hP⟩, hS.F ht⟩) hS.2.2 dX4_writeRegister_21
def fX4_valueA (p0 : Int32) (x : St) : Int32 := fX4_readRegister (fX1_a p0) x
set_option maxHeartbeats 4000000 in
set_option maxRecDepth 100000 in
theorem mX4_valueA (l : Launch) (dC : Nat → ClassId) (dI : Nat → Nat → Nat) (aH aM aW aC aR iW iR : Nat) (x : St) (p0 : Int32) : Met l yX4_valueA wsX4_valueA ({ frames := 1, cells := 0, slots := 0, locals := 21 }) (va_Pc [.ref aH, .int p0] (kP (dC, dI) [(iW, .int), (iR, .int)] NW (wD aH aM aW aC aR iW iR x))) (QcRead ((fX4_valueA p0 x))) 0 0 (fun _ => False) := by
  refine Met.ofW (cc := cX4_valueA) (maxL := 2) (ret := (some .int)) (by decide) rfl ?_
  intro p e s m args below meth c s₁ B hml hv
  obtain ⟨rfl, hP, hK, hN⟩ := hv
  have hx := B.exec
  have hb := B.bytes
  have hr := B.returns
  have hB := fun (w : Cond) (h : w ∈ BIG) => atoms_spec (ws := wsX4_valueA) B.pre w (List.mem_cons_of_mem _ h)
  have hown : s.vm.findClass RX4 = some m.cls := findClass_of_methodNamed B.named
  have hlocks := B.notSynchronized
  have hl := lv_entry ([.ref aH, .int p0]) (n := 2) (Nat.le_of_ble_eq_true rfl)
  rw [lg_entry_eq]
  generalize (lg_sl ([.ref aH, .int p0]) ++ List.replicate (2 - (lg_sl ([.ref aH, .int p0])).length) Slot.unset).toArray = ls at hl ⊢
  have hl : lv_has ls 2 [(0, .ref aH), (1, .int p0)] := hl
  refine lv_aload_n hx hb dX4_valueA_0 rfl (lv_at hl 0 rfl) ?_
  refine lv_iload_n hx hb dX4_valueA_1 rfl (lv_at hl 1 rfl) ?_
  refine k_ri (va_runSN (As := [.int p0]) (rest := [.ref aH]) ⟨hx, hb, hml, hown, hB⟩ (mX1_a l p0) ⟨va_cnB 1 hB (good_in wX1_a) rfl rfl rfl (hN _ (List.mem_of_getElem? (i := 18) rfl)) (hB _ q_t1_10) hX1_a.2 ⟨Nat.le_of_ble_eq_true rfl, Nat.le_of_ble_eq_true rfl⟩, hB _ q_t2_67, trivial⟩ ⟨fun _ _ _ _ q => q, fun U _ _ => ⟨rfl, trivial⟩⟩ rfl rfl hl.1 rfl (lv_room (Nat.le_of_ble_eq_true rfl)) dX4_valueA_2 ⟨Nat.zero_le _, Nat.zero_le _⟩) ?_
  refine k_ri (va_runV (As := [.int (fX1_a p0)]) (rest := []) ⟨hx, hb, hml, hown, hB⟩ (mX4_readRegister l dC dI aH aM aW aC aR iW iR x (fX1_a p0)) (cwV 1 hB (gV q_t2_69 q_t2_71 q_s_19 q_t1_1 wX4_readRegister) rfl rfl rfl hX4_readRegister ⟨Nat.le_of_ble_eq_true rfl, Nat.le_of_ble_eq_true rfl⟩) ⟨kP_blind NW_blind, va_recv hK hP (ci := 2) (q0 := 0) rfl rfl, kP_pre NW_warm hP hK hN⟩ rfl rfl hl.1 rfl (lv_room (Nat.le_of_ble_eq_true rfl)) dX4_valueA_5 ⟨Nat.zero_le _, Nat.zero_le _⟩) ?_
  exact W.iret (v := fX4_readRegister (fX1_a p0) x) hx hb hr (fun t ht hW => ⟨congrArg (fun z => Outcome.returned (some (Value.int z))) rfl, ht⟩) (fun q h => nomatch h) dX4_valueA_8
def fX4_valueB (p0 : Int32) (x : St) : Int32 := fX4_readRegister (fX1_b p0) x
set_option maxHeartbeats 4000000 in
set_option maxRecDepth 100000 in
theorem mX4_valueB (l : Launch) (dC : Nat → ClassId) (dI : Nat → Nat → Nat) (aH aM aW aC aR iW iR : Nat) (x : St) (p0 : Int32) : Met l yX4_valueB wsX4_valueB ({ frames := 1, cells := 0, slots := 0, locals := 21 }) (va_Pc [.ref aH, .int p0] (kP (dC, dI) [(iW, .int), (iR, .int)] NW (wD aH aM aW aC aR iW iR x))) (QcRead ((fX4_valueB p0 x))) 0 0 (fun _ => False) := by
  refine Met.ofW (cc := cX4_valueB) (maxL := 2) (ret := (some .int)) (by decide) rfl ?_
  intro p e s m args below meth c s₁ B hml hv
  obtain ⟨rfl, hP, hK, hN⟩ := hv
  have hx := B.exec
  have hb := B.bytes
  have hr := B.returns
  have hB := fun (w : Cond) (h : w ∈ BIG) => atoms_spec (ws := wsX4_valueB) B.pre w (List.mem_cons_of_mem _ h)
  have hown : s.vm.findClass RX4 = some m.cls := findClass_of_methodNamed B.named
  have hlocks := B.notSynchronized
  have hl := lv_entry ([.ref aH, .int p0]) (n := 2) (Nat.le_of_ble_eq_true rfl)
  rw [lg_entry_eq]
  generalize (lg_sl ([.ref aH, .int p0]) ++ List.replicate (2 - (lg_sl ([.ref aH, .int p0])).length) Slot.unset).toArray = ls at hl ⊢
  have hl : lv_has ls 2 [(0, .ref aH), (1, .int p0)] := hl
  refine lv_aload_n hx hb dX4_valueB_0 rfl (lv_at hl 0 rfl) ?_
  refine lv_iload_n hx hb dX4_valueB_1 rfl (lv_at hl 1 rfl) ?_
  refine k_ri (va_runSN (As := [.int p0]) (rest := [.ref aH]) ⟨hx, hb, hml, hown, hB⟩ (mX1_b l p0) ⟨va_cnB 1 hB (good_in wX1_b) rfl rfl rfl (hN _ (List.mem_of_getElem? (i := 20) rfl)) (hB _ q_t1_10) hX1_b.2 ⟨Nat.le_of_ble_eq_true rfl, Nat.le_of_ble_eq_true rfl⟩, hB _ q_t2_85, trivial⟩ ⟨fun _ _ _ _ q => q, fun U _ _ => ⟨rfl, trivial⟩⟩ rfl rfl hl.1 rfl (lv_room (Nat.le_of_ble_eq_true rfl)) dX4_valueB_2 ⟨Nat.zero_le _, Nat.zero_le _⟩) ?_
  refine k_ri (va_runV (As := [.int (fX1_b p0)]) (rest := []) ⟨hx, hb, hml, hown, hB⟩ (mX4_readRegister l dC dI aH aM aW aC aR iW iR x (fX1_b p0)) (cwV 1 hB (gV q_t2_69 q_t2_71 q_s_19 q_t1_1 wX4_readRegister) rfl rfl rfl hX4_readRegister ⟨Nat.le_of_ble_eq_true rfl, Nat.le_of_ble_eq_true rfl⟩) ⟨kP_blind NW_blind, va_recv hK hP (ci := 2) (q0 := 0) rfl rfl, kP_pre NW_warm hP hK hN⟩ rfl rfl hl.1 rfl (lv_room (Nat.le_of_ble_eq_true rfl)) dX4_valueB_5 ⟨Nat.zero_le _, Nat.zero_le _⟩) ?_
  exact W.iret (v := fX4_readRegister (fX1_b p0) x) hx hb hr (fun t ht hW => ⟨congrArg (fun z => Outcome.returned (some (Value.int z))) rfl, ht⟩) (fun q h => nomatch h) dX4_valueB_8
def fX4_goOn (x : St) : Bool × St := (true, s_pc x ((g_pc x) + (4 : Int32)))
set_option maxHeartbeats 4000000 in
set_option maxRecDepth 100000 in
theorem mX4_goOn (l : Launch) (dC : Nat → ClassId) (dI : Nat → Nat → Nat) (aH aM aW aC aR iW iR : Nat) (sz : Nat) (x : St) : Met l yX4_goOn wsX4_goOn ({ frames := 0, cells := 0, slots := 0, locals := 0 }) (va_Pc [.ref aH] (kM (dC, dI) [(iW, .int), (iR, .int)] NW (wD aH aM aW aC aR iW iR x) sz)) (va_Qi (fun r u => r = bi (fX4_goOn x).1 ∧ u = (fX4_goOn x).2) (fun u t => va_P (dC, dI) vwCl (wD aH aM aW aC aR iW iR u) t.heap) (va_A (wD aH aM aW aC aR iW iR x) sz)) 0 0 (va_A (wD aH aM aW aC aR iW iR x) sz) := by
  refine Met.ofW (cc := cX4_goOn) (maxL := 1) (ret := (some .boolean)) (by decide) rfl ?_
  intro p e s m args below meth c s₁ B hml hv
  obtain ⟨rfl, hsz, hD0, hP, hK, hN⟩ := hv
  have hx := B.exec
  have hb := B.bytes
  have hr := B.returns
  have hB := fun (w : Cond) (h : w ∈ BIG) => atoms_spec (ws := wsX4_goOn) B.pre w (List.mem_cons_of_mem _ h)
  have hown : s.vm.findClass RX4 = some m.cls := findClass_of_methodNamed B.named
  have hlocks := B.notSynchronized
  subst hsz
  have hD := hD0.self (sz := s.heap.size)
  generalize hAe : va_A (wD aH aM aW aC aR iW iR x) s.heap.size = A at hD ⊢
  have hA : ∀ q : Nat, s.heap.size ≤ q → A q := fun q h => by rw [← hAe]; exact Or.inr h
  have hS : va_S A s.heap s.heap [] := va_S.rf
  have hl := lv_entry ([.ref aH]) (n := 1) (Nat.le_of_ble_eq_true rfl)
  rw [lg_entry_eq]
  generalize (lg_sl ([.ref aH]) ++ List.replicate (1 - (lg_sl ([.ref aH])).length) Slot.unset).toArray = ls at hl ⊢
  have hl : lv_has ls 1 [(0, .ref aH)] := hl
  refine lv_aload_n hx hb dX4_goOn_0 rfl (lv_at hl 0 rfl) ?_
  refine lv_dup hx hb dX4_goOn_1 rfl ?_
  refine va_get (D := (dC, dI)) (ci := 2) (v := .int (g_pc x)) (C := RX4) (T := TX4) (N := 7) hx hb hB iX4 hown hK hP 0 rfl rfl 3 (by decide) (hB _ q_t1_73) (fun _ h9 => h9) rfl dX4_goOn_2 ?_
  refine lv_iconst (v := 4) hx hb dX4_goOn_5 (by decide) ?_
  refine lv_iadd hx hb dX4_goOn_6 ?_
  refine va_put (D := (dC, dI)) (ci := 2) (v := .int ((g_pc x) + (4 : Int32))) (ty := .int) (C := RX4) (T := TX4) (N := 7) hx hb hB iX4 tyX4 tyX4_ok nmX4 hown hK hP hD hS 0 rfl rfl 3 (by decide) (hB _ q_t1_73) (fun _ h9 => h9) rfl (by decide +kernel) rfl rfl (Nat.le_of_ble_eq_true rfl) dX4_goOn_7 (fun H locs hP hD hS => ?_)
  have hP : va_P (dC, dI) vwCl (wD aH aM aW aC aR iW iR (s_pc x ((g_pc x) + (4 : Int32)))) H := hP
  have hD : va_D A (wD aH aM aW aC aR iW iR (s_pc x ((g_pc x) + (4 : Int32)))) := hD
  refine lv_iconst (v := 1) hx hb dX4_goOn_10 (by decide) ?_
  exact W.zret (v := (1 : Int32)) hx hb hr rfl (fun t ht hW => ⟨⟨(1 : Int32), (s_pc x ((g_pc x) + (4 : Int32))), rfl, ⟨rfl, rfl⟩, hpT ht hP⟩, hS.F ht⟩) hS.2.2 dX4_goOn_11
def fX4_goOnWith (p0 : Int32) (p1 : Int32) (x : St) : Bool × St := ((fX4_goOn (fX4_writeRegister (fX1_d p0) p1 x)).1, (fX4_goOn (fX4_writeRegister (fX1_d p0) p1 x)).2)
set_option maxHeartbeats 4000000 in
set_option maxRecDepth 100000 in
theorem mX4_goOnWith (l : Launch) (dC : Nat → ClassId) (dI : Nat → Nat → Nat) (aH aM aW aC aR iW iR : Nat) (sz : Nat) (x : St) (p0 : Int32) (p1 : Int32) : Met l yX4_goOnWith wsX4_goOnWith ({ frames := 1, cells := 0, slots := 0, locals := 22 }) (va_Pc [.ref aH, .int p0, .int p1] (kM (dC, dI) [(iW, .int), (iR, .int)] NW (wD aH aM aW aC aR iW iR x) sz)) (va_Qi (fun r u => r = bi (fX4_goOnWith p0 p1 x).1 ∧ u = (fX4_goOnWith p0 p1 x).2) (fun u t => va_P (dC, dI) vwCl (wD aH aM aW aC aR iW iR u) t.heap) (va_A (wD aH aM aW aC aR iW iR x) sz)) 0 0 (va_A (wD aH aM aW aC aR iW iR x) sz) := by
  refine Met.ofW (cc := cX4_goOnWith) (maxL := 3) (ret := (some .boolean)) (by decide) rfl ?_
  intro p e s m args below meth c s₁ B hml hv
  obtain ⟨rfl, hsz, hD0, hP, hK, hN⟩ := hv
  have hx := B.exec
  have hb := B.bytes
  have hr := B.returns
  have hB := fun (w : Cond) (h : w ∈ BIG) => atoms_spec (ws := wsX4_goOnWith) B.pre w (List.mem_cons_of_mem _ h)
  have hown : s.vm.findClass RX4 = some m.cls := findClass_of_methodNamed B.named
  have hlocks := B.notSynchronized
  subst hsz
  have hD := hD0.self (sz := s.heap.size)
  generalize hAe : va_A (wD aH aM aW aC aR iW iR x) s.heap.size = A at hD ⊢
  have hA : ∀ q : Nat, s.heap.size ≤ q → A q := fun q h => by rw [← hAe]; exact Or.inr h
  have hS : va_S A s.heap s.heap [] := va_S.rf
  have hl := lv_entry ([.ref aH, .int p0, .int p1]) (n := 3) (Nat.le_of_ble_eq_true rfl)
  rw [lg_entry_eq]
  generalize (lg_sl ([.ref aH, .int p0, .int p1]) ++ List.replicate (3 - (lg_sl ([.ref aH, .int p0, .int p1])).length) Slot.unset).toArray = ls at hl ⊢
  have hl : lv_has ls 3 [(0, .ref aH), (1, .int p0), (2, .int p1)] := hl
  refine lv_aload_n hx hb dX4_goOnWith_0 rfl (lv_at hl 0 rfl) ?_
  refine lv_iload_n hx hb dX4_goOnWith_1 rfl (lv_at hl 1 rfl) ?_
  refine k_ri (va_runSN (As := [.int p0]) (rest := [.ref aH]) ⟨hx, hb, hml, hown, hB⟩ (mX1_d l p0) ⟨va_cnB 1 hB (good_in wX1_d) rfl rfl rfl (hN _ (List.mem_of_getElem? (i := 15) rfl)) (hB _ q_t1_10) hX1_d.2 ⟨Nat.le_of_ble_eq_true rfl, Nat.le_of_ble_eq_true rfl⟩, hB _ q_t2_38, trivial⟩ ⟨fun _ _ _ _ q => q, fun U _ _ => ⟨rfl, trivial⟩⟩ rfl rfl hl.1 rfl (lv_room (Nat.le_of_ble_eq_true rfl)) dX4_goOnWith_2 ⟨Nat.zero_le _, Nat.zero_le _⟩) ?_
  refine lv_iload_n hx hb dX4_goOnWith_5 rfl (lv_at hl 2 rfl) ?_
  refine k_mv (w := wD aH aM aW aC aR iW iR) wD_ad (va_runV (As := [.int (fX1_d p0), .int p1]) (rest := []) ⟨hx, hb, hml, hown, hB⟩ (mX4_writeRegister l dC dI aH aM aW aC aR iW iR s.heap.size x (fX1_d p0) p1) (cwV 2 hB (gV q_t1_114 q_t1_116 q_s_2 q_t1_1 wX4_writeRegister) rfl rfl rfl hX4_writeRegister ⟨Nat.le_of_ble_eq_true rfl, Nat.le_of_ble_eq_true rfl⟩) ⟨kM_blind NW_blind, va_recv hK hP (ci := 2) (q0 := 0) rfl rfl, kM_pre NW_warm hP hK hD hN⟩ rfl rfl hl.1 rfl (lv_room (Nat.le_of_ble_eq_true rfl)) dX4_goOnWith_6 ⟨Nat.zero_le _, Nat.zero_le _⟩) hD hS hA (fun u H locs hw hP hD hS => ?_)
  obtain rfl := hw
  refine lv_aload_n hx hb dX4_goOnWith_9 rfl (lv_at hl 0 rfl) ?_
  refine k_mi (w := wD aH aM aW aC aR iW iR) wD_ad (va_runV (As := []) (rest := []) ⟨hx, hb, hml, hown, hB⟩ (mX4_goOn l dC dI aH aM aW aC aR iW iR H.size (fX4_writeRegister (fX1_d p0) p1 x)) (cwV 0 hB (gV q_t2_40 q_t2_42 q_s_14 q_t1_1 wX4_goOn) rfl rfl rfl hX4_goOn ⟨Nat.le_of_ble_eq_true rfl, Nat.le_of_ble_eq_true rfl⟩) ⟨kM_blind NW_blind, va_recv hK hP (ci := 2) (q0 := 0) rfl rfl, kM_pre NW_warm hP hK hD hN⟩ rfl rfl hl.1 rfl (lv_room (Nat.le_of_ble_eq_true rfl)) dX4_goOnWith_10 ⟨Nat.zero_le _, Nat.zero_le _⟩) hD hS hA (fun r u H locs hw hP hD hS => ?_)
  obtain ⟨rfl, rfl⟩ := hw
  exact W.zret (v := bi (fX4_goOn (fX4_writeRegister (fX1_d p0) p1 x)).1) hx hb hr (bi_nar _) (fun t ht hW => ⟨⟨bi (fX4_goOn (fX4_writeRegister (fX1_d p0) p1 x)).1, ((fX4_goOn (fX4_writeRegister (fX1_d p0) p1 x)).2), rfl, ⟨rfl, rfl⟩, hpT ht hP⟩, hS.F ht⟩) hS.2.2 dX4_goOnWith_13
def fX4_trap (p0 : Int32) (p1 : Int32) (x : St) : Bool × St := if (g_vector (fX2_enterTrap (g_pc x) p0 p1 (s_traps x ((g_traps x) + (1 : Int32))))) = 0 then
    (false, s_stop (fX2_enterTrap (g_pc x) p0 p1 (s_traps x ((g_traps x) + (1 : Int32)))) true)
  else
    (false, s_pc (fX2_enterTrap (g_pc x) p0 p1 (s_traps x ((g_traps x) + (1 : Int32)))) (g_vector (fX2_enterTrap (g_pc x) p0 p1 (s_traps x ((g_traps x) + (1 : Int32))))))
set_option maxHeartbeats 4000000 in
set_option maxRecDepth 100000 in
theorem mX4_trap (l : Launch) (dC : Nat → ClassId) (dI : Nat → Nat → Nat) (aH aM aW aC aR iW iR : Nat) (sz : Nat) (x : St) (p0 : Int32) (p1 : Int32) : Met l yX4_trap wsX4_trap ({ frames := 1, cells := 0, slots := 0, locals := 23 }) (va_Pc [.ref aH, .int p0, .int p1] (kM (dC, dI) [(iW, .int), (iR, .int)] NW (wD aH aM aW aC aR iW iR x) sz)) (va_Qi (fun r u => r = bi (fX4_trap p0 p1 x).1 ∧ u = (fX4_trap p0 p1 x).2) (fun u t => va_P (dC, dI) vwCl (wD aH aM aW aC aR iW iR u) t.heap) (va_A (wD aH aM aW aC aR iW iR x) sz)) 0 0 (va_A (wD aH aM aW aC aR iW iR x) sz) := by
  refine Met.ofW (cc := cX4_trap) (maxL := 3) (ret := (some .boolean)) (by decide) rfl ?_
  intro p e s m args below meth c s₁ B hml hv
  obtain ⟨rfl, hsz, hD0, hP, hK, hN⟩ := hv
  have hx := B.exec
  have hb := B.bytes
  have hr := B.returns
  have hB := fun (w : Cond) (h : w ∈ BIG) => atoms_spec (ws := wsX4_trap) B.pre w (List.mem_cons_of_mem _ h)
  have hown : s.vm.findClass RX4 = some m.cls := findClass_of_methodNamed B.named
  have hlocks := B.notSynchronized
  subst hsz
  have hD := hD0.self (sz := s.heap.size)
  generalize hAe : va_A (wD aH aM aW aC aR iW iR x) s.heap.size = A at hD ⊢
  have hA : ∀ q : Nat, s.heap.size ≤ q → A q := fun q h => by rw [← hAe]; exact Or.inr h
  have hS : va_S A s.heap s.heap [] := va_S.rf
  have hl := lv_entry ([.ref aH, .int p0, .int p1]) (n := 3) (Nat.le_of_ble_eq_true rfl)
  rw [lg_entry_eq]
  generalize (lg_sl ([.ref aH, .int p0, .int p1]) ++ List.replicate (3 - (lg_sl ([.ref aH, .int p0, .int p1])).length) Slot.unset).toArray = ls at hl ⊢
  have hl : lv_has ls 3 [(0, .ref aH), (1, .int p0), (2, .int p1)] := hl
  refine lv_aload_n hx hb dX4_trap_0 rfl (lv_at hl 0 rfl) ?_
  refine lv_dup hx hb dX4_trap_1 rfl ?_
  refine va_get (D := (dC, dI)) (ci := 2) (v := .int (g_traps x)) (C := RX4) (T := TX4) (N := 7) hx hb hB iX4 hown hK hP 0 rfl rfl 6 (by decide) (hB _ q_t1_76) (fun _ h9 => h9) rfl dX4_trap_2 ?_
  refine lv_iconst (v := 1) hx hb dX4_trap_5 (by decide) ?_
  refine lv_iadd hx hb dX4_trap_6 ?_
  refine va_put (D := (dC, dI)) (ci := 2) (v := .int ((g_traps x) + (1 : Int32))) (ty := .int) (C := RX4) (T := TX4) (N := 7) hx hb hB iX4 tyX4 tyX4_ok nmX4 hown hK hP hD hS 0 rfl rfl 6 (by decide) (hB _ q_t1_76) (fun _ h9 => h9) rfl (by decide +kernel) rfl rfl (Nat.le_of_ble_eq_true rfl) dX4_trap_7 (fun H locs hP hD hS => ?_)
  have hP : va_P (dC, dI) vwCl (wD aH aM aW aC aR iW iR (s_traps x ((g_traps x) + (1 : Int32)))) H := hP
  have hD : va_D A (wD aH aM aW aC aR iW iR (s_traps x ((g_traps x) + (1 : Int32)))) := hD
  refine lv_aload_n hx hb dX4_trap_10 rfl (lv_at hl 0 rfl) ?_
  refine va_get (D := (dC, dI)) (ci := 2) (v := .ref aC) (C := RX4) (T := TX4) (N := 7) hx hb hB iX4 hown hK hP 0 rfl rfl 1 (by decide) (hB _ q_t1_71) (fun _ h9 => h9) rfl dX4_trap_11 ?_
  refine lv_aload_n hx hb dX4_trap_14 rfl (lv_at hl 0 rfl) ?_
  refine va_get (D := (dC, dI)) (ci := 2) (v := .int (g_pc x)) (C := RX4) (T := TX4) (N := 7) hx hb hB iX4 hown hK hP 0 rfl rfl 3 (by decide) (hB _ q_t1_73) (fun _ h9 => h9) rfl dX4_trap_15 ?_
  refine lv_iload_n hx hb dX4_trap_18 rfl (lv_at hl 1 rfl) ?_
  refine lv_iload_n hx hb dX4_trap_19 rfl (lv_at hl 2 rfl) ?_
  refine k_mv (w := wD aH aM aW aC aR iW iR) wD_ad (va_runVN (As := [.int (g_pc x), .int p0, .int p1]) (rest := []) ⟨hx, hb, hml, hown, hB⟩ (mX2_enterTrap l dC dI aH aM aW aC aR iW iR H.size (s_traps x ((g_traps x) + (1 : Int32))) (g_pc x) p0 p1) ⟨va_cnB 3 hB (good_in wX2_enterTrap) rfl rfl rfl (hN _ (List.mem_of_getElem? (i := 10) rfl)) (hB _ q_t1_3) hX2_enterTrap.2 ⟨Nat.le_of_ble_eq_true rfl, Nat.le_of_ble_eq_true rfl⟩, hB _ q_t2_16, hB _ q_s_10⟩ ⟨kM_blind NW_blind, va_recv hK hP (ci := 0) (q0 := 3) rfl rfl, kM_pre NW_warm hP hK hD hN⟩ rfl rfl hl.1 rfl (lv_room (Nat.le_of_ble_eq_true rfl)) dX4_trap_20 ⟨Nat.zero_le _, Nat.zero_le _⟩) hD hS hA (fun u H locs hw hP hD hS => ?_)
  obtain rfl := hw
  refine lv_aload_n hx hb dX4_trap_23 rfl (lv_at hl 0 rfl) ?_
  refine va_get (D := (dC, dI)) (ci := 2) (v := .ref aC) (C := RX4) (T := TX4) (N := 7) hx hb hB iX4 hown hK hP 0 rfl rfl 1 (by decide) (hB _ q_t1_71) (fun _ h9 => h9) rfl dX4_trap_24 ?_
  refine va_getN (D := (dC, dI)) (ci := 0) (v := .int (g_vector (fX2_enterTrap (g_pc x) p0 p1 (s_traps x ((g_traps x) + (1 : Int32)))))) (C := RX2) (T := TX2) (N := 9) hx hb hB iX2 hown hK hP 3 rfl rfl 2 (by decide) (va_Nw.use rfl (hN _ (List.mem_of_getElem? (i := 2) rfl))) (fun _ h9 => h9) rfl dX4_trap_27 ?_
  refine lv_if_ne (tgt := 41) hx hb dX4_trap_30 (by decide) (fun c_30 => ?_) (fun c_30 => ?_)
  · refine lv_aload_n hx hb dX4_trap_41 rfl (lv_at hl 0 rfl) ?_
    refine lv_aload_n hx hb dX4_trap_42 rfl (lv_at hl 0 rfl) ?_
    refine va_get (D := (dC, dI)) (ci := 2) (v := .ref aC) (C := RX4) (T := TX4) (N := 7) hx hb hB iX4 hown hK hP 0 rfl rfl 1 (by decide) (hB _ q_t1_71) (fun _ h9 => h9) rfl dX4_trap_43 ?_
    refine va_getN (D := (dC, dI)) (ci := 0) (v := .int (g_vector (fX2_enterTrap (g_pc x) p0 p1 (s_traps x ((g_traps x) + (1 : Int32)))))) (C := RX2) (T := TX2) (N := 9) hx hb hB iX2 hown hK hP 3 rfl rfl 2 (by decide) (va_Nw.use rfl (hN _ (List.mem_of_getElem? (i := 2) rfl))) (fun _ h9 => h9) rfl dX4_trap_46 ?_
    refine va_put (D := (dC, dI)) (ci := 2) (v := .int (g_vector (fX2_enterTrap (g_pc x) p0 p1 (s_traps x ((g_traps x) + (1 : Int32)))))) (ty := .int) (C := RX4) (T := TX4) (N := 7) hx hb hB iX4 tyX4 tyX4_ok nmX4 hown hK hP hD hS 0 rfl rfl 3 (by decide) (hB _ q_t1_73) (fun _ h9 => h9) rfl (by decide +kernel) rfl rfl (Nat.le_of_ble_eq_true rfl) dX4_trap_49 (fun H locs hP hD hS => ?_)
    have hP : va_P (dC, dI) vwCl (wD aH aM aW aC aR iW iR (s_pc (fX2_enterTrap (g_pc x) p0 p1 (s_traps x ((g_traps x) + (1 : Int32)))) (g_vector (fX2_enterTrap (g_pc x) p0 p1 (s_traps x ((g_traps x) + (1 : Int32))))))) H := hP
    have hD : va_D A (wD aH aM aW aC aR iW iR (s_pc (fX2_enterTrap (g_pc x) p0 p1 (s_traps x ((g_traps x) + (1 : Int32)))) (g_vector (fX2_enterTrap (g_pc x) p0 p1 (s_traps x ((g_traps x) + (1 : Int32))))))) := hD
    refine lv_iconst (v := 0) hx hb dX4_trap_52 (by decide) ?_
    exact W.zret (v := (0 : Int32)) hx hb hr rfl (fun t ht hW => ⟨⟨(0 : Int32), (s_pc (fX2_enterTrap (g_pc x) p0 p1 (s_traps x ((g_traps x) + (1 : Int32)))) (g_vector (fX2_enterTrap (g_pc x) p0 p1 (s_traps x ((g_traps x) + (1 : Int32)))))), rfl, ⟨(by unfold fX4_trap; rw [if_neg c_30] <;> rfl), (by unfold fX4_trap; rw [if_neg c_30] <;> rfl)⟩, hpT ht hP⟩, hS.F ht⟩) hS.2.2 dX4_trap_53
  · refine lv_aload_n hx hb dX4_trap_33 rfl (lv_at hl 0 rfl) ?_
    refine lv_iconst (v := 1) hx hb dX4_trap_34 (by decide) ?_
    refine va_put (D := (dC, dI)) (ci := 2) (v := .int 1) (ty := .boolean) (C := RX4) (T := TX4) (N := 7) hx hb hB iX4 tyX4 tyX4_ok nmX4 hown hK hP hD hS 0 rfl rfl 4 (by decide) (hB _ q_t1_74) (fun _ h9 => h9) rfl (by decide +kernel) rfl rfl (Nat.le_of_ble_eq_true rfl) dX4_trap_35 (fun H locs hP hD hS => ?_)
    have hP : va_P (dC, dI) vwCl (wD aH aM aW aC aR iW iR (s_stop (fX2_enterTrap (g_pc x) p0 p1 (s_traps x ((g_traps x) + (1 : Int32)))) true)) H := hP
    have hD : va_D A (wD aH aM aW aC aR iW iR (s_stop (fX2_enterTrap (g_pc x) p0 p1 (s_traps x ((g_traps x) + (1 : Int32)))) true)) := hD
    refine lv_goto (tgt := 52) hx hb dX4_trap_38 (by decide) ?_
    refine lv_iconst (v := 0) hx hb dX4_trap_52 (by decide) ?_
    exact W.zret (v := (0 : Int32)) hx hb hr rfl (fun t ht hW => ⟨⟨(0 : Int32), (s_stop (fX2_enterTrap (g_pc x) p0 p1 (s_traps x ((g_traps x) + (1 : Int32)))) true), rfl, ⟨(by unfold fX4_trap; rw [if_pos c_30] <;> rfl), (by unfold fX4_trap; rw [if_pos c_30] <;> rfl)⟩, hpT ht hP⟩, hS.F ht⟩) hS.2.2 dX4_trap_53
def fX4_unknown (p0 : Int32) (x : St) : Bool × St := ((fX4_trap (2 : Int32) p0 x).1, (fX4_trap (2 : Int32) p0 x).2)
set_option maxHeartbeats 4000000 in
set_option maxRecDepth 100000 in
theorem mX4_unknown (l : Launch) (dC : Nat → ClassId) (dI : Nat → Nat → Nat) (aH aM aW aC aR iW iR : Nat) (sz : Nat) (x : St) (p0 : Int32) : Met l yX4_unknown wsX4_unknown ({ frames := 2, cells := 0, slots := 0, locals := 45 }) (va_Pc [.ref aH, .int p0] (kM (dC, dI) [(iW, .int), (iR, .int)] NW (wD aH aM aW aC aR iW iR x) sz)) (va_Qi (fun r u => r = bi (fX4_unknown p0 x).1 ∧ u = (fX4_unknown p0 x).2) (fun u t => va_P (dC, dI) vwCl (wD aH aM aW aC aR iW iR u) t.heap) (va_A (wD aH aM aW aC aR iW iR x) sz)) 0 0 (va_A (wD aH aM aW aC aR iW iR x) sz) := by
  refine Met.ofW (cc := cX4_unknown) (maxL := 2) (ret := (some .boolean)) (by decide) rfl ?_
  intro p e s m args below meth c s₁ B hml hv
  obtain ⟨rfl, hsz, hD0, hP, hK, hN⟩ := hv
  have hx := B.exec
  have hb := B.bytes
  have hr := B.returns
  have hB := fun (w : Cond) (h : w ∈ BIG) => atoms_spec (ws := wsX4_unknown) B.pre w (List.mem_cons_of_mem _ h)
  have hown : s.vm.findClass RX4 = some m.cls := findClass_of_methodNamed B.named
  have hlocks := B.notSynchronized
  subst hsz
  have hD := hD0.self (sz := s.heap.size)
  generalize hAe : va_A (wD aH aM aW aC aR iW iR x) s.heap.size = A at hD ⊢
  have hA : ∀ q : Nat, s.heap.size ≤ q → A q := fun q h => by rw [← hAe]; exact Or.inr h
  have hS : va_S A s.heap s.heap [] := va_S.rf
  have hl := lv_entry ([.ref aH, .int p0]) (n := 2) (Nat.le_of_ble_eq_true rfl)
  rw [lg_entry_eq]
  generalize (lg_sl ([.ref aH, .int p0]) ++ List.replicate (2 - (lg_sl ([.ref aH, .int p0])).length) Slot.unset).toArray = ls at hl ⊢
  have hl : lv_has ls 2 [(0, .ref aH), (1, .int p0)] := hl
  refine lv_aload_n hx hb dX4_unknown_0 rfl (lv_at hl 0 rfl) ?_
  refine lv_iconst (v := 2) hx hb dX4_unknown_1 (by decide) ?_
  refine lv_iload_n hx hb dX4_unknown_2 rfl (lv_at hl 1 rfl) ?_
  refine k_mi (w := wD aH aM aW aC aR iW iR) wD_ad (va_runV (As := [.int (2 : Int32), .int p0]) (rest := []) ⟨hx, hb, hml, hown, hB⟩ (mX4_trap l dC dI aH aM aW aC aR iW iR s.heap.size x (2 : Int32) p0) (cwV 2 hB (gV q_t2_10 q_t2_12 q_s_9 q_t1_1 wX4_trap) rfl rfl rfl hX4_trap ⟨Nat.le_of_ble_eq_true rfl, Nat.le_of_ble_eq_true rfl⟩) ⟨kM_blind NW_blind, va_recv hK hP (ci := 2) (q0 := 0) rfl rfl, kM_pre NW_warm hP hK hD hN⟩ rfl rfl hl.1 rfl (lv_room (Nat.le_of_ble_eq_true rfl)) dX4_unknown_3 ⟨Nat.zero_le _, Nat.zero_le _⟩) hD hS hA (fun r u H locs hw hP hD hS => ?_)
  obtain ⟨rfl, rfl⟩ := hw
  exact W.zret (v := bi (fX4_trap (2 : Int32) p0 x).1) hx hb hr (bi_nar _) (fun t ht hW => ⟨⟨bi (fX4_trap (2 : Int32) p0 x).1, ((fX4_trap (2 : Int32) p0 x).2), rfl, ⟨rfl, rfl⟩, hpT ht hP⟩, hS.F ht⟩) hS.2.2 dX4_unknown_6
def fX4_jump (p0 : Int32) (p1 : Int32) (x : St) : Bool × St := if (p1 &&& (3 : Int32)) = 0 then
    (true, s_pc (fX4_writeRegister p0 ((g_pc x) + (4 : Int32)) x) p1)
  else
    ((fX4_trap (0 : Int32) p1 x).1, (fX4_trap (0 : Int32) p1 x).2)
set_option maxHeartbeats 4000000 in
set_option maxRecDepth 100000 in
theorem mX4_jump (l : Launch) (dC : Nat → ClassId) (dI : Nat → Nat → Nat) (aH aM aW aC aR iW iR : Nat) (sz : Nat) (x : St) (p0 : Int32) (p1 : Int32) : Met l yX4_jump wsX4_jump ({ frames := 2, cells := 0, slots := 0, locals := 45 }) (va_Pc [.ref aH, .int p0, .int p1] (kM (dC, dI) [(iW, .int), (iR, .int)] NW (wD aH aM aW aC aR iW iR x) sz)) (va_Qi (fun r u => r = bi (fX4_jump p0 p1 x).1 ∧ u = (fX4_jump p0 p1 x).2) (fun u t => va_P (dC, dI) vwCl (wD aH aM aW aC aR iW iR u) t.heap) (va_A (wD aH aM aW aC aR iW iR x) sz)) 0 0 (va_A (wD aH aM aW aC aR iW iR x) sz) := by
  refine Met.ofW (cc := cX4_jump) (maxL := 3) (ret := (some .boolean)) (by decide) rfl ?_
  intro p e s m args below meth c s₁ B hml hv
  obtain ⟨rfl, hsz, hD0, hP, hK, hN⟩ := hv
  have hx := B.exec
  have hb := B.bytes
  have hr := B.returns
  have hB := fun (w : Cond) (h : w ∈ BIG) => atoms_spec (ws := wsX4_jump) B.pre w (List.mem_cons_of_mem _ h)
  have hown : s.vm.findClass RX4 = some m.cls := findClass_of_methodNamed B.named
  have hlocks := B.notSynchronized
  subst hsz
  have hD := hD0.self (sz := s.heap.size)
  generalize hAe : va_A (wD aH aM aW aC aR iW iR x) s.heap.size = A at hD ⊢
  have hA : ∀ q : Nat, s.heap.size ≤ q → A q := fun q h => by rw [← hAe]; exact Or.inr h
  have hS : va_S A s.heap s.heap [] := va_S.rf
  have hl := lv_entry ([.ref aH, .int p0, .int p1]) (n := 3) (Nat.le_of_ble_eq_true rfl)
  rw [lg_entry_eq]
  generalize (lg_sl ([.ref aH, .int p0, .int p1]) ++ List.replicate (3 - (lg_sl ([.ref aH, .int p0, .int p1])).length) Slot.unset).toArray = ls at hl ⊢
  have hl : lv_has ls 3 [(0, .ref aH), (1, .int p0), (2, .int p1)] := hl
  refine lv_iload_n hx hb dX4_jump_0 rfl (lv_at hl 2 rfl) ?_
  refine lv_iconst (v := 3) hx hb dX4_jump_1 (by decide) ?_
  refine lv_iand hx hb dX4_jump_2 ?_
  refine lv_if_eq (tgt := 13) hx hb dX4_jump_3 (by decide) (fun c_3 => ?_) (fun c_3 => ?_)
  · refine lv_aload_n hx hb dX4_jump_13 rfl (lv_at hl 0 rfl) ?_
    refine lv_iload_n hx hb dX4_jump_14 rfl (lv_at hl 1 rfl) ?_
    refine lv_aload_n hx hb dX4_jump_15 rfl (lv_at hl 0 rfl) ?_
    refine va_get (D := (dC, dI)) (ci := 2) (v := .int (g_pc x)) (C := RX4) (T := TX4) (N := 7) hx hb hB iX4 hown hK hP 0 rfl rfl 3 (by decide) (hB _ q_t1_73) (fun _ h9 => h9) rfl dX4_jump_16 ?_
    refine lv_iconst (v := 4) hx hb dX4_jump_19 (by decide) ?_
    refine lv_iadd hx hb dX4_jump_20 ?_
    refine k_mv (w := wD aH aM aW aC aR iW iR) wD_ad (va_runV (As := [.int p0, .int ((g_pc x) + (4 : Int32))]) (rest := []) ⟨hx, hb, hml, hown, hB⟩ (mX4_writeRegister l dC dI aH aM aW aC aR iW iR s.heap.size x p0 ((g_pc x) + (4 : Int32))) (cwV 2 hB (gV q_t1_114 q_t1_116 q_s_2 q_t1_1 wX4_writeRegister) rfl rfl rfl hX4_writeRegister ⟨Nat.le_of_ble_eq_true rfl, Nat.le_of_ble_eq_true rfl⟩) ⟨kM_blind NW_blind, va_recv hK hP (ci := 2) (q0 := 0) rfl rfl, kM_pre NW_warm hP hK hD hN⟩ rfl rfl hl.1 rfl (lv_room (Nat.le_of_ble_eq_true rfl)) dX4_jump_21 ⟨Nat.zero_le _, Nat.zero_le _⟩) hD hS hA (fun u H locs hw hP hD hS => ?_)
    obtain rfl := hw
    refine lv_aload_n hx hb dX4_jump_24 rfl (lv_at hl 0 rfl) ?_
    refine lv_iload_n hx hb dX4_jump_25 rfl (lv_at hl 2 rfl) ?_
    refine va_put (D := (dC, dI)) (ci := 2) (v := .int p1) (ty := .int) (C := RX4) (T := TX4) (N := 7) hx hb hB iX4 tyX4 tyX4_ok nmX4 hown hK hP hD hS 0 rfl rfl 3 (by decide) (hB _ q_t1_73) (fun _ h9 => h9) rfl (by decide +kernel) rfl rfl (Nat.le_of_ble_eq_true rfl) dX4_jump_26 (fun H locs hP hD hS => ?_)
    have hP : va_P (dC, dI) vwCl (wD aH aM aW aC aR iW iR (s_pc (fX4_writeRegister p0 ((g_pc x) + (4 : Int32)) x) p1)) H := hP
    have hD : va_D A (wD aH aM aW aC aR iW iR (s_pc (fX4_writeRegister p0 ((g_pc x) + (4 : Int32)) x) p1)) := hD
    refine lv_iconst (v := 1) hx hb dX4_jump_29 (by decide) ?_
    exact W.zret (v := (1 : Int32)) hx hb hr rfl (fun t ht hW => ⟨⟨(1 : Int32), (s_pc (fX4_writeRegister p0 ((g_pc x) + (4 : Int32)) x) p1), rfl, ⟨(by unfold fX4_jump; rw [if_pos c_3] <;> rfl), (by unfold fX4_jump; rw [if_pos c_3] <;> rfl)⟩, hpT ht hP⟩, hS.F ht⟩) hS.2.2 dX4_jump_30
  · refine lv_aload_n hx hb dX4_jump_6 rfl (lv_at hl 0 rfl) ?_
    refine lv_iconst (v := 0) hx hb dX4_jump_7 (by decide) ?_
    refine lv_iload_n hx hb dX4_jump_8 rfl (lv_at hl 2 rfl) ?_
    refine k_mi (w := wD aH aM aW aC aR iW iR) wD_ad (va_runV (As := [.int (0 : Int32), .int p1]) (rest := []) ⟨hx, hb, hml, hown, hB⟩ (mX4_trap l dC dI aH aM aW aC aR iW iR s.heap.size x (0 : Int32) p1) (cwV 2 hB (gV q_t2_10 q_t2_12 q_s_9 q_t1_1 wX4_trap) rfl rfl rfl hX4_trap ⟨Nat.le_of_ble_eq_true rfl, Nat.le_of_ble_eq_true rfl⟩) ⟨kM_blind NW_blind, va_recv hK hP (ci := 2) (q0 := 0) rfl rfl, kM_pre NW_warm hP hK hD hN⟩ rfl rfl hl.1 rfl (lv_room (Nat.le_of_ble_eq_true rfl)) dX4_jump_9 ⟨Nat.zero_le _, Nat.zero_le _⟩) hD hS hA (fun r u H locs hw hP hD hS => ?_)
    obtain ⟨rfl, rfl⟩ := hw
    exact W.zret (v := bi (fX4_trap (0 : Int32) p1 x).1) hx hb hr (bi_nar _) (fun t ht hW => ⟨⟨bi (fX4_trap (0 : Int32) p1 x).1, ((fX4_trap (0 : Int32) p1 x).2), rfl, ⟨(by unfold fX4_jump; rw [if_neg c_3] <;> rfl), (by unfold fX4_jump; rw [if_neg c_3] <;> rfl)⟩, hpT ht hP⟩, hS.F ht⟩) hS.2.2 dX4_jump_12
def fX4_jumpByRegister (p0 : Int32) (x : St) : Bool × St := if (fX1_f p0) = 0 then
    ((fX4_jump (fX1_d p0) (((fX4_valueA p0 x) + (fX1_numberI p0)) &&& (-2 : Int32)) x).1, (fX4_jump (fX1_d p0) (((fX4_valueA p0 x) + (fX1_numberI p0)) &&& (-2 : Int32)) x).2)
  else
    ((fX4_unknown p0 x).1, (fX4_unknown p0 x).2)
set_option maxHeartbeats 4000000 in
set_option maxRecDepth 100000 in
theorem mX4_jumpByRegister (l : Launch) (dC : Nat → ClassId) (dI : Nat → Nat → Nat) (aH aM aW aC aR iW iR : Nat) (sz : Nat) (x : St) (p0 : Int32) : Met l yX4_jumpByRegister wsX4_jumpByRegister ({ frames := 3, cells := 0, slots := 0, locals := 67 }) (va_Pc [.ref aH, .int p0] (kM (dC, dI) [(iW, .int), (iR, .int)] NW (wD aH aM aW aC aR iW iR x) sz)) (va_Qi (fun r u => r = bi (fX4_jumpByRegister p0 x).1 ∧ u = (fX4_jumpByRegister p0 x).2) (fun u t => va_P (dC, dI) vwCl (wD aH aM aW aC aR iW iR u) t.heap) (va_A (wD aH aM aW aC aR iW iR x) sz)) 0 0 (va_A (wD aH aM aW aC aR iW iR x) sz) := by
  refine Met.ofW (cc := cX4_jumpByRegister) (maxL := 2) (ret := (some .boolean)) (by decide) rfl ?_
  intro p e s m args below meth c s₁ B hml hv
  obtain ⟨rfl, hsz, hD0, hP, hK, hN⟩ := hv
  have hx := B.exec
  have hb := B.bytes
  have hr := B.returns
  have hB := fun (w : Cond) (h : w ∈ BIG) => atoms_spec (ws := wsX4_jumpByRegister) B.pre w (List.mem_cons_of_mem _ h)
  have hown : s.vm.findClass RX4 = some m.cls := findClass_of_methodNamed B.named
  have hlocks := B.notSynchronized
  subst hsz
  have hD := hD0.self (sz := s.heap.size)
  generalize hAe : va_A (wD aH aM aW aC aR iW iR x) s.heap.size = A at hD ⊢
  have hA : ∀ q : Nat, s.heap.size ≤ q → A q := fun q h => by rw [← hAe]; exact Or.inr h
  have hS : va_S A s.heap s.heap [] := va_S.rf
  have hl := lv_entry ([.ref aH, .int p0]) (n := 2) (Nat.le_of_ble_eq_true rfl)
  rw [lg_entry_eq]
  generalize (lg_sl ([.ref aH, .int p0]) ++ List.replicate (2 - (lg_sl ([.ref aH, .int p0])).length) Slot.unset).toArray = ls at hl ⊢
  have hl : lv_has ls 2 [(0, .ref aH), (1, .int p0)] := hl
  refine lv_iload_n hx hb dX4_jumpByRegister_0 rfl (lv_at hl 1 rfl) ?_
  refine k_ri (va_runSN (As := [.int p0]) (rest := []) ⟨hx, hb, hml, hown, hB⟩ (mX1_f l p0) ⟨va_cnB 1 hB (good_in wX1_f) rfl rfl rfl (hN _ (List.mem_of_getElem? (i := 17) rfl)) (hB _ q_t1_10) hX1_f.2 ⟨Nat.le_of_ble_eq_true rfl, Nat.le_of_ble_eq_true rfl⟩, hB _ q_t2_56, trivial⟩ ⟨fun _ _ _ _ q => q, fun U _ _ => ⟨rfl, trivial⟩⟩ rfl rfl hl.1 rfl (lv_room (Nat.le_of_ble_eq_true rfl)) dX4_jumpByRegister_1 ⟨Nat.zero_le _, Nat.zero_le _⟩) ?_
  refine lv_if_eq (tgt := 13) hx hb dX4_jumpByRegister_4 (by decide) (fun c_4 => ?_) (fun c_4 => ?_)
  · refine lv_aload_n hx hb dX4_jumpByRegister_13 rfl (lv_at hl 0 rfl) ?_
    refine lv_iload_n hx hb dX4_jumpByRegister_14 rfl (lv_at hl 1 rfl) ?_
    refine k_ri (va_runSN (As := [.int p0]) (rest := [.ref aH]) ⟨hx, hb, hml, hown, hB⟩ (mX1_d l p0) ⟨va_cnB 1 hB (good_in wX1_d) rfl rfl rfl (hN _ (List.mem_of_getElem? (i := 15) rfl)) (hB _ q_t1_10) hX1_d.2 ⟨Nat.le_of_ble_eq_true rfl, Nat.le_of_ble_eq_true rfl⟩, hB _ q_t2_38, trivial⟩ ⟨fun _ _ _ _ q => q, fun U _ _ => ⟨rfl, trivial⟩⟩ rfl rfl hl.1 rfl (lv_room (Nat.le_of_ble_eq_true rfl)) dX4_jumpByRegister_15 ⟨Nat.zero_le _, Nat.zero_le _⟩) ?_
    refine lv_aload_n hx hb dX4_jumpByRegister_18 rfl (lv_at hl 0 rfl) ?_
    refine lv_iload_n hx hb dX4_jumpByRegister_19 rfl (lv_at hl 1 rfl) ?_
    refine k_ri (va_runV (As := [.int p0]) (rest := [.int (fX1_d p0), .ref aH]) ⟨hx, hb, hml, hown, hB⟩ (mX4_valueA l dC dI aH aM aW aC aR iW iR x p0) (cwV 1 hB (gV q_t2_62 q_t2_64 q_s_18 q_t1_1 wX4_valueA) rfl rfl rfl hX4_valueA ⟨Nat.le_of_ble_eq_true rfl, Nat.le_of_ble_eq_true rfl⟩) ⟨kP_blind NW_blind, va_recv hK hP (ci := 2) (q0 := 0) rfl rfl, kP_pre NW_warm hP hK hN⟩ rfl rfl hl.1 rfl (lv_room (Nat.le_of_ble_eq_true rfl)) dX4_jumpByRegister_20 ⟨Nat.zero_le _, Nat.zero_le _⟩) ?_
    refine lv_iload_n hx hb dX4_jumpByRegister_23 rfl (lv_at hl 1 rfl) ?_
    refine k_ri (va_runSN (As := [.int p0]) (rest := [.int (fX4_valueA p0 x), .int (fX1_d p0), .ref aH]) ⟨hx, hb, hml, hown, hB⟩ (mX1_numberI l p0) ⟨va_cnB 1 hB (good_in wX1_numberI) rfl rfl rfl (hN _ (List.mem_of_getElem? (i := 19) rfl)) (hB _ q_t1_10) hX1_numberI.2 ⟨Nat.le_of_ble_eq_true rfl, Nat.le_of_ble_eq_true rfl⟩, hB _ q_t2_74, trivial⟩ ⟨fun _ _ _ _ q => q, fun U _ _ => ⟨rfl, trivial⟩⟩ rfl rfl hl.1 rfl (lv_room (Nat.le_of_ble_eq_true rfl)) dX4_jumpByRegister_24 ⟨Nat.zero_le _, Nat.zero_le _⟩) ?_
    refine lv_iadd hx hb dX4_jumpByRegister_27 ?_
    refine lv_bipush (v := -2) hx hb dX4_jumpByRegister_28 (by decide) ?_
    refine lv_iand hx hb dX4_jumpByRegister_30 ?_
    refine k_mi (w := wD aH aM aW aC aR iW iR) wD_ad (va_runV (As := [.int (fX1_d p0), .int (((fX4_valueA p0 x) + (fX1_numberI p0)) &&& (-2 : Int32))]) (rest := []) ⟨hx, hb, hml, hown, hB⟩ (mX4_jump l dC dI aH aM aW aC aR iW iR s.heap.size x (fX1_d p0) (((fX4_valueA p0 x) + (fX1_numberI p0)) &&& (-2 : Int32))) (cwV 2 hB (gV q_t2_47 q_t2_49 q_s_15 q_t1_1 wX4_jump) rfl rfl rfl hX4_jump ⟨Nat.le_of_ble_eq_true rfl, Nat.le_of_ble_eq_true rfl⟩) ⟨kM_blind NW_blind, va_recv hK hP (ci := 2) (q0 := 0) rfl rfl, kM_pre NW_warm hP hK hD hN⟩ rfl rfl hl.1 rfl (lv_room (Nat.le_of_ble_eq_true rfl)) dX4_jumpByRegister_31 ⟨Nat.zero_le _, Nat.zero_le _⟩) hD hS hA (fun r u H locs hw hP hD hS => ?_)
    obtain ⟨rfl, rfl⟩ := hw
    exact W.zret (v := bi (fX4_jump (fX1_d p0) (((fX4_valueA p0 x) + (fX1_numberI p0)) &&& (-2 : Int32)) x).1) hx hb hr (bi_nar _) (fun t ht hW => ⟨⟨bi (fX4_jump (fX1_d p0) (((fX4_valueA p0 x) + (fX1_numberI p0)) &&& (-2 : Int32)) x).1, ((fX4_jump (fX1_d p0) (((fX4_valueA p0 x) + (fX1_numberI p0)) &&& (-2 : Int32)) x).2), rfl, ⟨(by unfold fX4_jumpByRegister; rw [if_pos c_4] <;> rfl), (by unfold fX4_jumpByRegister; rw [if_pos c_4] <;> rfl)⟩, hpT ht hP⟩, hS.F ht⟩) hS.2.2 dX4_jumpByRegister_34
  · refine lv_aload_n hx hb dX4_jumpByRegister_7 rfl (lv_at hl 0 rfl) ?_
    refine lv_iload_n hx hb dX4_jumpByRegister_8 rfl (lv_at hl 1 rfl) ?_
    refine k_mi (w := wD aH aM aW aC aR iW iR) wD_ad (va_runV (As := [.int p0]) (rest := []) ⟨hx, hb, hml, hown, hB⟩ (mX4_unknown l dC dI aH aM aW aC aR iW iR s.heap.size x p0) (cwV 1 hB (gV q_t2_58 q_t2_60 q_s_17 q_t1_1 wX4_unknown) rfl rfl rfl hX4_unknown ⟨Nat.le_of_ble_eq_true rfl, Nat.le_of_ble_eq_true rfl⟩) ⟨kM_blind NW_blind, va_recv hK hP (ci := 2) (q0 := 0) rfl rfl, kM_pre NW_warm hP hK hD hN⟩ rfl rfl hl.1 rfl (lv_room (Nat.le_of_ble_eq_true rfl)) dX4_jumpByRegister_9 ⟨Nat.zero_le _, Nat.zero_le _⟩) hD hS hA (fun r u H locs hw hP hD hS => ?_)
    obtain ⟨rfl, rfl⟩ := hw
    exact W.zret (v := bi (fX4_unknown p0 x).1) hx hb hr (bi_nar _) (fun t ht hW => ⟨⟨bi (fX4_unknown p0 x).1, ((fX4_unknown p0 x).2), rfl, ⟨(by unfold fX4_jumpByRegister; rw [if_neg c_4] <;> rfl), (by unfold fX4_jumpByRegister; rw [if_neg c_4] <;> rfl)⟩, hpT ht hP⟩, hS.F ht⟩) hS.2.2 dX4_jumpByRegister_12
def fX4_branch (p0 : Int32) (x : St) : Bool × St := if (fX1_f p0) = (2 : Int32) then
    ((fX4_unknown p0 x).1, (fX4_unknown p0 x).2)
  else
    if (fX1_f p0) = (3 : Int32) then
      ((fX4_unknown p0 x).1, (fX4_unknown p0 x).2)
    else
      if (bi (fX0_holds (fX1_f p0) (fX4_valueA p0 x) (fX4_valueB p0 x))) = 0 then
        ((fX4_goOn x).1, (fX4_goOn x).2)
      else
        ((fX4_jump (0 : Int32) ((g_pc x) + (fX1_numberB p0)) x).1, (fX4_jump (0 : Int32) ((g_pc x) + (fX1_numberB p0)) x).2)
set_option maxHeartbeats 4000000 in
set_option maxRecDepth 100000 in
theorem mX4_branch (l : Launch) (dC : Nat → ClassId) (dI : Nat → Nat → Nat) (aH aM aW aC aR iW iR : Nat) (sz : Nat) (x : St) (p0 : Int32) : Met l yX4_branch wsX4_branch ({ frames := 3, cells := 0, slots := 0, locals := 67 }) (va_Pc [.ref aH, .int p0] (kM (dC, dI) [(iW, .int), (iR, .int)] NW (wD aH aM aW aC aR iW iR x) sz)) (va_Qi (fun r u => r = bi (fX4_branch p0 x).1 ∧ u = (fX4_branch p0 x).2) (fun u t => va_P (dC, dI) vwCl (wD aH aM aW aC aR iW iR u) t.heap) (va_A (wD aH aM aW aC aR iW iR x) sz)) 0 0 (va_A (wD aH aM aW aC aR iW iR x) sz) := by
  refine Met.ofW (cc := cX4_branch) (maxL := 3) (ret := (some .boolean)) (by decide) rfl ?_
  intro p e s m args below meth c s₁ B hml hv
  obtain ⟨rfl, hsz, hD0, hP, hK, hN⟩ := hv
  have hx := B.exec
  have hb := B.bytes
  have hr := B.returns
  have hB := fun (w : Cond) (h : w ∈ BIG) => atoms_spec (ws := wsX4_branch) B.pre w (List.mem_cons_of_mem _ h)
  have hown : s.vm.findClass RX4 = some m.cls := findClass_of_methodNamed B.named
  have hlocks := B.notSynchronized
  subst hsz
  have hD := hD0.self (sz := s.heap.size)
  generalize hAe : va_A (wD aH aM aW aC aR iW iR x) s.heap.size = A at hD ⊢
  have hA : ∀ q : Nat, s.heap.size ≤ q → A q := fun q h => by rw [← hAe]; exact Or.inr h
  have hS : va_S A s.heap s.heap [] := va_S.rf
  have hl := lv_entry ([.ref aH, .int p0]) (n := 3) (Nat.le_of_ble_eq_true rfl)
  rw [lg_entry_eq]
  generalize (lg_sl ([.ref aH, .int p0]) ++ List.replicate (3 - (lg_sl ([.ref aH, .int p0])).length) Slot.unset).toArray = ls at hl ⊢
  have hl : lv_has ls 3 [(0, .ref aH), (1, .int p0)] := hl
  refine lv_iload_n hx hb dX4_branch_0 rfl (lv_at hl 1 rfl) ?_
  refine k_ri (va_runSN (As := [.int p0]) (rest := []) ⟨hx, hb, hml, hown, hB⟩ (mX1_f l p0) ⟨va_cnB 1 hB (good_in wX1_f) rfl rfl rfl (hN _ (List.mem_of_getElem? (i := 17) rfl)) (hB _ q_t1_10) hX1_f.2 ⟨Nat.le_of_ble_eq_true rfl, Nat.le_of_ble_eq_true rfl⟩, hB _ q_t2_56, trivial⟩ ⟨fun _ _ _ _ q => q, fun U _ _ => ⟨rfl, trivial⟩⟩ rfl rfl hl.1 rfl (lv_room (Nat.le_of_ble_eq_true rfl)) dX4_branch_1 ⟨Nat.zero_le _, Nat.zero_le _⟩) ?_
  refine lv_istore_n (lv' := [(2, .int (fX1_f p0)), (0, .ref aH), (1, .int p0)]) hx hb dX4_branch_4 rfl hl (by decide) rfl (fun ls hl => ?_)
  refine lv_iload_n hx hb dX4_branch_5 rfl (lv_at hl 0 rfl) ?_
  refine lv_iconst (v := 2) hx hb dX4_branch_6 (by decide) ?_
  refine lv_icmp_eq (tgt := 15) hx hb dX4_branch_7 (by decide) (fun c_7 => ?_) (fun c_7 => ?_)
  · refine lv_aload_n hx hb dX4_branch_15 rfl (lv_at hl 1 rfl) ?_
    refine lv_iload_n hx hb dX4_branch_16 rfl (lv_at hl 2 rfl) ?_
    refine k_mi (w := wD aH aM aW aC aR iW iR) wD_ad (va_runV (As := [.int p0]) (rest := []) ⟨hx, hb, hml, hown, hB⟩ (mX4_unknown l dC dI aH aM aW aC aR iW iR s.heap.size x p0) (cwV 1 hB (gV q_t2_58 q_t2_60 q_s_17 q_t1_1 wX4_unknown) rfl rfl rfl hX4_unknown ⟨Nat.le_of_ble_eq_true rfl, Nat.le_of_ble_eq_true rfl⟩) ⟨kM_blind NW_blind, va_recv hK hP (ci := 2) (q0 := 0) rfl rfl, kM_pre NW_warm hP hK hD hN⟩ rfl rfl hl.1 rfl (lv_room (Nat.le_of_ble_eq_true rfl)) dX4_branch_17 ⟨Nat.zero_le _, Nat.zero_le _⟩) hD hS hA (fun r u H locs hw hP hD hS => ?_)
    obtain ⟨rfl, rfl⟩ := hw
    exact W.zret (v := bi (fX4_unknown p0 x).1) hx hb hr (bi_nar _) (fun t ht hW => ⟨⟨bi (fX4_unknown p0 x).1, ((fX4_unknown p0 x).2), rfl, ⟨(by unfold fX4_branch; rw [if_pos c_7] <;> rfl), (by unfold fX4_branch; rw [if_pos c_7] <;> rfl)⟩, hpT ht hP⟩, hS.F ht⟩) hS.2.2 dX4_branch_20
  · refine lv_iload_n hx hb dX4_branch_10 rfl (lv_at hl 0 rfl) ?_
    refine lv_iconst (v := 3) hx hb dX4_branch_11 (by decide) ?_
    refine lv_icmp_ne (tgt := 21) hx hb dX4_branch_12 (by decide) (fun c_12 => ?_) (fun c_12 => ?_)
    · refine lv_iload_n hx hb dX4_branch_21 rfl (lv_at hl 0 rfl) ?_
      refine lv_aload_n hx hb dX4_branch_22 rfl (lv_at hl 1 rfl) ?_
      refine lv_iload_n hx hb dX4_branch_23 rfl (lv_at hl 2 rfl) ?_
      refine k_ri (va_runV (As := [.int p0]) (rest := [.int (fX1_f p0)]) ⟨hx, hb, hml, hown, hB⟩ (mX4_valueA l dC dI aH aM aW aC aR iW iR x p0) (cwV 1 hB (gV q_t2_62 q_t2_64 q_s_18 q_t1_1 wX4_valueA) rfl rfl rfl hX4_valueA ⟨Nat.le_of_ble_eq_true rfl, Nat.le_of_ble_eq_true rfl⟩) ⟨kP_blind NW_blind, va_recv hK hP (ci := 2) (q0 := 0) rfl rfl, kP_pre NW_warm hP hK hN⟩ rfl rfl hl.1 rfl (lv_room (Nat.le_of_ble_eq_true rfl)) dX4_branch_24 ⟨Nat.zero_le _, Nat.zero_le _⟩) ?_
      refine lv_aload_n hx hb dX4_branch_27 rfl (lv_at hl 1 rfl) ?_
      refine lv_iload_n hx hb dX4_branch_28 rfl (lv_at hl 2 rfl) ?_
      refine k_ri (va_runV (As := [.int p0]) (rest := [.int (fX4_valueA p0 x), .int (fX1_f p0)]) ⟨hx, hb, hml, hown, hB⟩ (mX4_valueB l dC dI aH aM aW aC aR iW iR x p0) (cwV 1 hB (gV q_t2_80 q_t2_82 q_s_21 q_t1_1 wX4_valueB) rfl rfl rfl hX4_valueB ⟨Nat.le_of_ble_eq_true rfl, Nat.le_of_ble_eq_true rfl⟩) ⟨kP_blind NW_blind, va_recv hK hP (ci := 2) (q0 := 0) rfl rfl, kP_pre NW_warm hP hK hN⟩ rfl rfl hl.1 rfl (lv_room (Nat.le_of_ble_eq_true rfl)) dX4_branch_29 ⟨Nat.zero_le _, Nat.zero_le _⟩) ?_
      refine k_ri (va_runSN (As := [.int (fX1_f p0), .int (fX4_valueA p0 x), .int (fX4_valueB p0 x)]) (rest := []) ⟨hx, hb, hml, hown, hB⟩ (mX0_holds l (fX1_f p0) (fX4_valueA p0 x) (fX4_valueB p0 x)) ⟨va_cnB 3 hB (good_in wX0_holds) rfl rfl rfl (hN _ (List.mem_of_getElem? (i := 21) rfl)) (hB _ q_t1_11) hX0_holds.2 ⟨Nat.le_of_ble_eq_true rfl, Nat.le_of_ble_eq_true rfl⟩, hB _ q_t2_88, trivial⟩ ⟨fun _ _ _ _ q => q, fun U _ _ => ⟨rfl, trivial⟩⟩ rfl rfl hl.1 rfl (lv_room (Nat.le_of_ble_eq_true rfl)) dX4_branch_32 ⟨Nat.zero_le _, Nat.zero_le _⟩) ?_
      refine lv_if_ne (tgt := 43) hx hb dX4_branch_35 (by decide) (fun c_35 => ?_) (fun c_35 => ?_)
      · refine lv_aload_n hx hb dX4_branch_43 rfl (lv_at hl 1 rfl) ?_
        refine lv_iconst (v := 0) hx hb dX4_branch_44 (by decide) ?_
        refine lv_aload_n hx hb dX4_branch_45 rfl (lv_at hl 1 rfl) ?_
        refine va_get (D := (dC, dI)) (ci := 2) (v := .int (g_pc x)) (C := RX4) (T := TX4) (N := 7) hx hb hB iX4 hown hK hP 0 rfl rfl 3 (by decide) (hB _ q_t1_73) (fun _ h9 => h9) rfl dX4_branch_46 ?_
        refine lv_iload_n hx hb dX4_branch_49 rfl (lv_at hl 2 rfl) ?_
        refine k_ri (va_runSN (As := [.int p0]) (rest := [.int (g_pc x), .int (0 : Int32), .ref aH]) ⟨hx, hb, hml, hown, hB⟩ (mX1_numberB l p0) ⟨va_cnB 1 hB (good_in wX1_numberB) rfl rfl rfl (hN _ (List.mem_of_getElem? (i := 22) rfl)) (hB _ q_t1_10) hX1_numberB.2 ⟨Nat.le_of_ble_eq_true rfl, Nat.le_of_ble_eq_true rfl⟩, hB _ q_t2_95, trivial⟩ ⟨fun _ _ _ _ q => q, fun U _ _ => ⟨rfl, trivial⟩⟩ rfl rfl hl.1 rfl (lv_room (Nat.le_of_ble_eq_true rfl)) dX4_branch_50 ⟨Nat.zero_le _, Nat.zero_le _⟩) ?_
        refine lv_iadd hx hb dX4_branch_53 ?_
        refine k_mi (w := wD aH aM aW aC aR iW iR) wD_ad (va_runV (As := [.int (0 : Int32), .int ((g_pc x) + (fX1_numberB p0))]) (rest := []) ⟨hx, hb, hml, hown, hB⟩ (mX4_jump l dC dI aH aM aW aC aR iW iR s.heap.size x (0 : Int32) ((g_pc x) + (fX1_numberB p0))) (cwV 2 hB (gV q_t2_47 q_t2_49 q_s_15 q_t1_1 wX4_jump) rfl rfl rfl hX4_jump ⟨Nat.le_of_ble_eq_true rfl, Nat.le_of_ble_eq_true rfl⟩) ⟨kM_blind NW_blind, va_recv hK hP (ci := 2) (q0 := 0) rfl rfl, kM_pre NW_warm hP hK hD hN⟩ rfl rfl hl.1 rfl (lv_room (Nat.le_of_ble_eq_true rfl)) dX4_branch_54 ⟨Nat.zero_le _, Nat.zero_le _⟩) hD hS hA (fun r u H locs hw hP hD hS => ?_)
        obtain ⟨rfl, rfl⟩ := hw
        exact W.zret (v := bi (fX4_jump (0 : Int32) ((g_pc x) + (fX1_numberB p0)) x).1) hx hb hr (bi_nar _) (fun t ht hW => ⟨⟨bi (fX4_jump (0 : Int32) ((g_pc x) + (fX1_numberB p0)) x).1, ((fX4_jump (0 : Int32) ((g_pc x) + (fX1_numberB p0)) x).2), rfl, ⟨(by unfold fX4_branch; rw [if_neg c_7, if_neg c_12, if_neg c_35] <;> rfl), (by unfold fX4_branch; rw [if_neg c_7, if_neg c_12, if_neg c_35] <;> rfl)⟩, hpT ht hP⟩, hS.F ht⟩) hS.2.2 dX4_branch_57
      · refine lv_aload_n hx hb dX4_branch_38 rfl (lv_at hl 1 rfl) ?_
        refine k_mi (w := wD aH aM aW aC aR iW iR) wD_ad (va_runV (As := []) (rest := []) ⟨hx, hb, hml, hown, hB⟩ (mX4_goOn l dC dI aH aM aW aC aR iW iR s.heap.size x) (cwV 0 hB (gV q_t2_40 q_t2_42 q_s_14 q_t1_1 wX4_goOn) rfl rfl rfl hX4_goOn ⟨Nat.le_of_ble_eq_true rfl, Nat.le_of_ble_eq_true rfl⟩) ⟨kM_blind NW_blind, va_recv hK hP (ci := 2) (q0 := 0) rfl rfl, kM_pre NW_warm hP hK hD hN⟩ rfl rfl hl.1 rfl (lv_room (Nat.le_of_ble_eq_true rfl)) dX4_branch_39 ⟨Nat.zero_le _, Nat.zero_le _⟩) hD hS hA (fun r u H locs hw hP hD hS => ?_)
        obtain ⟨rfl, rfl⟩ := hw
        exact W.zret (v := bi (fX4_goOn x).1) hx hb hr (bi_nar _) (fun t ht hW => ⟨⟨bi (fX4_goOn x).1, ((fX4_goOn x).2), rfl, ⟨(by unfold fX4_branch; rw [if_neg c_7, if_neg c_12, if_pos c_35] <;> rfl), (by unfold fX4_branch; rw [if_neg c_7, if_neg c_12, if_pos c_35] <;> rfl)⟩, hpT ht hP⟩, hS.F ht⟩) hS.2.2 dX4_branch_42
    · refine lv_aload_n hx hb dX4_branch_15 rfl (lv_at hl 1 rfl) ?_
      refine lv_iload_n hx hb dX4_branch_16 rfl (lv_at hl 2 rfl) ?_
      refine k_mi (w := wD aH aM aW aC aR iW iR) wD_ad (va_runV (As := [.int p0]) (rest := []) ⟨hx, hb, hml, hown, hB⟩ (mX4_unknown l dC dI aH aM aW aC aR iW iR s.heap.size x p0) (cwV 1 hB (gV q_t2_58 q_t2_60 q_s_17 q_t1_1 wX4_unknown) rfl rfl rfl hX4_unknown ⟨Nat.le_of_ble_eq_true rfl, Nat.le_of_ble_eq_true rfl⟩) ⟨kM_blind NW_blind, va_recv hK hP (ci := 2) (q0 := 0) rfl rfl, kM_pre NW_warm hP hK hD hN⟩ rfl rfl hl.1 rfl (lv_room (Nat.le_of_ble_eq_true rfl)) dX4_branch_17 ⟨Nat.zero_le _, Nat.zero_le _⟩) hD hS hA (fun r u H locs hw hP hD hS => ?_)
      obtain ⟨rfl, rfl⟩ := hw
      exact W.zret (v := bi (fX4_unknown p0 x).1) hx hb hr (bi_nar _) (fun t ht hW => ⟨⟨bi (fX4_unknown p0 x).1, ((fX4_unknown p0 x).2), rfl, ⟨(by unfold fX4_branch; rw [if_neg c_7, if_pos c_12] <;> rfl), (by unfold fX4_branch; rw [if_neg c_7, if_pos c_12] <;> rfl)⟩, hpT ht hP⟩, hS.F ht⟩) hS.2.2 dX4_branch_20
def fX4_putPc (p0 : Int32) (x : St) : Bool × St := if (p0 &&& (3 : Int32)) = 0 then
    (true, s_stop (s_pc x p0) false)
  else
    (false, x)
set_option maxHeartbeats 4000000 in
set_option maxRecDepth 100000 in
theorem mX4_putPc (l : Launch) (dC : Nat → ClassId) (dI : Nat → Nat → Nat) (aH aM aW aC aR iW iR : Nat) (sz : Nat) (x : St) (p0 : Int32) : Met l yX4_putPc wsX4_putPc ({ frames := 0, cells := 0, slots := 0, locals := 0 }) (va_Pc [.ref aH, .int p0] (kM (dC, dI) [(iW, .int), (iR, .int)] NW (wD aH aM aW aC aR iW iR x) sz)) (va_Qi (fun r u => r = bi (fX4_putPc p0 x).1 ∧ u = (fX4_putPc p0 x).2) (fun u t => va_P (dC, dI) vwCl (wD aH aM aW aC aR iW iR u) t.heap) (va_A (wD aH aM aW aC aR iW iR x) sz)) 0 0 (va_A (wD aH aM aW aC aR iW iR x) sz) := by
  refine Met.ofW (cc := cX4_putPc) (maxL := 2) (ret := (some .boolean)) (by decide) rfl ?_
  intro p e s m args below meth c s₁ B hml hv
  obtain ⟨rfl, hsz, hD0, hP, hK, hN⟩ := hv
  have hx := B.exec
  have hb := B.bytes
  have hr := B.returns
  have hB := fun (w : Cond) (h : w ∈ BIG) => atoms_spec (ws := wsX4_putPc) B.pre w (List.mem_cons_of_mem _ h)
  have hown : s.vm.findClass RX4 = some m.cls := findClass_of_methodNamed B.named
  have hlocks := B.notSynchronized
  subst hsz
  have hD := hD0.self (sz := s.heap.size)
  generalize hAe : va_A (wD aH aM aW aC aR iW iR x) s.heap.size = A at hD ⊢
  have hA : ∀ q : Nat, s.heap.size ≤ q → A q := fun q h => by rw [← hAe]; exact Or.inr h
  have hS : va_S A s.heap s.heap [] := va_S.rf
  have hl := lv_entry ([.ref aH, .int p0]) (n := 2) (Nat.le_of_ble_eq_true rfl)
  rw [lg_entry_eq]
  generalize (lg_sl ([.ref aH, .int p0]) ++ List.replicate (2 - (lg_sl ([.ref aH, .int p0])).length) Slot.unset).toArray = ls at hl ⊢
  have hl : lv_has ls 2 [(0, .ref aH), (1, .int p0)] := hl
  refine lv_iload_n hx hb dX4_putPc_0 rfl (lv_at hl 1 rfl) ?_
  refine lv_iconst (v := 3) hx hb dX4_putPc_1 (by decide) ?_
  refine lv_iand hx hb dX4_putPc_2 ?_
  refine lv_if_eq (tgt := 8) hx hb dX4_putPc_3 (by decide) (fun c_3 => ?_) (fun c_3 => ?_)
  · refine lv_aload_n hx hb dX4_putPc_8 rfl (lv_at hl 0 rfl) ?_
    refine lv_iload_n hx hb dX4_putPc_9 rfl (lv_at hl 1 rfl) ?_
    refine va_put (D := (dC, dI)) (ci := 2) (v := .int p0) (ty := .int) (C := RX4) (T := TX4) (N := 7) hx hb hB iX4 tyX4 tyX4_ok nmX4 hown hK hP hD hS 0 rfl rfl 3 (by decide) (hB _ q_t1_73) (fun _ h9 => h9) rfl (by decide +kernel) rfl rfl (Nat.le_of_ble_eq_true rfl) dX4_putPc_10 (fun H locs hP hD hS => ?_)
    have hP : va_P (dC, dI) vwCl (wD aH aM aW aC aR iW iR (s_pc x p0)) H := hP
    have hD : va_D A (wD aH aM aW aC aR iW iR (s_pc x p0)) := hD
    refine lv_aload_n hx hb dX4_putPc_13 rfl (lv_at hl 0 rfl) ?_
    refine lv_iconst (v := 0) hx hb dX4_putPc_14 (by decide) ?_
    refine va_put (D := (dC, dI)) (ci := 2) (v := .int 0) (ty := .boolean) (C := RX4) (T := TX4) (N := 7) hx hb hB iX4 tyX4 tyX4_ok nmX4 hown hK hP hD hS 0 rfl rfl 4 (by decide) (hB _ q_t1_74) (fun _ h9 => h9) rfl (by decide +kernel) rfl rfl (Nat.le_of_ble_eq_true rfl) dX4_putPc_15 (fun H locs hP hD hS => ?_)
    have hP : va_P (dC, dI) vwCl (wD aH aM aW aC aR iW iR (s_stop (s_pc x p0) false)) H := hP
    have hD : va_D A (wD aH aM aW aC aR iW iR (s_stop (s_pc x p0) false)) := hD
    refine lv_iconst (v := 1) hx hb dX4_putPc_18 (by decide) ?_
    exact W.zret (v := (1 : Int32)) hx hb hr rfl (fun t ht hW => ⟨⟨(1 : Int32), (s_stop (s_pc x p0) false), rfl, ⟨(by unfold fX4_putPc; rw [if_pos c_3] <;> rfl), (by unfold fX4_putPc; rw [if_pos c_3] <;> rfl)⟩, hpT ht hP⟩, hS.F ht⟩) hS.2.2 dX4_putPc_19
  · refine lv_iconst (v := 0) hx hb dX4_putPc_6 (by decide) ?_
    exact W.zret (v := (0 : Int32)) hx hb hr rfl (fun t ht hW => ⟨⟨(0 : Int32), x, rfl, ⟨(by unfold fX4_putPc; rw [if_neg c_3] <;> rfl), (by unfold fX4_putPc; rw [if_neg c_3] <;> rfl)⟩, hpT ht hP⟩, hS.F ht⟩) hS.2.2 dX4_putPc_7
def fX4_put (p0 : Int32) (p1 : Int32) (x : St) : Bool × St := if p0 = (32 : Int32) then
    ((fX4_putPc p1 x).1, (fX4_putPc p1 x).2)
  else
    if p0 < (1 : Int32) then
      (false, x)
    else
      if p0 < (32 : Int32) then
        (true, fX4_writeRegister p0 p1 x)
      else
        (false, x)
set_option maxHeartbeats 4000000 in
set_option maxRecDepth 100000 in
theorem mX4_put (l : Launch) (dC : Nat → ClassId) (dI : Nat → Nat → Nat) (aH aM aW aC aR iW iR : Nat) (sz : Nat) (x : St) (p0 : Int32) (p1 : Int32) : Met l yX4_put wsX4_put ({ frames := 1, cells := 0, slots := 0, locals := 22 }) (va_Pc [.ref aH, .int p0, .int p1] (kM (dC, dI) [(iW, .int), (iR, .int)] NW (wD aH aM aW aC aR iW iR x) sz)) (va_Qi (fun r u => r = bi (fX4_put p0 p1 x).1 ∧ u = (fX4_put p0 p1 x).2) (fun u t => va_P (dC, dI) vwCl (wD aH aM aW aC aR iW iR u) t.heap) (va_A (wD aH aM aW aC aR iW iR x) sz)) 0 0 (va_A (wD aH aM aW aC aR iW iR x) sz) := by
  refine Met.ofW (cc := cX4_put) (maxL := 3) (ret := (some .boolean)) (by decide) rfl ?_
  intro p e s m args below meth c s₁ B hml hv
  obtain ⟨rfl, hsz, hD0, hP, hK, hN⟩ := hv
  have hx := B.exec
  have hb := B.bytes
  have hr := B.returns
  have hB := fun (w : Cond) (h : w ∈ BIG) => atoms_spec (ws := wsX4_put) B.pre w (List.mem_cons_of_mem _ h)
  have hown : s.vm.findClass RX4 = some m.cls := findClass_of_methodNamed B.named
  have hlocks := B.notSynchronized
  subst hsz
  have hD := hD0.self (sz := s.heap.size)
  generalize hAe : va_A (wD aH aM aW aC aR iW iR x) s.heap.size = A at hD ⊢
  have hA : ∀ q : Nat, s.heap.size ≤ q → A q := fun q h => by rw [← hAe]; exact Or.inr h
  have hS : va_S A s.heap s.heap [] := va_S.rf
  have hl := lv_entry ([.ref aH, .int p0, .int p1]) (n := 3) (Nat.le_of_ble_eq_true rfl)
  rw [lg_entry_eq]
  generalize (lg_sl ([.ref aH, .int p0, .int p1]) ++ List.replicate (3 - (lg_sl ([.ref aH, .int p0, .int p1])).length) Slot.unset).toArray = ls at hl ⊢
  have hl : lv_has ls 3 [(0, .ref aH), (1, .int p0), (2, .int p1)] := hl
  refine lv_iload_n hx hb dX4_put_0 rfl (lv_at hl 1 rfl) ?_
  refine lv_bipush (v := 32) hx hb dX4_put_1 (by decide) ?_
  refine lv_icmp_ne (tgt := 12) hx hb dX4_put_3 (by decide) (fun c_3 => ?_) (fun c_3 => ?_)
  · refine lv_iload_n hx hb dX4_put_12 rfl (lv_at hl 1 rfl) ?_
    refine lv_iconst (v := 1) hx hb dX4_put_13 (by decide) ?_
    refine lv_icmp_lt (tgt := 23) hx hb dX4_put_14 (by decide) (fun c_14 => ?_) (fun c_14 => ?_)
    · refine lv_iconst (v := 0) hx hb dX4_put_23 (by decide) ?_
      exact W.zret (v := (0 : Int32)) hx hb hr rfl (fun t ht hW => ⟨⟨(0 : Int32), x, rfl, ⟨(by unfold fX4_put; rw [if_neg c_3, if_pos c_14] <;> rfl), (by unfold fX4_put; rw [if_neg c_3, if_pos c_14] <;> rfl)⟩, hpT ht hP⟩, hS.F ht⟩) hS.2.2 dX4_put_24
    · refine lv_iload_n hx hb dX4_put_17 rfl (lv_at hl 1 rfl) ?_
      refine lv_bipush (v := 32) hx hb dX4_put_18 (by decide) ?_
      refine lv_icmp_lt (tgt := 25) hx hb dX4_put_20 (by decide) (fun c_20 => ?_) (fun c_20 => ?_)
      · refine lv_aload_n hx hb dX4_put_25 rfl (lv_at hl 0 rfl) ?_
        refine lv_iload_n hx hb dX4_put_26 rfl (lv_at hl 1 rfl) ?_
        refine lv_iload_n hx hb dX4_put_27 rfl (lv_at hl 2 rfl) ?_
        refine k_mv (w := wD aH aM aW aC aR iW iR) wD_ad (va_runV (As := [.int p0, .int p1]) (rest := []) ⟨hx, hb, hml, hown, hB⟩ (mX4_writeRegister l dC dI aH aM aW aC aR iW iR s.heap.size x p0 p1) (cwV 2 hB (gV q_t1_114 q_t1_116 q_s_2 q_t1_1 wX4_writeRegister) rfl rfl rfl hX4_writeRegister ⟨Nat.le_of_ble_eq_true rfl, Nat.le_of_ble_eq_true rfl⟩) ⟨kM_blind NW_blind, va_recv hK hP (ci := 2) (q0 := 0) rfl rfl, kM_pre NW_warm hP hK hD hN⟩ rfl rfl hl.1 rfl (lv_room (Nat.le_of_ble_eq_true rfl)) dX4_put_28 ⟨Nat.zero_le _, Nat.zero_le _⟩) hD hS hA (fun u H locs hw hP hD hS => ?_)
        obtain rfl := hw
        refine lv_iconst (v := 1) hx hb dX4_put_31 (by decide) ?_
        exact W.zret (v := (1 : Int32)) hx hb hr rfl (fun t ht hW => ⟨⟨(1 : Int32), (fX4_writeRegister p0 p1 x), rfl, ⟨(by unfold fX4_put; rw [if_neg c_3, if_neg c_14, if_pos c_20] <;> rfl), (by unfold fX4_put; rw [if_neg c_3, if_neg c_14, if_pos c_20] <;> rfl)⟩, hpT ht hP⟩, hS.F ht⟩) hS.2.2 dX4_put_32
      · refine lv_iconst (v := 0) hx hb dX4_put_23 (by decide) ?_
        exact W.zret (v := (0 : Int32)) hx hb hr rfl (fun t ht hW => ⟨⟨(0 : Int32), x, rfl, ⟨(by unfold fX4_put; rw [if_neg c_3, if_neg c_14, if_neg c_20] <;> rfl), (by unfold fX4_put; rw [if_neg c_3, if_neg c_14, if_neg c_20] <;> rfl)⟩, hpT ht hP⟩, hS.F ht⟩) hS.2.2 dX4_put_24
  · refine lv_aload_n hx hb dX4_put_6 rfl (lv_at hl 0 rfl) ?_
    refine lv_iload_n hx hb dX4_put_7 rfl (lv_at hl 2 rfl) ?_
    refine k_mi (w := wD aH aM aW aC aR iW iR) wD_ad (va_runV (As := [.int p1]) (rest := []) ⟨hx, hb, hml, hown, hB⟩ (mX4_putPc l dC dI aH aM aW aC aR iW iR s.heap.size x p1) (cwV 1 hB (gV q_t1_110 q_t1_112 q_s_1 q_t1_1 wX4_putPc) rfl rfl rfl hX4_putPc ⟨Nat.le_of_ble_eq_true rfl, Nat.le_of_ble_eq_true rfl⟩) ⟨kM_blind NW_blind, va_recv hK hP (ci := 2) (q0 := 0) rfl rfl, kM_pre NW_warm hP hK hD hN⟩ rfl rfl hl.1 rfl (lv_room (Nat.le_of_ble_eq_true rfl)) dX4_put_8 ⟨Nat.zero_le _, Nat.zero_le _⟩) hD hS hA (fun r u H locs hw hP hD hS => ?_)
    obtain ⟨rfl, rfl⟩ := hw
    exact W.zret (v := bi (fX4_putPc p1 x).1) hx hb hr (bi_nar _) (fun t ht hW => ⟨⟨bi (fX4_putPc p1 x).1, ((fX4_putPc p1 x).2), rfl, ⟨(by unfold fX4_put; rw [if_pos c_3] <;> rfl), (by unfold fX4_put; rw [if_pos c_3] <;> rfl)⟩, hpT ht hP⟩, hS.F ht⟩) hS.2.2 dX4_put_11
def fX4_set (p0 : Int32) (p1 : Int32) (x : St) : Bool × St := if (bi (fX3_isWordAddress p0)) = 0 then
    (false, x)
  else
    (true, fX3_writeWord p0 p1 x)
set_option maxHeartbeats 4000000 in
set_option maxRecDepth 100000 in
theorem mX4_set (l : Launch) (dC : Nat → ClassId) (dI : Nat → Nat → Nat) (aH aM aW aC aR iW iR : Nat) (sz : Nat) (x : St) (p0 : Int32) (p1 : Int32) : Met l yX4_set wsX4_set ({ frames := 2, cells := 0, slots := 0, locals := 40 }) (va_Pc [.ref aH, .int p0, .int p1] (kM (dC, dI) [(iW, .int), (iR, .int)] NW (wD aH aM aW aC aR iW iR x) sz)) (va_Qi (fun r u => r = bi (fX4_set p0 p1 x).1 ∧ u = (fX4_set p0 p1 x).2) (fun u t => va_P (dC, dI) vwCl (wD aH aM aW aC aR iW iR u) t.heap) (va_A (wD aH aM aW aC aR iW iR x) sz)) 0 0 (va_A (wD aH aM aW aC aR iW iR x) sz) := by
  refine Met.ofW (cc := cX4_set) (maxL := 3) (ret := (some .boolean)) (by decide) rfl ?_
  intro p e s m args below meth c s₁ B hml hv
  obtain ⟨rfl, hsz, hD0, hP, hK, hN⟩ := hv
  have hx := B.exec
  have hb := B.bytes
  have hr := B.returns
  have hB := fun (w : Cond) (h : w ∈ BIG) => atoms_spec (ws := wsX4_set) B.pre w (List.mem_cons_of_mem _ h)
  have hown : s.vm.findClass RX4 = some m.cls := findClass_of_methodNamed B.named
  have hlocks := B.notSynchronized
  subst hsz
  have hD := hD0.self (sz := s.heap.size)
  generalize hAe : va_A (wD aH aM aW aC aR iW iR x) s.heap.size = A at hD ⊢
  have hA : ∀ q : Nat, s.heap.size ≤ q → A q := fun q h => by rw [← hAe]; exact Or.inr h
  have hS : va_S A s.heap s.heap [] := va_S.rf
  have hl := lv_entry ([.ref aH, .int p0, .int p1]) (n := 3) (Nat.le_of_ble_eq_true rfl)
  rw [lg_entry_eq]
  generalize (lg_sl ([.ref aH, .int p0, .int p1]) ++ List.replicate (3 - (lg_sl ([.ref aH, .int p0, .int p1])).length) Slot.unset).toArray = ls at hl ⊢
  have hl : lv_has ls 3 [(0, .ref aH), (1, .int p0), (2, .int p1)] := hl
  refine lv_iload_n hx hb dX4_set_0 rfl (lv_at hl 1 rfl) ?_
  refine k_ri (va_runSN (As := [.int p0]) (rest := []) ⟨hx, hb, hml, hown, hB⟩ (mX3_isWordAddress l p0) ⟨va_cnB 1 hB (good_in wX3_isWordAddress) rfl rfl rfl (hN _ (List.mem_of_getElem? (i := 5) rfl)) (hB _ q_t1_2) hX3_isWordAddress.2 ⟨Nat.le_of_ble_eq_true rfl, Nat.le_of_ble_eq_true rfl⟩, hB _ q_t1_97, trivial⟩ ⟨fun _ _ _ _ q => q, fun U _ _ => ⟨rfl, trivial⟩⟩ rfl rfl hl.1 rfl (lv_room (Nat.le_of_ble_eq_true rfl)) dX4_set_1 ⟨Nat.zero_le _, Nat.zero_le _⟩) ?_
  refine lv_if_ne (tgt := 9) hx hb dX4_set_4 (by decide) (fun c_4 => ?_) (fun c_4 => ?_)
  · refine lv_aload_n hx hb dX4_set_9 rfl (lv_at hl 0 rfl) ?_
    refine va_get (D := (dC, dI)) (ci := 2) (v := .ref aM) (C := RX4) (T := TX4) (N := 7) hx hb hB iX4 hown hK hP 0 rfl rfl 0 (by decide) (hB _ q_t1_70) (fun _ h9 => h9) rfl dX4_set_10 ?_
    refine lv_iload_n hx hb dX4_set_13 rfl (lv_at hl 1 rfl) ?_
    refine lv_iload_n hx hb dX4_set_14 rfl (lv_at hl 2 rfl) ?_
    refine k_mv (w := wD aH aM aW aC aR iW iR) wD_ad (va_runVN (As := [.int p0, .int p1]) (rest := []) ⟨hx, hb, hml, hown, hB⟩ (mX3_writeWord l dC dI aH aM aW aC aR iW iR s.heap.size x p0 p1) ⟨va_cnB 2 hB (good_in wX3_writeWord) rfl rfl rfl (hN _ (List.mem_of_getElem? (i := 6) rfl)) (hB _ q_t1_2) hX3_writeWord.2 ⟨Nat.le_of_ble_eq_true rfl, Nat.le_of_ble_eq_true rfl⟩, hB _ q_t1_104, hB _ q_s_0⟩ ⟨kM_blind NW_blind, va_recv hK hP (ci := 1) (q0 := 1) rfl rfl, kM_pre NW_warm hP hK hD hN⟩ rfl rfl hl.1 rfl (lv_room (Nat.le_of_ble_eq_true rfl)) dX4_set_15 ⟨Nat.zero_le _, Nat.zero_le _⟩) hD hS hA (fun u H locs hw hP hD hS => ?_)
    obtain rfl := hw
    refine lv_iconst (v := 1) hx hb dX4_set_18 (by decide) ?_
    exact W.zret (v := (1 : Int32)) hx hb hr rfl (fun t ht hW => ⟨⟨(1 : Int32), (fX3_writeWord p0 p1 x), rfl, ⟨(by unfold fX4_set; rw [if_neg c_4] <;> rfl), (by unfold fX4_set; rw [if_neg c_4] <;> rfl)⟩, hpT ht hP⟩, hS.F ht⟩) hS.2.2 dX4_set_19
  · refine lv_iconst (v := 0) hx hb dX4_set_7 (by decide) ?_
    exact W.zret (v := (0 : Int32)) hx hb hr rfl (fun t ht hW => ⟨⟨(0 : Int32), x, rfl, ⟨(by unfold fX4_set; rw [if_pos c_4] <;> rfl), (by unfold fX4_set; rw [if_pos c_4] <;> rfl)⟩, hpT ht hP⟩, hS.F ht⟩) hS.2.2 dX4_set_8
def fX4_line (p0 : Bool) (x : St) : St := s_line x p0
set_option maxHeartbeats 4000000 in
set_option maxRecDepth 100000 in
theorem mX4_line (l : Launch) (dC : Nat → ClassId) (dI : Nat → Nat → Nat) (aH aM aW aC aR iW iR : Nat) (sz : Nat) (x : St) (p0 : Bool) : Met l yX4_line wsX4_line ({ frames := 0, cells := 0, slots := 0, locals := 0 }) (va_Pc [.ref aH, .int (bi p0)] (kM (dC, dI) [(iW, .int), (iR, .int)] NW (wD aH aM aW aC aR iW iR x) sz)) (va_Qv (fun u => u = fX4_line p0 x) (fun u t => va_P (dC, dI) vwCl (wD aH aM aW aC aR iW iR u) t.heap) (va_A (wD aH aM aW aC aR iW iR x) sz)) 0 0 (va_A (wD aH aM aW aC aR iW iR x) sz) := by
  refine Met.ofW (cc := cX4_line) (maxL := 2) (ret := none) (by decide) rfl ?_
  intro p e s m args below meth c s₁ B hml hv
  obtain ⟨rfl, hsz, hD0, hP, hK, hN⟩ := hv
  have hx := B.exec
  have hb := B.bytes
  have hr := B.returns
  have hB := fun (w : Cond) (h : w ∈ BIG) => atoms_spec (ws := wsX4_line) B.pre w (List.mem_cons_of_mem _ h)
  have hown : s.vm.findClass RX4 = some m.cls := findClass_of_methodNamed B.named
  have hlocks := B.notSynchronized
  subst hsz
  have hD := hD0.self (sz := s.heap.size)
  generalize hAe : va_A (wD aH aM aW aC aR iW iR x) s.heap.size = A at hD ⊢
  have hA : ∀ q : Nat, s.heap.size ≤ q → A q := fun q h => by rw [← hAe]; exact Or.inr h
  have hS : va_S A s.heap s.heap [] := va_S.rf
  have hl := lv_entry ([.ref aH, .int (bi p0)]) (n := 2) (Nat.le_of_ble_eq_true rfl)
  rw [lg_entry_eq]
  generalize (lg_sl ([.ref aH, .int (bi p0)]) ++ List.replicate (2 - (lg_sl ([.ref aH, .int (bi p0)])).length) Slot.unset).toArray = ls at hl ⊢
  have hl : lv_has ls 2 [(0, .ref aH), (1, .int (bi p0))] := hl
  refine lv_aload_n hx hb dX4_line_0 rfl (lv_at hl 0 rfl) ?_
  refine va_get (D := (dC, dI)) (ci := 2) (v := .ref aC) (C := RX4) (T := TX4) (N := 7) hx hb hB iX4 hown hK hP 0 rfl rfl 1 (by decide) (hB _ q_t1_71) (fun _ h9 => h9) rfl dX4_line_1 ?_
  refine lv_iload_n hx hb dX4_line_4 rfl (lv_at hl 1 rfl) ?_
  refine va_putN (D := (dC, dI)) (ci := 0) (v := .int (bi p0)) (ty := .boolean) (C := RX2) (T := TX2) (N := 9) hx hb hB iX2 tyX2 tyX2_ok nmX2 hown hK hP hD hS 3 rfl rfl 8 (by decide) (va_Nw.use rfl (hN _ (List.mem_of_getElem? (i := 4) rfl))) (fun _ h9 => h9) rfl (by decide +kernel) (bi_nar _) (bi_fit _) (Nat.le_of_ble_eq_true rfl) dX4_line_5 (fun H locs hP hD hS => ?_)
  have hP : va_P (dC, dI) vwCl (wD aH aM aW aC aR iW iR (s_line x p0)) H := hP
  have hD : va_D A (wD aH aM aW aC aR iW iR (s_line x p0)) := hD
  exact W.vret hx hb hr (fun t ht hW => ⟨⟨(s_line x p0), rfl, rfl, hpT ht hP⟩, hS.F ht⟩) hS.2.2 dX4_line_8
def fX4_state (p0 : Int32) (x : St) : Int32 := if p0 = (0 : Int32) then
    if (bi (g_stop x)) = 0 then
      (0 : Int32)
    else
      (1 : Int32)
  else
    if p0 = (1 : Int32) then
      g_steps x
    else
      if p0 = (2 : Int32) then
        (g_done x) &&& (2147483647 : Int32)
      else
        if p0 = (3 : Int32) then
          g_traps x
        else
          if p0 = (4 : Int32) then
            if (bi (g_line x)) = 0 then
              (0 : Int32)
            else
              (1 : Int32)
          else
            (-1 : Int32)
set_option maxHeartbeats 4000000 in
set_option maxRecDepth 100000 in
theorem mX4_state (l : Launch) (dC : Nat → ClassId) (dI : Nat → Nat → Nat) (aH aM aW aC aR iW iR : Nat) (x : St) (p0 : Int32) : Met l yX4_state wsX4_state ({ frames := 0, cells := 0, slots := 0, locals := 0 }) (va_Pc [.ref aH, .int p0] (kP (dC, dI) [(iW, .int), (iR, .int)] NW (wD aH aM aW aC aR iW iR x))) (QcRead ((fX4_state p0 x))) 0 0 (fun _ => False) := by
  refine Met.ofW (cc := cX4_state) (maxL := 2) (ret := (some .int)) (by decide) rfl ?_
  intro p e s m args below meth c s₁ B hml hv
  obtain ⟨rfl, hP, hK, hN⟩ := hv
  have hx := B.exec
  have hb := B.bytes
  have hr := B.returns
  have hB := fun (w : Cond) (h : w ∈ BIG) => atoms_spec (ws := wsX4_state) B.pre w (List.mem_cons_of_mem _ h)
  have hown : s.vm.findClass RX4 = some m.cls := findClass_of_methodNamed B.named
  have hlocks := B.notSynchronized
  have hl := lv_entry ([.ref aH, .int p0]) (n := 2) (Nat.le_of_ble_eq_true rfl)
  rw [lg_entry_eq]
  generalize (lg_sl ([.ref aH, .int p0]) ++ List.replicate (2 - (lg_sl ([.ref aH, .int p0])).length) Slot.unset).toArray = ls at hl ⊢
  have hl : lv_has ls 2 [(0, .ref aH), (1, .int p0)] := hl
  refine lv_iload_n hx hb dX4_state_0 rfl (lv_at hl 1 rfl) ?_
  by_cases c_1_0 : p0 = (0 : Int32)
  · refine lv_tableIn (off := 35) (tgt := 36) hx hb dX4_state_1 (by rw [c_1_0]; decide) (by rw [c_1_0]; decide) (by rw [c_1_0]; rfl) (by decide) ?_
    refine lv_aload_n hx hb dX4_state_36 rfl (lv_at hl 0 rfl) ?_
    refine va_get (D := (dC, dI)) (ci := 2) (v := .int (bi (g_stop x))) (C := RX4) (T := TX4) (N := 7) hx hb hB iX4 hown hK hP 0 rfl rfl 4 (by decide) (hB _ q_t1_74) (fun _ h9 => h9) rfl dX4_state_37 ?_
    refine lv_if_eq (tgt := 47) hx hb dX4_state_40 (by decide) (fun c_40 => ?_) (fun c_40 => ?_)
    · refine lv_iconst (v := 0) hx hb dX4_state_47 (by decide) ?_
      exact W.iret (v := (0 : Int32)) hx hb hr (fun t ht hW => ⟨congrArg (fun z => Outcome.returned (some (Value.int z))) (by unfold fX4_state; rw [if_pos c_1_0, if_pos c_40] <;> rfl), ht⟩) (fun q h => nomatch h) dX4_state_48
    · refine lv_iconst (v := 1) hx hb dX4_state_43 (by decide) ?_
      refine lv_goto (tgt := 48) hx hb dX4_state_44 (by decide) ?_
      exact W.iret (v := (1 : Int32)) hx hb hr (fun t ht hW => ⟨congrArg (fun z => Outcome.returned (some (Value.int z))) (by unfold fX4_state; rw [if_pos c_1_0, if_neg c_40] <;> rfl), ht⟩) (fun q h => nomatch h) dX4_state_48
  by_cases c_1_1 : p0 = (1 : Int32)
  · refine lv_tableIn (off := 48) (tgt := 49) hx hb dX4_state_1 (by rw [c_1_1]; decide) (by rw [c_1_1]; decide) (by rw [c_1_1]; rfl) (by decide) ?_
    refine lv_aload_n hx hb dX4_state_49 rfl (lv_at hl 0 rfl) ?_
    refine va_get (D := (dC, dI)) (ci := 2) (v := .int (g_steps x)) (C := RX4) (T := TX4) (N := 7) hx hb hB iX4 hown hK hP 0 rfl rfl 5 (by decide) (hB _ q_t1_75) (fun _ h9 => h9) rfl dX4_state_50 ?_
    exact W.iret (v := g_steps x) hx hb hr (fun t ht hW => ⟨congrArg (fun z => Outcome.returned (some (Value.int z))) (by unfold fX4_state; rw [if_neg c_1_0, if_pos c_1_1] <;> rfl), ht⟩) (fun q h => nomatch h) dX4_state_53
  by_cases c_1_2 : p0 = (2 : Int32)
  · refine lv_tableIn (off := 53) (tgt := 54) hx hb dX4_state_1 (by rw [c_1_2]; decide) (by rw [c_1_2]; decide) (by rw [c_1_2]; rfl) (by decide) ?_
    refine lv_aload_n hx hb dX4_state_54 rfl (lv_at hl 0 rfl) ?_
    refine va_get (D := (dC, dI)) (ci := 2) (v := .ref aC) (C := RX4) (T := TX4) (N := 7) hx hb hB iX4 hown hK hP 0 rfl rfl 1 (by decide) (hB _ q_t1_71) (fun _ h9 => h9) rfl dX4_state_55 ?_
    refine va_getN (D := (dC, dI)) (ci := 0) (v := .int (g_done x)) (C := RX2) (T := TX2) (N := 9) hx hb hB iX2 hown hK hP 3 rfl rfl 7 (by decide) (va_Nw.use rfl (hN _ (List.mem_of_getElem? (i := 3) rfl))) (fun _ h9 => h9) rfl dX4_state_58 ?_
    refine lv_ldc (v := 2147483647) hx hb hown (hB _ q_t1_142) dX4_state_61 ?_
    refine lv_iand hx hb dX4_state_63 ?_
    exact W.iret (v := (g_done x) &&& (2147483647 : Int32)) hx hb hr (fun t ht hW => ⟨congrArg (fun z => Outcome.returned (some (Value.int z))) (by unfold fX4_state; rw [if_neg c_1_0, if_neg c_1_1, if_pos c_1_2] <;> rfl), ht⟩) (fun q h => nomatch h) dX4_state_64
  by_cases c_1_3 : p0 = (3 : Int32)
  · refine lv_tableIn (off := 64) (tgt := 65) hx hb dX4_state_1 (by rw [c_1_3]; decide) (by rw [c_1_3]; decide) (by rw [c_1_3]; rfl) (by decide) ?_
    refine lv_aload_n hx hb dX4_state_65 rfl (lv_at hl 0 rfl) ?_
    refine va_get (D := (dC, dI)) (ci := 2) (v := .int (g_traps x)) (C := RX4) (T := TX4) (N := 7) hx hb hB iX4 hown hK hP 0 rfl rfl 6 (by decide) (hB _ q_t1_76) (fun _ h9 => h9) rfl dX4_state_66 ?_
    exact W.iret (v := g_traps x) hx hb hr (fun t ht hW => ⟨congrArg (fun z => Outcome.returned (some (Value.int z))) (by unfold fX4_state; rw [if_neg c_1_0, if_neg c_1_1, if_neg c_1_2, if_pos c_1_3] <;> rfl), ht⟩) (fun q h => nomatch h) dX4_state_69
  by_cases c_1_4 : p0 = (4 : Int32)
  · refine lv_tableIn (off := 69) (tgt := 70) hx hb dX4_state_1 (by rw [c_1_4]; decide) (by rw [c_1_4]; decide) (by rw [c_1_4]; rfl) (by decide) ?_
    refine lv_aload_n hx hb dX4_state_70 rfl (lv_at hl 0 rfl) ?_
    refine va_get (D := (dC, dI)) (ci := 2) (v := .ref aC) (C := RX4) (T := TX4) (N := 7) hx hb hB iX4 hown hK hP 0 rfl rfl 1 (by decide) (hB _ q_t1_71) (fun _ h9 => h9) rfl dX4_state_71 ?_
    refine va_getN (D := (dC, dI)) (ci := 0) (v := .int (bi (g_line x))) (C := RX2) (T := TX2) (N := 9) hx hb hB iX2 hown hK hP 3 rfl rfl 8 (by decide) (va_Nw.use rfl (hN _ (List.mem_of_getElem? (i := 4) rfl))) (fun _ h9 => h9) rfl dX4_state_74 ?_
    refine lv_if_eq (tgt := 84) hx hb dX4_state_77 (by decide) (fun c_77 => ?_) (fun c_77 => ?_)
    · refine lv_iconst (v := 0) hx hb dX4_state_84 (by decide) ?_
      exact W.iret (v := (0 : Int32)) hx hb hr (fun t ht hW => ⟨congrArg (fun z => Outcome.returned (some (Value.int z))) (by unfold fX4_state; rw [if_neg c_1_0, if_neg c_1_1, if_neg c_1_2, if_neg c_1_3, if_pos c_1_4, if_pos c_77] <;> rfl), ht⟩) (fun q h => nomatch h) dX4_state_85
    · refine lv_iconst (v := 1) hx hb dX4_state_80 (by decide) ?_
      refine lv_goto (tgt := 85) hx hb dX4_state_81 (by decide) ?_
      exact W.iret (v := (1 : Int32)) hx hb hr (fun t ht hW => ⟨congrArg (fun z => Outcome.returned (some (Value.int z))) (by unfold fX4_state; rw [if_neg c_1_0, if_neg c_1_1, if_neg c_1_2, if_neg c_1_3, if_pos c_1_4, if_neg c_77] <;> rfl), ht⟩) (fun q h => nomatch h) dX4_state_85
  refine lv_tableOut (tgt := 86) hx hb dX4_state_1 (by have h0 := lv_neT (a := 0) c_1_0 (by decide); have h1 := lv_neT (a := 1) c_1_1 (by decide); have h2 := lv_neT (a := 2) c_1_2 (by decide); have h3 := lv_neT (a := 3) c_1_3 (by decide); have h4 := lv_neT (a := 4) c_1_4 (by decide); omega) (by decide) ?_
  refine lv_iconst (v := -1) hx hb dX4_state_86 (by decide) ?_
  exact W.iret (v := (-1 : Int32)) hx hb hr (fun t ht hW => ⟨congrArg (fun z => Outcome.returned (some (Value.int z))) (by unfold fX4_state; rw [if_neg c_1_0, if_neg c_1_1, if_neg c_1_2, if_neg c_1_3, if_neg c_1_4] <;> rfl), ht⟩) (fun q h => nomatch h) dX4_state_87
def fX4_reset (p0 : Bool) (x : St) : St := if (bi p0) = 0 then
    s_traps (s_stop (s_pc (fX2_clear (s_reg x (fillf 32 (0 : Int32) (g_reg x)))) (0 : Int32)) false) (0 : Int32)
  else
    fX3_clear (s_traps (s_stop (s_pc (fX2_clear (s_reg x (fillf 32 (0 : Int32) (g_reg x)))) (0 : Int32)) false) (0 : Int32))
set_option maxHeartbeats 4000000 in
set_option maxRecDepth 100000 in
theorem mX4_reset (l : Launch) (dC : Nat → ClassId) (dI : Nat → Nat → Nat) (aH aM aW aC aR iW iR : Nat) (sz : Nat) (x : St) (p0 : Bool) : Met l yX4_reset wsX4_reset ({ frames := 2, cells := 0, slots := 0, locals := 43 }) (va_Pc [.ref aH, .int (bi p0)] (kM (dC, dI) [(iW, .int), (iR, .int)] NW (wD aH aM aW aC aR iW iR x) sz)) (va_Qv (fun u => u = fX4_reset p0 x) (fun u t => va_P (dC, dI) vwCl (wD aH aM aW aC aR iW iR u) t.heap) (va_A (wD aH aM aW aC aR iW iR x) sz)) 0 0 (va_A (wD aH aM aW aC aR iW iR x) sz) := by
  refine Met.ofW (cc := cX4_reset) (maxL := 2) (ret := none) (by decide) rfl ?_
  intro p e s m args below meth c s₁ B hml hv
  obtain ⟨rfl, hsz, hD0, hP, hK, hN⟩ := hv
  have hx := B.exec
  have hb := B.bytes
  have hr := B.returns
  have hB := fun (w : Cond) (h : w ∈ BIG) => atoms_spec (ws := wsX4_reset) B.pre w (List.mem_cons_of_mem _ h)
  have hown : s.vm.findClass RX4 = some m.cls := findClass_of_methodNamed B.named
  have hlocks := B.notSynchronized
  subst hsz
  have hD := hD0.self (sz := s.heap.size)
  generalize hAe : va_A (wD aH aM aW aC aR iW iR x) s.heap.size = A at hD ⊢
  have hA : ∀ q : Nat, s.heap.size ≤ q → A q := fun q h => by rw [← hAe]; exact Or.inr h
  have hS : va_S A s.heap s.heap [] := va_S.rf
  have hl := lv_entry ([.ref aH, .int (bi p0)]) (n := 2) (Nat.le_of_ble_eq_true rfl)
  rw [lg_entry_eq]
  generalize (lg_sl ([.ref aH, .int (bi p0)]) ++ List.replicate (2 - (lg_sl ([.ref aH, .int (bi p0)])).length) Slot.unset).toArray = ls at hl ⊢
  have hl : lv_has ls 2 [(0, .ref aH), (1, .int (bi p0))] := hl
  refine lv_aload_n hx hb dX4_reset_0 rfl (lv_at hl 0 rfl) ?_
  refine va_get (D := (dC, dI)) (ci := 2) (v := .ref aR) (C := RX4) (T := TX4) (N := 7) hx hb hB iX4 hown hK hP 0 rfl rfl 2 (by decide) (hB _ q_t1_72) (fun _ h9 => h9) rfl dX4_reset_1 ?_
  refine lv_iconst (v := 0) hx hb dX4_reset_4 (by decide) ?_
  refine k_mv (w := fun u : Nat → Int32 => (wD aH aM aW aC aR iW iR x).set 4 (aR, .inl (iR, 32, .inl u))) (x := g_reg x) (fun _ _ => rfl) (va_runS (As := [.ref aR, .int (0 : Int32)]) (rest := []) ⟨hx, hb, hml, hown, hB⟩ (m_fill l dC dI (wD aH aM aW aC aR iW iR x) [(iW, .int), (iR, .int)] 4 1 aR iR 32 (g_reg x) (0 : Int32) s.heap.size rfl rfl (by decide)) (va_cwS 2 hB (gS q_t1_126 q_t1_127 q_t1_12 wJ7_fill) rfl rfl rfl hJ7_fill.2 ⟨Nat.le_of_ble_eq_true rfl, Nat.le_of_ble_eq_true rfl⟩) ⟨kM_blind NW_blind, kM_pre NW_warm hP hK hD hN⟩ rfl rfl hl.1 rfl (lv_room (Nat.le_of_ble_eq_true rfl)) dX4_reset_5 ⟨Nat.zero_le _, Nat.zero_le _⟩) hD hS hA (fun u H locs hw hP hD hS => ?_)
  obtain rfl := hw
  have hP : va_P (dC, dI) vwCl (wD aH aM aW aC aR iW iR (s_reg x (fillf 32 (0 : Int32) (g_reg x)))) H := hP
  have hD : va_D A (wD aH aM aW aC aR iW iR (s_reg x (fillf 32 (0 : Int32) (g_reg x)))) := hD
  refine lv_aload_n hx hb dX4_reset_8 rfl (lv_at hl 0 rfl) ?_
  refine va_get (D := (dC, dI)) (ci := 2) (v := .ref aC) (C := RX4) (T := TX4) (N := 7) hx hb hB iX4 hown hK hP 0 rfl rfl 1 (by decide) (hB _ q_t1_71) (fun _ h9 => h9) rfl dX4_reset_9 ?_
  refine k_mv (w := wD aH aM aW aC aR iW iR) wD_ad (va_runVN (As := []) (rest := []) ⟨hx, hb, hml, hown, hB⟩ (mX2_clear l dC dI aH aM aW aC aR iW iR H.size (s_reg x (fillf 32 (0 : Int32) (g_reg x)))) ⟨va_cnB 0 hB (good_in wX2_clear) rfl rfl rfl (hN _ (List.mem_of_getElem? (i := 7) rfl)) (hB _ q_t1_3) hX2_clear.2 ⟨Nat.le_of_ble_eq_true rfl, Nat.le_of_ble_eq_true rfl⟩, hB _ q_t1_131, hB _ q_s_3⟩ ⟨kM_blind NW_blind, va_recv hK hP (ci := 0) (q0 := 3) rfl rfl, kM_pre NW_warm hP hK hD hN⟩ rfl rfl hl.1 rfl (lv_room (Nat.le_of_ble_eq_true rfl)) dX4_reset_12 ⟨Nat.zero_le _, Nat.zero_le _⟩) hD hS hA (fun u H locs hw hP hD hS => ?_)
  obtain rfl := hw
  refine lv_aload_n hx hb dX4_reset_15 rfl (lv_at hl 0 rfl) ?_
  refine lv_iconst (v := 0) hx hb dX4_reset_16 (by decide) ?_
  refine va_put (D := (dC, dI)) (ci := 2) (v := .int (0 : Int32)) (ty := .int) (C := RX4) (T := TX4) (N := 7) hx hb hB iX4 tyX4 tyX4_ok nmX4 hown hK hP hD hS 0 rfl rfl 3 (by decide) (hB _ q_t1_73) (fun _ h9 => h9) rfl (by decide +kernel) rfl rfl (Nat.le_of_ble_eq_true rfl) dX4_reset_17 (fun H locs hP hD hS => ?_)
  have hP : va_P (dC, dI) vwCl (wD aH aM aW aC aR iW iR (s_pc (fX2_clear (s_reg x (fillf 32 (0 : Int32) (g_reg x)))) (0 : Int32))) H := hP
  have hD : va_D A (wD aH aM aW aC aR iW iR (s_pc (fX2_clear (s_reg x (fillf 32 (0 : Int32) (g_reg x)))) (0 : Int32))) := hD
  refine lv_aload_n hx hb dX4_reset_20 rfl (lv_at hl 0 rfl) ?_
  refine lv_iconst (v := 0) hx hb dX4_reset_21 (by decide) ?_
  refine va_put (D := (dC, dI)) (ci := 2) (v := .int 0) (ty := .boolean) (C := RX4) (T := TX4) (N := 7) hx hb hB iX4 tyX4 tyX4_ok nmX4 hown hK hP hD hS 0 rfl rfl 4 (by decide) (hB _ q_t1_74) (fun _ h9 => h9) rfl (by decide +kernel) rfl rfl (Nat.le_of_ble_eq_true rfl) dX4_reset_22 (fun H locs hP hD hS => ?_)
  have hP : va_P (dC, dI) vwCl (wD aH aM aW aC aR iW iR (s_stop (s_pc (fX2_clear (s_reg x (fillf 32 (0 : Int32) (g_reg x)))) (0 : Int32)) false)) H := hP
  have hD : va_D A (wD aH aM aW aC aR iW iR (s_stop (s_pc (fX2_clear (s_reg x (fillf 32 (0 : Int32) (g_reg x)))) (0 : Int32)) false)) := hD
  refine lv_aload_n hx hb dX4_reset_25 rfl (lv_at hl 0 rfl) ?_
  refine lv_iconst (v := 0) hx hb dX4_reset_26 (by decide) ?_
  refine va_put (D := (dC, dI)) (ci := 2) (v := .int (0 : Int32)) (ty := .int) (C := RX4) (T := TX4) (N := 7) hx hb hB iX4 tyX4 tyX4_ok nmX4 hown hK hP hD hS 0 rfl rfl 6 (by decide) (hB _ q_t1_76) (fun _ h9 => h9) rfl (by decide +kernel) rfl rfl (Nat.le_of_ble_eq_true rfl) dX4_reset_27 (fun H locs hP hD hS => ?_)
  have hP : va_P (dC, dI) vwCl (wD aH aM aW aC aR iW iR (s_traps (s_stop (s_pc (fX2_clear (s_reg x (fillf 32 (0 : Int32) (g_reg x)))) (0 : Int32)) false) (0 : Int32))) H := hP
  have hD : va_D A (wD aH aM aW aC aR iW iR (s_traps (s_stop (s_pc (fX2_clear (s_reg x (fillf 32 (0 : Int32) (g_reg x)))) (0 : Int32)) false) (0 : Int32))) := hD
  refine lv_iload_n hx hb dX4_reset_30 rfl (lv_at hl 1 rfl) ?_
  refine lv_if_eq (tgt := 41) hx hb dX4_reset_31 (by decide) (fun c_31 => ?_) (fun c_31 => ?_)
  · exact W.vret hx hb hr (fun t ht hW => ⟨⟨(s_traps (s_stop (s_pc (fX2_clear (s_reg x (fillf 32 (0 : Int32) (g_reg x)))) (0 : Int32)) false) (0 : Int32)), rfl, (by unfold fX4_reset; rw [if_pos c_31] <;> rfl), hpT ht hP⟩, hS.F ht⟩) hS.2.2 dX4_reset_41
  · refine lv_aload_n hx hb dX4_reset_34 rfl (lv_at hl 0 rfl) ?_
    refine va_get (D := (dC, dI)) (ci := 2) (v := .ref aM) (C := RX4) (T := TX4) (N := 7) hx hb hB iX4 hown hK hP 0 rfl rfl 0 (by decide) (hB _ q_t1_70) (fun _ h9 => h9) rfl dX4_reset_35 ?_
    refine k_mv (w := wD aH aM aW aC aR iW iR) wD_ad (va_runVN (As := []) (rest := []) ⟨hx, hb, hml, hown, hB⟩ (mX3_clear l dC dI aH aM aW aC aR iW iR H.size (s_traps (s_stop (s_pc (fX2_clear (s_reg x (fillf 32 (0 : Int32) (g_reg x)))) (0 : Int32)) false) (0 : Int32))) ⟨va_cnB 0 hB (good_in wX3_clear) rfl rfl rfl (hN _ (List.mem_of_getElem? (i := 8) rfl)) (hB _ q_t1_2) hX3_clear.2 ⟨Nat.le_of_ble_eq_true rfl, Nat.le_of_ble_eq_true rfl⟩, hB _ q_t1_135, hB _ q_s_4⟩ ⟨kM_blind NW_blind, va_recv hK hP (ci := 1) (q0 := 1) rfl rfl, kM_pre NW_warm hP hK hD hN⟩ rfl rfl hl.1 rfl (lv_room (Nat.le_of_ble_eq_true rfl)) dX4_reset_38 ⟨Nat.zero_le _, Nat.zero_le _⟩) hD hS hA (fun u H locs hw hP hD hS => ?_)
    obtain rfl := hw
    exact W.vret hx hb hr (fun t ht hW => ⟨⟨(fX3_clear (s_traps (s_stop (s_pc (fX2_clear (s_reg x (fillf 32 (0 : Int32) (g_reg x)))) (0 : Int32)) false) (0 : Int32))), rfl, (by unfold fX4_reset; rw [if_neg c_31] <;> rfl), hpT ht hP⟩, hS.F ht⟩) hS.2.2 dX4_reset_41
