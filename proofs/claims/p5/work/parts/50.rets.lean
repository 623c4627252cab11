def QcReadV : Array Value → State → Outcome → State → Prop := fun _ st o t => o = .returned none ∧ t.heap = st.heap
theorem k_rv {p : Program} {l : Launch} {e : Env} {R : Room} {s : State} {m : MethodId} {args : Array Value} {below : List Frame} {meth : Method} {c : Code} {H : Heap} {locs : List Loc} {cells slots : Nat} {Q : State → Prop} {pc : Nat} {ls : Array Slot} {rest st0 : List Value} {a : Array Value} (hr : va_Run p l e R s m args below meth c H locs cells slots 0 0 (F0 m pc ls st0) rest (QcReadV a) (fun _ => False)) (kk : W p l e R s m args below meth c H locs cells slots Q (F0 m (pc + 3) ls rest)) : W p l e R s m args below meth c H locs cells slots Q (F0 m pc ls st0) := by
  intro T hT X
  obtain ⟨v, st₀, t, T', L, h0, X', hL, e1, e2, ⟨hv, hh⟩, st⟩ := hr T hT X
  cases hv
  obtain ⟨t2, a1, b1⟩ := kk T' (by rw [e1, hh, h0]) (Stand.forget X' (fun q h => (hL q h).elim))
  exact ⟨t2, st t2 a1, b1⟩
def okfX4_refuseBeyondLimit (x : St) : Bool := if (g_steps x) < (100000 : Int32) then
    true
  else
    false
set_option maxHeartbeats 4000000 in
set_option maxRecDepth 100000 in
theorem mX4_refuseBeyondLimit (l : Launch) (dC : Nat → ClassId) (dI : Nat → Nat → Nat) (aH aM aW aC aR iW iR : Nat) (x : St) (hok : okfX4_refuseBeyondLimit x = true) : Met l yX4_refuseBeyondLimit wsX4_refuseBeyondLimit ({ frames := 0, cells := 0, slots := 0, locals := 0 }) (va_Pc [.ref aH] (kP (dC, dI) [(iW, .int), (iR, .int)] NW (wD aH aM aW aC aR iW iR x))) (QcReadV) 0 0 (fun _ => False) := by
  refine Met.ofW (cc := cX4_refuseBeyondLimit) (maxL := 1) (ret := none) (by decide) rfl ?_
  intro p e s m args below meth c s₁ B hml hv
  obtain ⟨rfl, hP, hK, hN⟩ := hv
  have hx := B.exec
  have hb := B.bytes
  have hr := B.returns
  have hB := fun (w : Cond) (h : w ∈ BIG) => atoms_spec (ws := wsX4_refuseBeyondLimit) B.pre w (List.mem_cons_of_mem _ h)
  have hown : s.vm.findClass RX4 = some m.cls := findClass_of_methodNamed B.named
  have hlocks := B.notSynchronized
  have hl := lv_entry ([.ref aH]) (n := 1) (Nat.le_of_ble_eq_true rfl)
  rw [lg_entry_eq]
  generalize (lg_sl ([.ref aH]) ++ List.replicate (1 - (lg_sl ([.ref aH])).length) Slot.unset).toArray = ls at hl ⊢
  have hl : lv_has ls 1 [(0, .ref aH)] := hl
  refine lv_aload_n hx hb dX4_refuseBeyondLimit_0 rfl (lv_at hl 0 rfl) ?_
  refine va_get (D := (dC, dI)) (ci := 2) (v := .int (g_steps x)) (C := RX4) (T := TX4) (N := 7) hx hb hB iX4 hown hK hP 0 rfl rfl 5 (by decide) (hB _ q_t1_75) (fun _ h9 => h9) rfl dX4_refuseBeyondLimit_1 ?_
  refine lv_ldc (v := 100000) hx hb hown (hB _ q_t1_224) dX4_refuseBeyondLimit_4 ?_
  refine lv_icmp_lt (tgt := 19) hx hb dX4_refuseBeyondLimit_6 (by decide) (fun c_6 => ?_) (fun c_6 => ?_)
  · exact W.vret hx hb hr (fun t ht hW => ⟨rfl, ht⟩) (fun q h => nomatch h) dX4_refuseBeyondLimit_19
  · exact absurd hok (by (unfold okfX4_refuseBeyondLimit; rw [if_neg c_6]); decide)
def fX4_register (p0 : Int32) (x : St) : Int32 := if p0 = (32 : Int32) then
    g_pc x
  else
    if p0 < 0 then
      0
    else
      if p0 < (32 : Int32) then
        fX4_readRegister p0 x
      else
        0
def okfX4_register (p0 : Int32) (x : St) : Bool := if p0 = (32 : Int32) then
    true
  else
    if p0 < 0 then
      false
    else
      if p0 < (32 : Int32) then
        true
      else
        false
set_option maxHeartbeats 4000000 in
set_option maxRecDepth 100000 in
theorem mX4_register (l : Launch) (dC : Nat → ClassId) (dI : Nat → Nat → Nat) (aH aM aW aC aR iW iR : Nat) (x : St) (p0 : Int32) (hok : okfX4_register p0 x = true) : Met l yX4_register wsX4_register ({ frames := 1, cells := 0, slots := 0, locals := 21 }) (va_Pc [.ref aH, .int p0] (kP (dC, dI) [(iW, .int), (iR, .int)] NW (wD aH aM aW aC aR iW iR x))) (QcRead ((fX4_register p0 x))) 0 0 (fun _ => False) := by
  refine Met.ofW (cc := cX4_register) (maxL := 2) (ret := (some .int)) (by decide) rfl ?_
  intro p e s m args below meth c s₁ B hml hv
  obtain ⟨rfl, hP, hK, hN⟩ := hv
  have hx := B.exec
  have hb := B.bytes
  have hr := B.returns
  have hB := fun (w : Cond) (h : w ∈ BIG) => atoms_spec (ws := wsX4_register) B.pre w (List.mem_cons_of_mem _ h)
  have hown : s.vm.findClass RX4 = some m.cls := findClass_of_methodNamed B.named
  have hlocks := B.notSynchronized
  have hl := lv_entry ([.ref aH, .int p0]) (n := 2) (Nat.le_of_ble_eq_true rfl)
  rw [lg_entry_eq]
  generalize (lg_sl ([.ref aH, .int p0]) ++ List.replicate (2 - (lg_sl ([.ref aH, .int p0])).length) Slot.unset).toArray = ls at hl ⊢
  have hl : lv_has ls 2 [(0, .ref aH), (1, .int p0)] := hl
  refine lv_iload_n hx hb dX4_register_0 rfl (lv_at hl 1 rfl) ?_
  refine lv_bipush (v := 32) hx hb dX4_register_1 (by decide) ?_
  refine lv_icmp_ne (tgt := 11) hx hb dX4_register_3 (by decide) (fun c_3 => ?_) (fun c_3 => ?_)
  · refine lv_iload_n hx hb dX4_register_11 rfl (lv_at hl 1 rfl) ?_
    refine lv_if_lt (tgt := 21) hx hb dX4_register_12 (by decide) (fun c_12 => ?_) (fun c_12 => ?_)
    · exact absurd hok (by (unfold okfX4_register; rw [if_neg c_3, if_pos c_12]); decide)
    · refine lv_iload_n hx hb dX4_register_15 rfl (lv_at hl 1 rfl) ?_
      refine lv_bipush (v := 32) hx hb dX4_register_16 (by decide) ?_
      refine lv_icmp_lt (tgt := 31) hx hb dX4_register_18 (by decide) (fun c_18 => ?_) (fun c_18 => ?_)
      · refine lv_aload_n hx hb dX4_register_31 rfl (lv_at hl 0 rfl) ?_
        refine lv_iload_n hx hb dX4_register_32 rfl (lv_at hl 1 rfl) ?_
        refine k_ri (va_runV (As := [.int p0]) (rest := []) ⟨hx, hb, hml, hown, hB⟩ (mX4_readRegister l dC dI aH aM aW aC aR iW iR x p0) (cwV 1 hB (gV q_t2_69 q_t2_71 q_s_19 q_t1_1 wX4_readRegister) rfl rfl rfl hX4_readRegister ⟨Nat.le_of_ble_eq_true rfl, Nat.le_of_ble_eq_true rfl⟩) ⟨kP_blind NW_blind, va_recv hK hP (ci := 2) (q0 := 0) rfl rfl, kP_pre NW_warm hP hK hN⟩ rfl rfl hl.1 rfl (lv_room (Nat.le_of_ble_eq_true rfl)) dX4_register_33 ⟨Nat.zero_le _, Nat.zero_le _⟩) ?_
        exact W.iret (v := fX4_readRegister p0 x) hx hb hr (fun t ht hW => ⟨congrArg (fun z => Outcome.returned (some (Value.int z))) (by unfold fX4_register; rw [if_neg c_3, if_neg c_12, if_pos c_18] <;> rfl), ht⟩) (fun q h => nomatch h) dX4_register_36
      · exact absurd hok (by (unfold okfX4_register; rw [if_neg c_3, if_neg c_12, if_neg c_18]); decide)
  · refine lv_aload_n hx hb dX4_register_6 rfl (lv_at hl 0 rfl) ?_
    refine va_get (D := (dC, dI)) (ci := 2) (v := .int (g_pc x)) (C := RX4) (T := TX4) (N := 7) hx hb hB iX4 hown hK hP 0 rfl rfl 3 (by decide) (hB _ q_t1_73) (fun _ h9 => h9) rfl dX4_register_7 ?_
    exact W.iret (v := g_pc x) hx hb hr (fun t ht hW => ⟨congrArg (fun z => Outcome.returned (some (Value.int z))) (by unfold fX4_register; rw [if_pos c_3] <;> rfl), ht⟩) (fun q h => nomatch h) dX4_register_10
def fX4_control (p0 : Int32) (x : St) : Int32 := if (bi (fX2_isKnown p0)) = 0 then
    0
  else
    fX2_read p0 x
def okfX4_control (p0 : Int32) (x : St) : Bool := if (bi (fX2_isKnown p0)) = 0 then
    false
  else
    true
set_option maxHeartbeats 4000000 in
set_option maxRecDepth 100000 in
theorem mX4_control (l : Launch) (dC : Nat → ClassId) (dI : Nat → Nat → Nat) (aH aM aW aC aR iW iR : Nat) (x : St) (p0 : Int32) (hok : okfX4_control p0 x = true) : Met l yX4_control wsX4_control ({ frames := 2, cells := 0, slots := 0, locals := 40 }) (va_Pc [.ref aH, .int p0] (kP (dC, dI) [(iW, .int), (iR, .int)] NW (wD aH aM aW aC aR iW iR x))) (QcRead ((fX4_control p0 x))) 0 0 (fun _ => False) := by
  refine Met.ofW (cc := cX4_control) (maxL := 2) (ret := (some .int)) (by decide) rfl ?_
  intro p e s m args below meth c s₁ B hml hv
  obtain ⟨rfl, hP, hK, hN⟩ := hv
  have hx := B.exec
  have hb := B.bytes
  have hr := B.returns
  have hB := fun (w : Cond) (h : w ∈ BIG) => atoms_spec (ws := wsX4_control) B.pre w (List.mem_cons_of_mem _ h)
  have hown : s.vm.findClass RX4 = some m.cls := findClass_of_methodNamed B.named
  have hlocks := B.notSynchronized
  have hl := lv_entry ([.ref aH, .int p0]) (n := 2) (Nat.le_of_ble_eq_true rfl)
  rw [lg_entry_eq]
  generalize (lg_sl ([.ref aH, .int p0]) ++ List.replicate (2 - (lg_sl ([.ref aH, .int p0])).length) Slot.unset).toArray = ls at hl ⊢
  have hl : lv_has ls 2 [(0, .ref aH), (1, .int p0)] := hl
  refine lv_iload_n hx hb dX4_control_0 rfl (lv_at hl 1 rfl) ?_
  refine k_ri (va_runSN (As := [.int p0]) (rest := []) ⟨hx, hb, hml, hown, hB⟩ (mX2_isKnown l p0) ⟨va_cnB 1 hB (good_in wX2_isKnown) rfl rfl rfl (hN _ (List.mem_of_getElem? (i := 33) rfl)) (hB _ q_t1_3) hX2_isKnown.2 ⟨Nat.le_of_ble_eq_true rfl, Nat.le_of_ble_eq_true rfl⟩, hB _ q_t2_171, trivial⟩ ⟨fun _ _ _ _ q => q, fun U _ _ => ⟨rfl, trivial⟩⟩ rfl rfl hl.1 rfl (lv_room (Nat.le_of_ble_eq_true rfl)) dX4_control_1 ⟨Nat.zero_le _, Nat.zero_le _⟩) ?_
  refine lv_if_ne (tgt := 17) hx hb dX4_control_4 (by decide) (fun c_4 => ?_) (fun c_4 => ?_)
  · refine lv_aload_n hx hb dX4_control_17 rfl (lv_at hl 0 rfl) ?_
    refine va_get (D := (dC, dI)) (ci := 2) (v := .ref aC) (C := RX4) (T := TX4) (N := 7) hx hb hB iX4 hown hK hP 0 rfl rfl 1 (by decide) (hB _ q_t1_71) (fun _ h9 => h9) rfl dX4_control_18 ?_
    refine lv_iload_n hx hb dX4_control_21 rfl (lv_at hl 1 rfl) ?_
    refine k_ri (va_runVN (As := [.int p0]) (rest := []) ⟨hx, hb, hml, hown, hB⟩ (mX2_read l dC dI aH aM aW aC aR iW iR x p0) ⟨va_cnB 1 hB (good_in wX2_read) rfl rfl rfl (hN _ (List.mem_of_getElem? (i := 34) rfl)) (hB _ q_t1_3) hX2_read.2 ⟨Nat.le_of_ble_eq_true rfl, Nat.le_of_ble_eq_true rfl⟩, hB _ q_t2_176, hB _ q_s_31⟩ ⟨kP_blind NW_blind, va_recv hK hP (ci := 0) (q0 := 3) rfl rfl, kP_pre NW_warm hP hK hN⟩ rfl rfl hl.1 rfl (lv_room (Nat.le_of_ble_eq_true rfl)) dX4_control_22 ⟨Nat.zero_le _, Nat.zero_le _⟩) ?_
    exact W.iret (v := fX2_read p0 x) hx hb hr (fun t ht hW => ⟨congrArg (fun z => Outcome.returned (some (Value.int z))) (by unfold fX4_control; rw [if_neg c_4] <;> rfl), ht⟩) (fun q h => nomatch h) dX4_control_25
  · exact absurd hok (by (unfold okfX4_control; rw [if_pos c_4]); decide)
def fX4_word (p0 : Int32) (x : St) : Int32 := if (bi (fX3_isWordAddress p0)) = 0 then
    0
  else
    fX3_readWord p0 x
def okfX4_word (p0 : Int32) (x : St) : Bool := if (bi (fX3_isWordAddress p0)) = 0 then
    false
  else
    true
set_option maxHeartbeats 4000000 in
set_option maxRecDepth 100000 in
theorem mX4_word (l : Launch) (dC : Nat → ClassId) (dI : Nat → Nat → Nat) (aH aM aW aC aR iW iR : Nat) (x : St) (p0 : Int32) (hok : okfX4_word p0 x = true) : Met l yX4_word wsX4_word ({ frames := 2, cells := 0, slots := 0, locals := 40 }) (va_Pc [.ref aH, .int p0] (kP (dC, dI) [(iW, .int), (iR, .int)] NW (wD aH aM aW aC aR iW iR x))) (QcRead ((fX4_word p0 x))) 0 0 (fun _ => False) := by
  refine Met.ofW (cc := cX4_word) (maxL := 2) (ret := (some .int)) (by decide) rfl ?_
  intro p e s m args below meth c s₁ B hml hv
  obtain ⟨rfl, hP, hK, hN⟩ := hv
  have hx := B.exec
  have hb := B.bytes
  have hr := B.returns
  have hB := fun (w : Cond) (h : w ∈ BIG) => atoms_spec (ws := wsX4_word) B.pre w (List.mem_cons_of_mem _ h)
  have hown : s.vm.findClass RX4 = some m.cls := findClass_of_methodNamed B.named
  have hlocks := B.notSynchronized
  have hl := lv_entry ([.ref aH, .int p0]) (n := 2) (Nat.le_of_ble_eq_true rfl)
  rw [lg_entry_eq]
  generalize (lg_sl ([.ref aH, .int p0]) ++ List.replicate (2 - (lg_sl ([.ref aH, .int p0])).length) Slot.unset).toArray = ls at hl ⊢
  have hl : lv_has ls 2 [(0, .ref aH), (1, .int p0)] := hl
  refine lv_iload_n hx hb dX4_word_0 rfl (lv_at hl 1 rfl) ?_
  refine k_ri (va_runSN (As := [.int p0]) (rest := []) ⟨hx, hb, hml, hown, hB⟩ (mX3_isWordAddress l p0) ⟨va_cnB 1 hB (good_in wX3_isWordAddress) rfl rfl rfl (hN _ (List.mem_of_getElem? (i := 5) rfl)) (hB _ q_t1_2) hX3_isWordAddress.2 ⟨Nat.le_of_ble_eq_true rfl, Nat.le_of_ble_eq_true rfl⟩, hB _ q_t1_97, trivial⟩ ⟨fun _ _ _ _ q => q, fun U _ _ => ⟨rfl, trivial⟩⟩ rfl rfl hl.1 rfl (lv_room (Nat.le_of_ble_eq_true rfl)) dX4_word_1 ⟨Nat.zero_le _, Nat.zero_le _⟩) ?_
  refine lv_if_ne (tgt := 17) hx hb dX4_word_4 (by decide) (fun c_4 => ?_) (fun c_4 => ?_)
  · refine lv_aload_n hx hb dX4_word_17 rfl (lv_at hl 0 rfl) ?_
    refine va_get (D := (dC, dI)) (ci := 2) (v := .ref aM) (C := RX4) (T := TX4) (N := 7) hx hb hB iX4 hown hK hP 0 rfl rfl 0 (by decide) (hB _ q_t1_70) (fun _ h9 => h9) rfl dX4_word_18 ?_
    refine lv_iload_n hx hb dX4_word_21 rfl (lv_at hl 1 rfl) ?_
    refine k_ri (va_runVN (As := [.int p0]) (rest := []) ⟨hx, hb, hml, hown, hB⟩ (mX3_readWord l dC dI aH aM aW aC aR iW iR x p0) ⟨va_cnB 1 hB (good_in wX3_readWord) rfl rfl rfl (hN _ (List.mem_of_getElem? (i := 12) rfl)) (hB _ q_t1_2) hX3_readWord.2 ⟨Nat.le_of_ble_eq_true rfl, Nat.le_of_ble_eq_true rfl⟩, hB _ q_t2_21, hB _ q_s_11⟩ ⟨kP_blind NW_blind, va_recv hK hP (ci := 1) (q0 := 1) rfl rfl, kP_pre NW_warm hP hK hN⟩ rfl rfl hl.1 rfl (lv_room (Nat.le_of_ble_eq_true rfl)) dX4_word_22 ⟨Nat.zero_le _, Nat.zero_le _⟩) ?_
    exact W.iret (v := fX3_readWord p0 x) hx hb hr (fun t ht hW => ⟨congrArg (fun z => Outcome.returned (some (Value.int z))) (by unfold fX4_word; rw [if_neg c_4] <;> rfl), ht⟩) (fun q h => nomatch h) dX4_word_25
  · exact absurd hok (by (unfold okfX4_word; rw [if_pos c_4]); decide)
