def fX1_op (p0 : Int32) : Int32 := p0 &&& (127 : Int32)
set_option maxHeartbeats 4000000 in
set_option maxRecDepth 100000 in
theorem mX1_op (l : Launch) (p0 : Int32) : Met l yX1_op wsX1_op ({ frames := 0, cells := 0, slots := 0, locals := 0 }) (va_Pc [.int p0] (fun _ => True)) (QcRead ((fX1_op p0))) 0 0 (fun _ => False) := by
  refine Met.ofW (cc := cX1_op) (maxL := 1) (ret := (some .int)) (by decide) rfl ?_
  intro p e s m args below meth c s₁ B hml hv
  obtain ⟨rfl, -⟩ := hv
  have hx := B.exec
  have hb := B.bytes
  have hr := B.returns
  have hB := fun (w : Cond) (h : w ∈ BIG) => atoms_spec (ws := wsX1_op) B.pre w (List.mem_cons_of_mem _ h)
  have hown : s.vm.findClass RX1 = some m.cls := findClass_of_methodNamed B.named
  have hlocks := B.notSynchronized
  have hl := lv_entry ([.int p0]) (n := 1) (Nat.le_of_ble_eq_true rfl)
  rw [lg_entry_eq]
  generalize (lg_sl ([.int p0]) ++ List.replicate (1 - (lg_sl ([.int p0])).length) Slot.unset).toArray = ls at hl ⊢
  have hl : lv_has ls 1 [(0, .int p0)] := hl
  refine lv_iload_n hx hb dX1_op_0 rfl (lv_at hl 0 rfl) ?_
  refine lv_bipush (v := 127) hx hb dX1_op_1 (by decide) ?_
  refine lv_iand hx hb dX1_op_3 ?_
  exact W.iret (v := p0 &&& (127 : Int32)) hx hb hr (fun t ht hW => ⟨congrArg (fun z => Outcome.returned (some (Value.int z))) rfl, ht⟩) (fun q h => nomatch h) dX1_op_4
def fX1_d (p0 : Int32) : Int32 := (ush p0 (7 : Int32)) &&& (31 : Int32)
set_option maxHeartbeats 4000000 in
set_option maxRecDepth 100000 in
theorem mX1_d (l : Launch) (p0 : Int32) : Met l yX1_d wsX1_d ({ frames := 0, cells := 0, slots := 0, locals := 0 }) (va_Pc [.int p0] (fun _ => True)) (QcRead ((fX1_d p0))) 0 0 (fun _ => False) := by
  refine Met.ofW (cc := cX1_d) (maxL := 1) (ret := (some .int)) (by decide) rfl ?_
  intro p e s m args below meth c s₁ B hml hv
  obtain ⟨rfl, -⟩ := hv
  have hx := B.exec
  have hb := B.bytes
  have hr := B.returns
  have hB := fun (w : Cond) (h : w ∈ BIG) => atoms_spec (ws := wsX1_d) B.pre w (List.mem_cons_of_mem _ h)
  have hown : s.vm.findClass RX1 = some m.cls := findClass_of_methodNamed B.named
  have hlocks := B.notSynchronized
  have hl := lv_entry ([.int p0]) (n := 1) (Nat.le_of_ble_eq_true rfl)
  rw [lg_entry_eq]
  generalize (lg_sl ([.int p0]) ++ List.replicate (1 - (lg_sl ([.int p0])).length) Slot.unset).toArray = ls at hl ⊢
  have hl : lv_has ls 1 [(0, .int p0)] := hl
  refine lv_iload_n hx hb dX1_d_0 rfl (lv_at hl 0 rfl) ?_
  refine lv_bipush (v := 7) hx hb dX1_d_1 (by decide) ?_
  refine lv_iushr (v := ush p0 (7 : Int32)) hx hb dX1_d_3 rfl ?_
  refine lv_bipush (v := 31) hx hb dX1_d_4 (by decide) ?_
  refine lv_iand hx hb dX1_d_6 ?_
  exact W.iret (v := (ush p0 (7 : Int32)) &&& (31 : Int32)) hx hb hr (fun t ht hW => ⟨congrArg (fun z => Outcome.returned (some (Value.int z))) rfl, ht⟩) (fun q h => nomatch h) dX1_d_7
def fX1_f (p0 : Int32) : Int32 := (ush p0 (12 : Int32)) &&& (7 : Int32)
set_option maxHeartbeats 4000000 in
set_option maxRecDepth 100000 in
theorem mX1_f (l : Launch) (p0 : Int32) : Met l yX1_f wsX1_f ({ frames := 0, cells := 0, slots := 0, locals := 0 }) (va_Pc [.int p0] (fun _ => True)) (QcRead ((fX1_f p0))) 0 0 (fun _ => False) := by
  refine Met.ofW (cc := cX1_f) (maxL := 1) (ret := (some .int)) (by decide) rfl ?_
  intro p e s m args below meth c s₁ B hml hv
  obtain ⟨rfl, -⟩ := hv
  have hx := B.exec
  have hb := B.bytes
  have hr := B.returns
  have hB := fun (w : Cond) (h : w ∈ BIG) => atoms_spec (ws := wsX1_f) B.pre w (List.mem_cons_of_mem _ h)
  have hown : s.vm.findClass RX1 = some m.cls := findClass_of_methodNamed B.named
  have hlocks := B.notSynchronized
  have hl := lv_entry ([.int p0]) (n := 1) (Nat.le_of_ble_eq_true rfl)
  rw [lg_entry_eq]
  generalize (lg_sl ([.int p0]) ++ List.replicate (1 - (lg_sl ([.int p0])).length) Slot.unset).toArray = ls at hl ⊢
  have hl : lv_has ls 1 [(0, .int p0)] := hl
  refine lv_iload_n hx hb dX1_f_0 rfl (lv_at hl 0 rfl) ?_
  refine lv_bipush (v := 12) hx hb dX1_f_1 (by decide) ?_
  refine lv_iushr (v := ush p0 (12 : Int32)) hx hb dX1_f_3 rfl ?_
  refine lv_bipush (v := 7) hx hb dX1_f_4 (by decide) ?_
  refine lv_iand hx hb dX1_f_6 ?_
  exact W.iret (v := (ush p0 (12 : Int32)) &&& (7 : Int32)) hx hb hr (fun t ht hW => ⟨congrArg (fun z => Outcome.returned (some (Value.int z))) rfl, ht⟩) (fun q h => nomatch h) dX1_f_7
def fX1_a (p0 : Int32) : Int32 := (ush p0 (15 : Int32)) &&& (31 : Int32)
set_option maxHeartbeats 4000000 in
set_option maxRecDepth 100000 in
theorem mX1_a (l : Launch) (p0 : Int32) : Met l yX1_a wsX1_a ({ frames := 0, cells := 0, slots := 0, locals := 0 }) (va_Pc [.int p0] (fun _ => True)) (QcRead ((fX1_a p0))) 0 0 (fun _ => False) := by
  refine Met.ofW (cc := cX1_a) (maxL := 1) (ret := (some .int)) (by decide) rfl ?_
  intro p e s m args below meth c s₁ B hml hv
  obtain ⟨rfl, -⟩ := hv
  have hx := B.exec
  have hb := B.bytes
  have hr := B.returns
  have hB := fun (w : Cond) (h : w ∈ BIG) => atoms_spec (ws := wsX1_a) B.pre w (List.mem_cons_of_mem _ h)
  have hown : s.vm.findClass RX1 = some m.cls := findClass_of_methodNamed B.named
  have hlocks := B.notSynchronized
  have hl := lv_entry ([.int p0]) (n := 1) (Nat.le_of_ble_eq_true rfl)
  rw [lg_entry_eq]
  generalize (lg_sl ([.int p0]) ++ List.replicate (1 - (lg_sl ([.int p0])).length) Slot.unset).toArray = ls at hl ⊢
  have hl : lv_has ls 1 [(0, .int p0)] := hl
  refine lv_iload_n hx hb dX1_a_0 rfl (lv_at hl 0 rfl) ?_
  refine lv_bipush (v := 15) hx hb dX1_a_1 (by decide) ?_
  refine lv_iushr (v := ush p0 (15 : Int32)) hx hb dX1_a_3 rfl ?_
  refine lv_bipush (v := 31) hx hb dX1_a_4 (by decide) ?_
  refine lv_iand hx hb dX1_a_6 ?_
  exact W.iret (v := (ush p0 (15 : Int32)) &&& (31 : Int32)) hx hb hr (fun t ht hW => ⟨congrArg (fun z => Outcome.returned (some (Value.int z))) rfl, ht⟩) (fun q h => nomatch h) dX1_a_7
def fX1_b (p0 : Int32) : Int32 := (ush p0 (20 : Int32)) &&& (31 : Int32)
set_option maxHeartbeats 4000000 in
set_option maxRecDepth 100000 in
theorem mX1_b (l : Launch) (p0 : Int32) : Met l yX1_b wsX1_b ({ frames := 0, cells := 0, slots := 0, locals := 0 }) (va_Pc [.int p0] (fun _ => True)) (QcRead ((fX1_b p0))) 0 0 (fun _ => False) := by
  refine Met.ofW (cc := cX1_b) (maxL := 1) (ret := (some .int)) (by decide) rfl ?_
  intro p e s m args below meth c s₁ B hml hv
  obtain ⟨rfl, -⟩ := hv
  have hx := B.exec
  have hb := B.bytes
  have hr := B.returns
  have hB := fun (w : Cond) (h : w ∈ BIG) => atoms_spec (ws := wsX1_b) B.pre w (List.mem_cons_of_mem _ h)
  have hown : s.vm.findClass RX1 = some m.cls := findClass_of_methodNamed B.named
  have hlocks := B.notSynchronized
  have hl := lv_entry ([.int p0]) (n := 1) (Nat.le_of_ble_eq_true rfl)
  rw [lg_entry_eq]
  generalize (lg_sl ([.int p0]) ++ List.replicate (1 - (lg_sl ([.int p0])).length) Slot.unset).toArray = ls at hl ⊢
  have hl : lv_has ls 1 [(0, .int p0)] := hl
  refine lv_iload_n hx hb dX1_b_0 rfl (lv_at hl 0 rfl) ?_
  refine lv_bipush (v := 20) hx hb dX1_b_1 (by decide) ?_
  refine lv_iushr (v := ush p0 (20 : Int32)) hx hb dX1_b_3 rfl ?_
  refine lv_bipush (v := 31) hx hb dX1_b_4 (by decide) ?_
  refine lv_iand hx hb dX1_b_6 ?_
  exact W.iret (v := (ush p0 (20 : Int32)) &&& (31 : Int32)) hx hb hr (fun t ht hW => ⟨congrArg (fun z => Outcome.returned (some (Value.int z))) rfl, ht⟩) (fun q h => nomatch h) dX1_b_7
def fX1_s (p0 : Int32) : Int32 := ush p0 (25 : Int32)
set_option maxHeartbeats 4000000 in
set_option maxRecDepth 100000 in
theorem mX1_s (l : Launch) (p0 : Int32) : Met l yX1_s wsX1_s ({ frames := 0, cells := 0, slots := 0, locals := 0 }) (va_Pc [.int p0] (fun _ => True)) (QcRead ((fX1_s p0))) 0 0 (fun _ => False) := by
  refine Met.ofW (cc := cX1_s) (maxL := 1) (ret := (some .int)) (by decide) rfl ?_
  intro p e s m args below meth c s₁ B hml hv
  obtain ⟨rfl, -⟩ := hv
  have hx := B.exec
  have hb := B.bytes
  have hr := B.returns
  have hB := fun (w : Cond) (h : w ∈ BIG) => atoms_spec (ws := wsX1_s) B.pre w (List.mem_cons_of_mem _ h)
  have hown : s.vm.findClass RX1 = some m.cls := findClass_of_methodNamed B.named
  have hlocks := B.notSynchronized
  have hl := lv_entry ([.int p0]) (n := 1) (Nat.le_of_ble_eq_true rfl)
  rw [lg_entry_eq]
  generalize (lg_sl ([.int p0]) ++ List.replicate (1 - (lg_sl ([.int p0])).length) Slot.unset).toArray = ls at hl ⊢
  have hl : lv_has ls 1 [(0, .int p0)] := hl
  refine lv_iload_n hx hb dX1_s_0 rfl (lv_at hl 0 rfl) ?_
  refine lv_bipush (v := 25) hx hb dX1_s_1 (by decide) ?_
  refine lv_iushr (v := ush p0 (25 : Int32)) hx hb dX1_s_3 rfl ?_
  exact W.iret (v := ush p0 (25 : Int32)) hx hb hr (fun t ht hW => ⟨congrArg (fun z => Outcome.returned (some (Value.int z))) rfl, ht⟩) (fun q h => nomatch h) dX1_s_4
def fX1_controlNumber (p0 : Int32) : Int32 := ush p0 (20 : Int32)
set_option maxHeartbeats 4000000 in
set_option maxRecDepth 100000 in
theorem mX1_controlNumber (l : Launch) (p0 : Int32) : Met l yX1_controlNumber wsX1_controlNumber ({ frames := 0, cells := 0, slots := 0, locals := 0 }) (va_Pc [.int p0] (fun _ => True)) (QcRead ((fX1_controlNumber p0))) 0 0 (fun _ => False) := by
  refine Met.ofW (cc := cX1_controlNumber) (maxL := 1) (ret := (some .int)) (by decide) rfl ?_
  intro p e s m args below meth c s₁ B hml hv
  obtain ⟨rfl, -⟩ := hv
  have hx := B.exec
  have hb := B.bytes
  have hr := B.returns
  have hB := fun (w : Cond) (h : w ∈ BIG) => atoms_spec (ws := wsX1_controlNumber) B.pre w (List.mem_cons_of_mem _ h)
  have hown : s.vm.findClass RX1 = some m.cls := findClass_of_methodNamed B.named
  have hlocks := B.notSynchronized
  have hl := lv_entry ([.int p0]) (n := 1) (Nat.le_of_ble_eq_true rfl)
  rw [lg_entry_eq]
  generalize (lg_sl ([.int p0]) ++ List.replicate (1 - (lg_sl ([.int p0])).length) Slot.unset).toArray = ls at hl ⊢
  have hl : lv_has ls 1 [(0, .int p0)] := hl
  refine lv_iload_n hx hb dX1_controlNumber_0 rfl (lv_at hl 0 rfl) ?_
  refine lv_bipush (v := 20) hx hb dX1_controlNumber_1 (by decide) ?_
  refine lv_iushr (v := ush p0 (20 : Int32)) hx hb dX1_controlNumber_3 rfl ?_
  exact W.iret (v := ush p0 (20 : Int32)) hx hb hr (fun t ht hW => ⟨congrArg (fun z => Outcome.returned (some (Value.int z))) rfl, ht⟩) (fun q h => nomatch h) dX1_controlNumber_4
def fX1_numberI (p0 : Int32) : Int32 := p0 >>> ((20 : Int32) &&& 31)
set_option maxHeartbeats 4000000 in
set_option maxRecDepth 100000 in
theorem mX1_numberI (l : Launch) (p0 : Int32) : Met l yX1_numberI wsX1_numberI ({ frames := 0, cells := 0, slots := 0, locals := 0 }) (va_Pc [.int p0] (fun _ => True)) (QcRead ((fX1_numberI p0))) 0 0 (fun _ => False) := by
  refine Met.ofW (cc := cX1_numberI) (maxL := 1) (ret := (some .int)) (by decide) rfl ?_
  intro p e s m args below meth c s₁ B hml hv
  obtain ⟨rfl, -⟩ := hv
  have hx := B.exec
  have hb := B.bytes
  have hr := B.returns
  have hB := fun (w : Cond) (h : w ∈ BIG) => atoms_spec (ws := wsX1_numberI) B.pre w (List.mem_cons_of_mem _ h)
  have hown : s.vm.findClass RX1 = some m.cls := findClass_of_methodNamed B.named
  have hlocks := B.notSynchronized
  have hl := lv_entry ([.int p0]) (n := 1) (Nat.le_of_ble_eq_true rfl)
  rw [lg_entry_eq]
  generalize (lg_sl ([.int p0]) ++ List.replicate (1 - (lg_sl ([.int p0])).length) Slot.unset).toArray = ls at hl ⊢
  have hl : lv_has ls 1 [(0, .int p0)] := hl
  refine lv_iload_n hx hb dX1_numberI_0 rfl (lv_at hl 0 rfl) ?_
  refine lv_bipush (v := 20) hx hb dX1_numberI_1 (by decide) ?_
  refine lv_ishr hx hb dX1_numberI_3 ?_
  exact W.iret (v := p0 >>> ((20 : Int32) &&& 31)) hx hb hr (fun t ht hW => ⟨congrArg (fun z => Outcome.returned (some (Value.int z))) rfl, ht⟩) (fun q h => nomatch h) dX1_numberI_4
def fX1_numberS (p0 : Int32) : Int32 := ((p0 >>> ((25 : Int32) &&& 31)) <<< ((5 : Int32) &&& 31)) ||| (fX1_d p0)
set_option maxHeartbeats 4000000 in
set_option maxRecDepth 100000 in
theorem mX1_numberS (l : Launch) (p0 : Int32) : Met l yX1_numberS wsX1_numberS ({ frames := 1, cells := 0, slots := 0, locals := 20 }) (va_Pc [.int p0] (fun _ => True)) (QcRead ((fX1_numberS p0))) 0 0 (fun _ => False) := by
  refine Met.ofW (cc := cX1_numberS) (maxL := 1) (ret := (some .int)) (by decide) rfl ?_
  intro p e s m args below meth c s₁ B hml hv
  obtain ⟨rfl, -⟩ := hv
  have hx := B.exec
  have hb := B.bytes
  have hr := B.returns
  have hB := fun (w : Cond) (h : w ∈ BIG) => atoms_spec (ws := wsX1_numberS) B.pre w (List.mem_cons_of_mem _ h)
  have hown : s.vm.findClass RX1 = some m.cls := findClass_of_methodNamed B.named
  have hlocks := B.notSynchronized
  have hl := lv_entry ([.int p0]) (n := 1) (Nat.le_of_ble_eq_true rfl)
  rw [lg_entry_eq]
  generalize (lg_sl ([.int p0]) ++ List.replicate (1 - (lg_sl ([.int p0])).length) Slot.unset).toArray = ls at hl ⊢
  have hl : lv_has ls 1 [(0, .int p0)] := hl
  refine lv_iload_n hx hb dX1_numberS_0 rfl (lv_at hl 0 rfl) ?_
  refine lv_bipush (v := 25) hx hb dX1_numberS_1 (by decide) ?_
  refine lv_ishr hx hb dX1_numberS_3 ?_
  refine lv_iconst (v := 5) hx hb dX1_numberS_4 (by decide) ?_
  refine lv_ishl hx hb dX1_numberS_5 ?_
  refine lv_iload_n hx hb dX1_numberS_6 rfl (lv_at hl 0 rfl) ?_
  refine k_ri (va_runS (As := [.int p0]) (rest := [.int ((p0 >>> ((25 : Int32) &&& 31)) <<< ((5 : Int32) &&& 31))]) ⟨hx, hb, hml, hown, hB⟩ (mX1_d l p0) (va_cwS 1 hB (gS q_t2_120 q_t2_38 q_t1_10 wX1_d) rfl rfl rfl hX1_d.2 ⟨Nat.le_of_ble_eq_true rfl, Nat.le_of_ble_eq_true rfl⟩) ⟨fun _ _ _ _ q => q, fun U _ _ => ⟨rfl, trivial⟩⟩ rfl rfl hl.1 rfl (lv_room (Nat.le_of_ble_eq_true rfl)) dX1_numberS_7 ⟨Nat.zero_le _, Nat.zero_le _⟩) ?_
  refine lv_ior hx hb dX1_numberS_10 ?_
  exact W.iret (v := ((p0 >>> ((25 : Int32) &&& 31)) <<< ((5 : Int32) &&& 31)) ||| (fX1_d p0)) hx hb hr (fun t ht hW => ⟨congrArg (fun z => Outcome.returned (some (Value.int z))) rfl, ht⟩) (fun q h => nomatch h) dX1_numberS_11
def fX1_numberB (p0 : Int32) : Int32 := ((((p0 >>> ((31 : Int32) &&& 31)) <<< ((12 : Int32) &&& 31)) ||| (((ush p0 (7 : Int32)) &&& (1 : Int32)) <<< ((11 : Int32) &&& 31))) ||| (((ush p0 (25 : Int32)) &&& (63 : Int32)) <<< ((5 : Int32) &&& 31))) ||| (((ush p0 (8 : Int32)) &&& (15 : Int32)) <<< ((1 : Int32) &&& 31))
set_option maxHeartbeats 4000000 in
set_option maxRecDepth 100000 in
theorem mX1_numberB (l : Launch) (p0 : Int32) : Met l yX1_numberB wsX1_numberB ({ frames := 0, cells := 0, slots := 0, locals := 0 }) (va_Pc [.int p0] (fun _ => True)) (QcRead ((fX1_numberB p0))) 0 0 (fun _ => False) := by
  refine Met.ofW (cc := cX1_numberB) (maxL := 1) (ret := (some .int)) (by decide) rfl ?_
  intro p e s m args below meth c s₁ B hml hv
  obtain ⟨rfl, -⟩ := hv
  have hx := B.exec
  have hb := B.bytes
  have hr := B.returns
  have hB := fun (w : Cond) (h : w ∈ BIG) => atoms_spec (ws := wsX1_numberB) B.pre w (List.mem_cons_of_mem _ h)
  have hown : s.vm.findClass RX1 = some m.cls := findClass_of_methodNamed B.named
  have hlocks := B.notSynchronized
  have hl := lv_entry ([.int p0]) (n := 1) (Nat.le_of_ble_eq_true rfl)
  rw [lg_entry_eq]
  generalize (lg_sl ([.int p0]) ++ List.replicate (1 - (lg_sl ([.int p0])).length) Slot.unset).toArray = ls at hl ⊢
  have hl : lv_has ls 1 [(0, .int p0)] := hl
  refine lv_iload_n hx hb dX1_numberB_0 rfl (lv_at hl 0 rfl) ?_
  refine lv_bipush (v := 31) hx hb dX1_numberB_1 (by decide) ?_
  refine lv_ishr hx hb dX1_numberB_3 ?_
  refine lv_bipush (v := 12) hx hb dX1_numberB_4 (by decide) ?_
  refine lv_ishl hx hb dX1_numberB_6 ?_
  refine lv_iload_n hx hb dX1_numberB_7 rfl (lv_at hl 0 rfl) ?_
  refine lv_bipush (v := 7) hx hb dX1_numberB_8 (by decide) ?_
  refine lv_iushr (v := ush p0 (7 : Int32)) hx hb dX1_numberB_10 rfl ?_
  refine lv_iconst (v := 1) hx hb dX1_numberB_11 (by decide) ?_
  refine lv_iand hx hb dX1_numberB_12 ?_
  refine lv_bipush (v := 11) hx hb dX1_numberB_13 (by decide) ?_
  refine lv_ishl hx hb dX1_numberB_15 ?_
  refine lv_ior hx hb dX1_numberB_16 ?_
  refine lv_iload_n hx hb dX1_numberB_17 rfl (lv_at hl 0 rfl) ?_
  refine lv_bipush (v := 25) hx hb dX1_numberB_18 (by decide) ?_
  refine lv_iushr (v := ush p0 (25 : Int32)) hx hb dX1_numberB_20 rfl ?_
  refine lv_bipush (v := 63) hx hb dX1_numberB_21 (by decide) ?_
  refine lv_iand hx hb dX1_numberB_23 ?_
  refine lv_iconst (v := 5) hx hb dX1_numberB_24 (by decide) ?_
  refine lv_ishl hx hb dX1_numberB_25 ?_
  refine lv_ior hx hb dX1_numberB_26 ?_
  refine lv_iload_n hx hb dX1_numberB_27 rfl (lv_at hl 0 rfl) ?_
  refine lv_bipush (v := 8) hx hb dX1_numberB_28 (by decide) ?_
  refine lv_iushr (v := ush p0 (8 : Int32)) hx hb dX1_numberB_30 rfl ?_
  refine lv_bipush (v := 15) hx hb dX1_numberB_31 (by decide) ?_
  refine lv_iand hx hb dX1_numberB_33 ?_
  refine lv_iconst (v := 1) hx hb dX1_numberB_34 (by decide) ?_
  refine lv_ishl hx hb dX1_numberB_35 ?_
  refine lv_ior hx hb dX1_numberB_36 ?_
  exact W.iret (v := ((((p0 >>> ((31 : Int32) &&& 31)) <<< ((12 : Int32) &&& 31)) ||| (((ush p0 (7 : Int32)) &&& (1 : Int32)) <<< ((11 : Int32) &&& 31))) ||| (((ush p0 (25 : Int32)) &&& (63 : Int32)) <<< ((5 : Int32) &&& 31))) ||| (((ush p0 (8 : Int32)) &&& (15 : Int32)) <<< ((1 : Int32) &&& 31))) hx hb hr (fun t ht hW => ⟨congrArg (fun z => Outcome.returned (some (Value.int z))) rfl, ht⟩) (fun q h => nomatch h) dX1_numberB_37
def fX1_numberJ (p0 : Int32) : Int32 := ((((p0 >>> ((31 : Int32) &&& 31)) <<< ((20 : Int32) &&& 31)) ||| (((ush p0 (12 : Int32)) &&& (255 : Int32)) <<< ((12 : Int32) &&& 31))) ||| (((ush p0 (20 : Int32)) &&& (1 : Int32)) <<< ((11 : Int32) &&& 31))) ||| (((ush p0 (21 : Int32)) &&& (1023 : Int32)) <<< ((1 : Int32) &&& 31))
set_option maxHeartbeats 4000000 in
set_option maxRecDepth 100000 in
theorem mX1_numberJ (l : Launch) (p0 : Int32) : Met l yX1_numberJ wsX1_numberJ ({ frames := 0, cells := 0, slots := 0, locals := 0 }) (va_Pc [.int p0] (fun _ => True)) (QcRead ((fX1_numberJ p0))) 0 0 (fun _ => False) := by
  refine Met.ofW (cc := cX1_numberJ) (maxL := 1) (ret := (some .int)) (by decide) rfl ?_
  intro p e s m args below meth c s₁ B hml hv
  obtain ⟨rfl, -⟩ := hv
  have hx := B.exec
  have hb := B.bytes
  have hr := B.returns
  have hB := fun (w : Cond) (h : w ∈ BIG) => atoms_spec (ws := wsX1_numberJ) B.pre w (List.mem_cons_of_mem _ h)
  have hown : s.vm.findClass RX1 = some m.cls := findClass_of_methodNamed B.named
  have hlocks := B.notSynchronized
  have hl := lv_entry ([.int p0]) (n := 1) (Nat.le_of_ble_eq_true rfl)
  rw [lg_entry_eq]
  generalize (lg_sl ([.int p0]) ++ List.replicate (1 - (lg_sl ([.int p0])).length) Slot.unset).toArray = ls at hl ⊢
  have hl : lv_has ls 1 [(0, .int p0)] := hl
  refine lv_iload_n hx hb dX1_numberJ_0 rfl (lv_at hl 0 rfl) ?_
  refine lv_bipush (v := 31) hx hb dX1_numberJ_1 (by decide) ?_
  refine lv_ishr hx hb dX1_numberJ_3 ?_
  refine lv_bipush (v := 20) hx hb dX1_numberJ_4 (by decide) ?_
  refine lv_ishl hx hb dX1_numberJ_6 ?_
  refine lv_iload_n hx hb dX1_numberJ_7 rfl (lv_at hl 0 rfl) ?_
  refine lv_bipush (v := 12) hx hb dX1_numberJ_8 (by decide) ?_
  refine lv_iushr (v := ush p0 (12 : Int32)) hx hb dX1_numberJ_10 rfl ?_
  refine lv_sipush (v := 255) hx hb dX1_numberJ_11 (by decide) ?_
  refine lv_iand hx hb dX1_numberJ_14 ?_
  refine lv_bipush (v := 12) hx hb dX1_numberJ_15 (by decide) ?_
  refine lv_ishl hx hb dX1_numberJ_17 ?_
  refine lv_ior hx hb dX1_numberJ_18 ?_
  refine lv_iload_n hx hb dX1_numberJ_19 rfl (lv_at hl 0 rfl) ?_
  refine lv_bipush (v := 20) hx hb dX1_numberJ_20 (by decide) ?_
  refine lv_iushr (v := ush p0 (20 : Int32)) hx hb dX1_numberJ_22 rfl ?_
  refine lv_iconst (v := 1) hx hb dX1_numberJ_23 (by decide) ?_
  refine lv_iand hx hb dX1_numberJ_24 ?_
  refine lv_bipush (v := 11) hx hb dX1_numberJ_25 (by decide) ?_
  refine lv_ishl hx hb dX1_numberJ_27 ?_
  refine lv_ior hx hb dX1_numberJ_28 ?_
  refine lv_iload_n hx hb dX1_numberJ_29 rfl (lv_at hl 0 rfl) ?_
  refine lv_bipush (v := 21) hx hb dX1_numberJ_30 (by decide) ?_
  refine lv_iushr (v := ush p0 (21 : Int32)) hx hb dX1_numberJ_32 rfl ?_
  refine lv_sipush (v := 1023) hx hb dX1_numberJ_33 (by decide) ?_
  refine lv_iand hx hb dX1_numberJ_36 ?_
  refine lv_iconst (v := 1) hx hb dX1_numberJ_37 (by decide) ?_
  refine lv_ishl hx hb dX1_numberJ_38 ?_
  refine lv_ior hx hb dX1_numberJ_39 ?_
  exact W.iret (v := ((((p0 >>> ((31 : Int32) &&& 31)) <<< ((20 : Int32) &&& 31)) ||| (((ush p0 (12 : Int32)) &&& (255 : Int32)) <<< ((12 : Int32) &&& 31))) ||| (((ush p0 (20 : Int32)) &&& (1 : Int32)) <<< ((11 : Int32) &&& 31))) ||| (((ush p0 (21 : Int32)) &&& (1023 : Int32)) <<< ((1 : Int32) &&& 31))) hx hb hr (fun t ht hW => ⟨congrArg (fun z => Outcome.returned (some (Value.int z))) rfl, ht⟩) (fun q h => nomatch h) dX1_numberJ_40
def fX1_numberU (p0 : Int32) : Int32 := p0 &&& (-4096 : Int32)
set_option maxHeartbeats 4000000 in
set_option maxRecDepth 100000 in
theorem mX1_numberU (l : Launch) (p0 : Int32) : Met l yX1_numberU wsX1_numberU ({ frames := 0, cells := 0, slots := 0, locals := 0 }) (va_Pc [.int p0] (fun _ => True)) (QcRead ((fX1_numberU p0))) 0 0 (fun _ => False) := by
  refine Met.ofW (cc := cX1_numberU) (maxL := 1) (ret := (some .int)) (by decide) rfl ?_
  intro p e s m args below meth c s₁ B hml hv
  obtain ⟨rfl, -⟩ := hv
  have hx := B.exec
  have hb := B.bytes
  have hr := B.returns
  have hB := fun (w : Cond) (h : w ∈ BIG) => atoms_spec (ws := wsX1_numberU) B.pre w (List.mem_cons_of_mem _ h)
  have hown : s.vm.findClass RX1 = some m.cls := findClass_of_methodNamed B.named
  have hlocks := B.notSynchronized
  have hl := lv_entry ([.int p0]) (n := 1) (Nat.le_of_ble_eq_true rfl)
  rw [lg_entry_eq]
  generalize (lg_sl ([.int p0]) ++ List.replicate (1 - (lg_sl ([.int p0])).length) Slot.unset).toArray = ls at hl ⊢
  have hl : lv_has ls 1 [(0, .int p0)] := hl
  refine lv_iload_n hx hb dX1_numberU_0 rfl (lv_at hl 0 rfl) ?_
  refine lv_sipush (v := -4096) hx hb dX1_numberU_1 (by decide) ?_
  refine lv_iand hx hb dX1_numberU_4 ?_
  exact W.iret (v := p0 &&& (-4096 : Int32)) hx hb hr (fun t ht hW => ⟨congrArg (fun z => Outcome.returned (some (Value.int z))) rfl, ht⟩) (fun q h => nomatch h) dX1_numberU_5
def fX3_holds (p0 : Int32) : Bool := if p0 < 0 then
    false
  else
    if (4096 : Int32) ≤ p0 then
      false
    else
      true
set_option maxHeartbeats 4000000 in
set_option maxRecDepth 100000 in
theorem mX3_holds (l : Launch) (p0 : Int32) : Met l yX3_holds wsX3_holds ({ frames := 0, cells := 0, slots := 0, locals := 0 }) (va_Pc [.int p0] (fun _ => True)) (QcRead (bi (fX3_holds p0))) 0 0 (fun _ => False) := by
  refine Met.ofW (cc := cX3_holds) (maxL := 1) (ret := (some .boolean)) (by decide) rfl ?_
  intro p e s m args below meth c s₁ B hml hv
  obtain ⟨rfl, -⟩ := hv
  have hx := B.exec
  have hb := B.bytes
  have hr := B.returns
  have hB := fun (w : Cond) (h : w ∈ BIG) => atoms_spec (ws := wsX3_holds) B.pre w (List.mem_cons_of_mem _ h)
  have hown : s.vm.findClass RX3 = some m.cls := findClass_of_methodNamed B.named
  have hlocks := B.notSynchronized
  have hl := lv_entry ([.int p0]) (n := 1) (Nat.le_of_ble_eq_true rfl)
  rw [lg_entry_eq]
  generalize (lg_sl ([.int p0]) ++ List.replicate (1 - (lg_sl ([.int p0])).length) Slot.unset).toArray = ls at hl ⊢
  have hl : lv_has ls 1 [(0, .int p0)] := hl
  refine lv_iload_n hx hb dX3_holds_0 rfl (lv_at hl 0 rfl) ?_
  refine lv_if_lt (tgt := 15) hx hb dX3_holds_1 (by decide) (fun c_1 => ?_) (fun c_1 => ?_)
  · refine lv_iconst (v := 0) hx hb dX3_holds_15 (by decide) ?_
    exact W.zret (v := 0) hx hb hr rfl (fun t ht hW => ⟨congrArg (fun z => Outcome.returned (some (Value.int z))) (by unfold fX3_holds; rw [if_pos c_1] <;> rfl), ht⟩) (fun q h => nomatch h) dX3_holds_16
  · refine lv_iload_n hx hb dX3_holds_4 rfl (lv_at hl 0 rfl) ?_
    refine lv_sipush (v := 4096) hx hb dX3_holds_5 (by decide) ?_
    refine lv_icmp_ge (tgt := 15) hx hb dX3_holds_8 (by decide) (fun c_8 => ?_) (fun c_8 => ?_)
    · refine lv_iconst (v := 0) hx hb dX3_holds_15 (by decide) ?_
      exact W.zret (v := 0) hx hb hr rfl (fun t ht hW => ⟨congrArg (fun z => Outcome.returned (some (Value.int z))) (by unfold fX3_holds; rw [if_neg c_1, if_pos c_8] <;> rfl), ht⟩) (fun q h => nomatch h) dX3_holds_16
    · refine lv_iconst (v := 1) hx hb dX3_holds_11 (by decide) ?_
      refine lv_goto (tgt := 16) hx hb dX3_holds_12 (by decide) ?_
      exact W.zret (v := 1) hx hb hr rfl (fun t ht hW => ⟨congrArg (fun z => Outcome.returned (some (Value.int z))) (by unfold fX3_holds; rw [if_neg c_1, if_neg c_8] <;> rfl), ht⟩) (fun q h => nomatch h) dX3_holds_16
def fX3_isWordAddress (p0 : Int32) : Bool := if (bi (fX3_holds p0)) = 0 then
    false
  else
    if (p0 &&& (3 : Int32)) = 0 then
      true
    else
      false
set_option maxHeartbeats 4000000 in
set_option maxRecDepth 100000 in
theorem mX3_isWordAddress (l : Launch) (p0 : Int32) : Met l yX3_isWordAddress wsX3_isWordAddress ({ frames := 1, cells := 0, slots := 0, locals := 20 }) (va_Pc [.int p0] (fun _ => True)) (QcRead (bi (fX3_isWordAddress p0))) 0 0 (fun _ => False) := by
  refine Met.ofW (cc := cX3_isWordAddress) (maxL := 1) (ret := (some .boolean)) (by decide) rfl ?_
  intro p e s m args below meth c s₁ B hml hv
  obtain ⟨rfl, -⟩ := hv
  have hx := B.exec
  have hb := B.bytes
  have hr := B.returns
  have hB := fun (w : Cond) (h : w ∈ BIG) => atoms_spec (ws := wsX3_isWordAddress) B.pre w (List.mem_cons_of_mem _ h)
  have hown : s.vm.findClass RX3 = some m.cls := findClass_of_methodNamed B.named
  have hlocks := B.notSynchronized
  have hl := lv_entry ([.int p0]) (n := 1) (Nat.le_of_ble_eq_true rfl)
  rw [lg_entry_eq]
  generalize (lg_sl ([.int p0]) ++ List.replicate (1 - (lg_sl ([.int p0])).length) Slot.unset).toArray = ls at hl ⊢
  have hl : lv_has ls 1 [(0, .int p0)] := hl
  refine lv_iload_n hx hb dX3_isWordAddress_0 rfl (lv_at hl 0 rfl) ?_
  refine k_ri (va_runS (As := [.int p0]) (rest := []) ⟨hx, hb, hml, hown, hB⟩ (mX3_holds l p0) (va_cwS 1 hB (gS q_t1_99 q_t1_100 q_t1_2 wX3_holds) rfl rfl rfl hX3_holds.2 ⟨Nat.le_of_ble_eq_true rfl, Nat.le_of_ble_eq_true rfl⟩) ⟨fun _ _ _ _ q => q, fun U _ _ => ⟨rfl, trivial⟩⟩ rfl rfl hl.1 rfl (lv_room (Nat.le_of_ble_eq_true rfl)) dX3_isWordAddress_1 ⟨Nat.zero_le _, Nat.zero_le _⟩) ?_
  refine lv_if_eq (tgt := 17) hx hb dX3_isWordAddress_4 (by decide) (fun c_4 => ?_) (fun c_4 => ?_)
  · refine lv_iconst (v := 0) hx hb dX3_isWordAddress_17 (by decide) ?_
    exact W.zret (v := 0) hx hb hr rfl (fun t ht hW => ⟨congrArg (fun z => Outcome.returned (some (Value.int z))) (by unfold fX3_isWordAddress; rw [if_pos c_4] <;> rfl), ht⟩) (fun q h => nomatch h) dX3_isWordAddress_18
  · refine lv_iload_n hx hb dX3_isWordAddress_7 rfl (lv_at hl 0 rfl) ?_
    refine lv_iconst (v := 3) hx hb dX3_isWordAddress_8 (by decide) ?_
    refine lv_iand hx hb dX3_isWordAddress_9 ?_
    refine lv_if_ne (tgt := 17) hx hb dX3_isWordAddress_10 (by decide) (fun c_10 => ?_) (fun c_10 => ?_)
    · refine lv_iconst (v := 0) hx hb dX3_isWordAddress_17 (by decide) ?_
      exact W.zret (v := 0) hx hb hr rfl (fun t ht hW => ⟨congrArg (fun z => Outcome.returned (some (Value.int z))) (by unfold fX3_isWordAddress; rw [if_neg c_4, if_neg c_10] <;> rfl), ht⟩) (fun q h => nomatch h) dX3_isWordAddress_18
    · refine lv_iconst (v := 1) hx hb dX3_isWordAddress_13 (by decide) ?_
      refine lv_goto (tgt := 18) hx hb dX3_isWordAddress_14 (by decide) ?_
      exact W.zret (v := 1) hx hb hr rfl (fun t ht hW => ⟨congrArg (fun z => Outcome.returned (some (Value.int z))) (by unfold fX3_isWordAddress; rw [if_neg c_4, if_pos c_10] <;> rfl), ht⟩) (fun q h => nomatch h) dX3_isWordAddress_18
def fX3_isBy (p0 : Int32) (p1 : Int32) : Bool := if (p0 &&& (((1 : Int32) <<< (p1 &&& 31)) - (1 : Int32))) = 0 then
    true
  else
    false
set_option maxHeartbeats 4000000 in
set_option maxRecDepth 100000 in
theorem mX3_isBy (l : Launch) (p0 : Int32) (p1 : Int32) : Met l yX3_isBy wsX3_isBy ({ frames := 0, cells := 0, slots := 0, locals := 0 }) (va_Pc [.int p0, .int p1] (fun _ => True)) (QcRead (bi (fX3_isBy p0 p1))) 0 0 (fun _ => False) := by
  refine Met.ofW (cc := cX3_isBy) (maxL := 2) (ret := (some .boolean)) (by decide) rfl ?_
  intro p e s m args below meth c s₁ B hml hv
  obtain ⟨rfl, -⟩ := hv
  have hx := B.exec
  have hb := B.bytes
  have hr := B.returns
  have hB := fun (w : Cond) (h : w ∈ BIG) => atoms_spec (ws := wsX3_isBy) B.pre w (List.mem_cons_of_mem _ h)
  have hown : s.vm.findClass RX3 = some m.cls := findClass_of_methodNamed B.named
  have hlocks := B.notSynchronized
  have hl := lv_entry ([.int p0, .int p1]) (n := 2) (Nat.le_of_ble_eq_true rfl)
  rw [lg_entry_eq]
  generalize (lg_sl ([.int p0, .int p1]) ++ List.replicate (2 - (lg_sl ([.int p0, .int p1])).length) Slot.unset).toArray = ls at hl ⊢
  have hl : lv_has ls 2 [(0, .int p0), (1, .int p1)] := hl
  refine lv_iload_n hx hb dX3_isBy_0 rfl (lv_at hl 0 rfl) ?_
  refine lv_iconst (v := 1) hx hb dX3_isBy_1 (by decide) ?_
  refine lv_iload_n hx hb dX3_isBy_2 rfl (lv_at hl 1 rfl) ?_
  refine lv_ishl hx hb dX3_isBy_3 ?_
  refine lv_iconst (v := 1) hx hb dX3_isBy_4 (by decide) ?_
  refine lv_isub hx hb dX3_isBy_5 ?_
  refine lv_iand hx hb dX3_isBy_6 ?_
  refine lv_if_ne (tgt := 14) hx hb dX3_isBy_7 (by decide) (fun c_7 => ?_) (fun c_7 => ?_)
  · refine lv_iconst (v := 0) hx hb dX3_isBy_14 (by decide) ?_
    exact W.zret (v := 0) hx hb hr rfl (fun t ht hW => ⟨congrArg (fun z => Outcome.returned (some (Value.int z))) (by unfold fX3_isBy; rw [if_neg c_7] <;> rfl), ht⟩) (fun q h => nomatch h) dX3_isBy_15
  · refine lv_iconst (v := 1) hx hb dX3_isBy_10 (by decide) ?_
    refine lv_goto (tgt := 15) hx hb dX3_isBy_11 (by decide) ?_
    exact W.zret (v := 1) hx hb hr rfl (fun t ht hW => ⟨congrArg (fun z => Outcome.returned (some (Value.int z))) (by unfold fX3_isBy; rw [if_pos c_7] <;> rfl), ht⟩) (fun q h => nomatch h) dX3_isBy_15
def fX3_shift (p0 : Int32) : Int32 := (p0 &&& (3 : Int32)) * (8 : Int32)
set_option maxHeartbeats 4000000 in
set_option maxRecDepth 100000 in
theorem mX3_shift (l : Launch) (p0 : Int32) : Met l yX3_shift wsX3_shift ({ frames := 0, cells := 0, slots := 0, locals := 0 }) (va_Pc [.int p0] (fun _ => True)) (QcRead ((fX3_shift p0))) 0 0 (fun _ => False) := by
  refine Met.ofW (cc := cX3_shift) (maxL := 1) (ret := (some .int)) (by decide) rfl ?_
  intro p e s m args below meth c s₁ B hml hv
  obtain ⟨rfl, -⟩ := hv
  have hx := B.exec
  have hb := B.bytes
  have hr := B.returns
  have hB := fun (w : Cond) (h : w ∈ BIG) => atoms_spec (ws := wsX3_shift) B.pre w (List.mem_cons_of_mem _ h)
  have hown : s.vm.findClass RX3 = some m.cls := findClass_of_methodNamed B.named
  have hlocks := B.notSynchronized
  have hl := lv_entry ([.int p0]) (n := 1) (Nat.le_of_ble_eq_true rfl)
  rw [lg_entry_eq]
  generalize (lg_sl ([.int p0]) ++ List.replicate (1 - (lg_sl ([.int p0])).length) Slot.unset).toArray = ls at hl ⊢
  have hl : lv_has ls 1 [(0, .int p0)] := hl
  refine lv_iload_n hx hb dX3_shift_0 rfl (lv_at hl 0 rfl) ?_
  refine lv_iconst (v := 3) hx hb dX3_shift_1 (by decide) ?_
  refine lv_iand hx hb dX3_shift_2 ?_
  refine lv_bipush (v := 8) hx hb dX3_shift_3 (by decide) ?_
  refine lv_imul hx hb dX3_shift_5 ?_
  exact W.iret (v := (p0 &&& (3 : Int32)) * (8 : Int32)) hx hb hr (fun t ht hW => ⟨congrArg (fun z => Outcome.returned (some (Value.int z))) rfl, ht⟩) (fun q h => nomatch h) dX3_shift_6
def fX3_partMask (p0 : Int32) : Int32 := if p0 = (0 : Int32) then
    (255 : Int32)
  else
    if p0 = (1 : Int32) then
      (65535 : Int32)
    else
      (-1 : Int32)
set_option maxHeartbeats 4000000 in
set_option maxRecDepth 100000 in
theorem mX3_partMask (l : Launch) (p0 : Int32) : Met l yX3_partMask wsX3_partMask ({ frames := 0, cells := 0, slots := 0, locals := 0 }) (va_Pc [.int p0] (fun _ => True)) (QcRead ((fX3_partMask p0))) 0 0 (fun _ => False) := by
  refine Met.ofW (cc := cX3_partMask) (maxL := 1) (ret := (some .int)) (by decide) rfl ?_
  intro p e s m args below meth c s₁ B hml hv
  obtain ⟨rfl, -⟩ := hv
  have hx := B.exec
  have hb := B.bytes
  have hr := B.returns
  have hB := fun (w : Cond) (h : w ∈ BIG) => atoms_spec (ws := wsX3_partMask) B.pre w (List.mem_cons_of_mem _ h)
  have hown : s.vm.findClass RX3 = some m.cls := findClass_of_methodNamed B.named
  have hlocks := B.notSynchronized
  have hl := lv_entry ([.int p0]) (n := 1) (Nat.le_of_ble_eq_true rfl)
  rw [lg_entry_eq]
  generalize (lg_sl ([.int p0]) ++ List.replicate (1 - (lg_sl ([.int p0])).length) Slot.unset).toArray = ls at hl ⊢
  have hl : lv_has ls 1 [(0, .int p0)] := hl
  refine lv_iload_n hx hb dX3_partMask_0 rfl (lv_at hl 0 rfl) ?_
  by_cases c_1_0 : p0 = (0 : Int32)
  · refine lv_lookup (off := 27) (tgt := 28) hx hb dX3_partMask_1 (by decide) (by rw [c_1_0]; decide) (by decide) ?_
    refine lv_sipush (v := 255) hx hb dX3_partMask_28 (by decide) ?_
    exact W.iret (v := (255 : Int32)) hx hb hr (fun t ht hW => ⟨congrArg (fun z => Outcome.returned (some (Value.int z))) (by unfold fX3_partMask; rw [if_pos c_1_0] <;> rfl), ht⟩) (fun q h => nomatch h) dX3_partMask_31
  by_cases c_1_1 : p0 = (1 : Int32)
  · refine lv_lookup (off := 31) (tgt := 32) hx hb dX3_partMask_1 (by decide) (by rw [c_1_1]; decide) (by decide) ?_
    refine lv_ldc (v := 65535) hx hb hown (hB _ q_t2_112) dX3_partMask_32 ?_
    exact W.iret (v := (65535 : Int32)) hx hb hr (fun t ht hW => ⟨congrArg (fun z => Outcome.returned (some (Value.int z))) (by unfold fX3_partMask; rw [if_neg c_1_0, if_pos c_1_1] <;> rfl), ht⟩) (fun q h => nomatch h) dX3_partMask_34
  refine lv_lookup (off := 34) (tgt := 35) hx hb dX3_partMask_1 (by decide) ((lv_osw c_1_0 (by decide)).trans ((lv_osw c_1_1 (by decide)).trans rfl)) (by decide) ?_
  refine lv_iconst (v := -1) hx hb dX3_partMask_35 (by decide) ?_
  exact W.iret (v := (-1 : Int32)) hx hb hr (fun t ht hW => ⟨congrArg (fun z => Outcome.returned (some (Value.int z))) (by unfold fX3_partMask; rw [if_neg c_1_0, if_neg c_1_1] <;> rfl), ht⟩) (fun q h => nomatch h) dX3_partMask_36
def fX2_isWritable (p0 : Int32) : Bool := if p0 = (768 : Int32) then
    true
  else
    if p0 = (772 : Int32) then
      true
    else
      if p0 = (773 : Int32) then
        true
      else
        if p0 = (832 : Int32) then
          true
        else
          if p0 = (833 : Int32) then
            true
          else
            if p0 = (834 : Int32) then
              true
            else
              if p0 = (835 : Int32) then
                true
              else
                false
set_option maxHeartbeats 4000000 in
set_option maxRecDepth 100000 in
theorem mX2_isWritable (l : Launch) (p0 : Int32) : Met l yX2_isWritable wsX2_isWritable ({ frames := 0, cells := 0, slots := 0, locals := 0 }) (va_Pc [.int p0] (fun _ => True)) (QcRead (bi (fX2_isWritable p0))) 0 0 (fun _ => False) := by
  refine Met.ofW (cc := cX2_isWritable) (maxL := 1) (ret := (some .boolean)) (by decide) rfl ?_
  intro p e s m args below meth c s₁ B hml hv
  obtain ⟨rfl, -⟩ := hv
  have hx := B.exec
  have hb := B.bytes
  have hr := B.returns
  have hB := fun (w : Cond) (h : w ∈ BIG) => atoms_spec (ws := wsX2_isWritable) B.pre w (List.mem_cons_of_mem _ h)
  have hown : s.vm.findClass RX2 = some m.cls := findClass_of_methodNamed B.named
  have hlocks := B.notSynchronized
  have hl := lv_entry ([.int p0]) (n := 1) (Nat.le_of_ble_eq_true rfl)
  rw [lg_entry_eq]
  generalize (lg_sl ([.int p0]) ++ List.replicate (1 - (lg_sl ([.int p0])).length) Slot.unset).toArray = ls at hl ⊢
  have hl : lv_has ls 1 [(0, .int p0)] := hl
  refine lv_iload_n hx hb dX2_isWritable_0 rfl (lv_at hl 0 rfl) ?_
  by_cases c_1_768 : p0 = (768 : Int32)
  · refine lv_lookup (off := 67) (tgt := 68) hx hb dX2_isWritable_1 (by decide) (by rw [c_1_768]; decide) (by decide) ?_
    refine lv_iconst (v := 1) hx hb dX2_isWritable_68 (by decide) ?_
    exact W.zret (v := 1) hx hb hr rfl (fun t ht hW => ⟨congrArg (fun z => Outcome.returned (some (Value.int z))) (by unfold fX2_isWritable; rw [if_pos c_1_768] <;> rfl), ht⟩) (fun q h => nomatch h) dX2_isWritable_69
  by_cases c_1_772 : p0 = (772 : Int32)
  · refine lv_lookup (off := 67) (tgt := 68) hx hb dX2_isWritable_1 (by decide) (by rw [c_1_772]; decide) (by decide) ?_
    refine lv_iconst (v := 1) hx hb dX2_isWritable_68 (by decide) ?_
    exact W.zret (v := 1) hx hb hr rfl (fun t ht hW => ⟨congrArg (fun z => Outcome.returned (some (Value.int z))) (by unfold fX2_isWritable; rw [if_neg c_1_768, if_pos c_1_772] <;> rfl), ht⟩) (fun q h => nomatch h) dX2_isWritable_69
  by_cases c_1_773 : p0 = (773 : Int32)
  · refine lv_lookup (off := 67) (tgt := 68) hx hb dX2_isWritable_1 (by decide) (by rw [c_1_773]; decide) (by decide) ?_
    refine lv_iconst (v := 1) hx hb dX2_isWritable_68 (by decide) ?_
    exact W.zret (v := 1) hx hb hr rfl (fun t ht hW => ⟨congrArg (fun z => Outcome.returned (some (Value.int z))) (by unfold fX2_isWritable; rw [if_neg c_1_768, if_neg c_1_772, if_pos c_1_773] <;> rfl), ht⟩) (fun q h => nomatch h) dX2_isWritable_69
  by_cases c_1_832 : p0 = (832 : Int32)
  · refine lv_lookup (off := 67) (tgt := 68) hx hb dX2_isWritable_1 (by decide) (by rw [c_1_832]; decide) (by decide) ?_
    refine lv_iconst (v := 1) hx hb dX2_isWritable_68 (by decide) ?_
    exact W.zret (v := 1) hx hb hr rfl (fun t ht hW => ⟨congrArg (fun z => Outcome.returned (some (Value.int z))) (by unfold fX2_isWritable; rw [if_neg c_1_768, if_neg c_1_772, if_neg c_1_773, if_pos c_1_832] <;> rfl), ht⟩) (fun q h => nomatch h) dX2_isWritable_69
  by_cases c_1_833 : p0 = (833 : Int32)
  · refine lv_lookup (off := 67) (tgt := 68) hx hb dX2_isWritable_1 (by decide) (by rw [c_1_833]; decide) (by decide) ?_
    refine lv_iconst (v := 1) hx hb dX2_isWritable_68 (by decide) ?_
    exact W.zret (v := 1) hx hb hr rfl (fun t ht hW => ⟨congrArg (fun z => Outcome.returned (some (Value.int z))) (by unfold fX2_isWritable; rw [if_neg c_1_768, if_neg c_1_772, if_neg c_1_773, if_neg c_1_832, if_pos c_1_833] <;> rfl), ht⟩) (fun q h => nomatch h) dX2_isWritable_69
  by_cases c_1_834 : p0 = (834 : Int32)
  · refine lv_lookup (off := 67) (tgt := 68) hx hb dX2_isWritable_1 (by decide) (by rw [c_1_834]; decide) (by decide) ?_
    refine lv_iconst (v := 1) hx hb dX2_isWritable_68 (by decide) ?_
    exact W.zret (v := 1) hx hb hr rfl (fun t ht hW => ⟨congrArg (fun z => Outcome.returned (some (Value.int z))) (by unfold fX2_isWritable; rw [if_neg c_1_768, if_neg c_1_772, if_neg c_1_773, if_neg c_1_832, if_neg c_1_833, if_pos c_1_834] <;> rfl), ht⟩) (fun q h => nomatch h) dX2_isWritable_69
  by_cases c_1_835 : p0 = (835 : Int32)
  · refine lv_lookup (off := 67) (tgt := 68) hx hb dX2_isWritable_1 (by decide) (by rw [c_1_835]; decide) (by decide) ?_
    refine lv_iconst (v := 1) hx hb dX2_isWritable_68 (by decide) ?_
    exact W.zret (v := 1) hx hb hr rfl (fun t ht hW => ⟨congrArg (fun z => Outcome.returned (some (Value.int z))) (by unfold fX2_isWritable; rw [if_neg c_1_768, if_neg c_1_772, if_neg c_1_773, if_neg c_1_832, if_neg c_1_833, if_neg c_1_834, if_pos c_1_835] <;> rfl), ht⟩) (fun q h => nomatch h) dX2_isWritable_69
  refine lv_lookup (off := 69) (tgt := 70) hx hb dX2_isWritable_1 (by decide) ((lv_osw c_1_768 (by decide)).trans ((lv_osw c_1_772 (by decide)).trans ((lv_osw c_1_773 (by decide)).trans ((lv_osw c_1_832 (by decide)).trans ((lv_osw c_1_833 (by decide)).trans ((lv_osw c_1_834 (by decide)).trans ((lv_osw c_1_835 (by decide)).trans rfl))))))) (by decide) ?_
  refine lv_iconst (v := 0) hx hb dX2_isWritable_70 (by decide) ?_
  exact W.zret (v := 0) hx hb hr rfl (fun t ht hW => ⟨congrArg (fun z => Outcome.returned (some (Value.int z))) (by unfold fX2_isWritable; rw [if_neg c_1_768, if_neg c_1_772, if_neg c_1_773, if_neg c_1_832, if_neg c_1_833, if_neg c_1_834, if_neg c_1_835] <;> rfl), ht⟩) (fun q h => nomatch h) dX2_isWritable_71
def fX2_isKnown (p0 : Int32) : Bool := if (bi (fX2_isWritable p0)) = 0 then
    if p0 = (836 : Int32) then
      true
    else
      if p0 = (2816 : Int32) then
        true
      else
        false
  else
    true
set_option maxHeartbeats 4000000 in
set_option maxRecDepth 100000 in
theorem mX2_isKnown (l : Launch) (p0 : Int32) : Met l yX2_isKnown wsX2_isKnown ({ frames := 1, cells := 0, slots := 0, locals := 20 }) (va_Pc [.int p0] (fun _ => True)) (QcRead (bi (fX2_isKnown p0))) 0 0 (fun _ => False) := by
  refine Met.ofW (cc := cX2_isKnown) (maxL := 1) (ret := (some .boolean)) (by decide) rfl ?_
  intro p e s m args below meth c s₁ B hml hv
  obtain ⟨rfl, -⟩ := hv
  have hx := B.exec
  have hb := B.bytes
  have hr := B.returns
  have hB := fun (w : Cond) (h : w ∈ BIG) => atoms_spec (ws := wsX2_isKnown) B.pre w (List.mem_cons_of_mem _ h)
  have hown : s.vm.findClass RX2 = some m.cls := findClass_of_methodNamed B.named
  have hlocks := B.notSynchronized
  have hl := lv_entry ([.int p0]) (n := 1) (Nat.le_of_ble_eq_true rfl)
  rw [lg_entry_eq]
  generalize (lg_sl ([.int p0]) ++ List.replicate (1 - (lg_sl ([.int p0])).length) Slot.unset).toArray = ls at hl ⊢
  have hl : lv_has ls 1 [(0, .int p0)] := hl
  refine lv_iload_n hx hb dX2_isKnown_0 rfl (lv_at hl 0 rfl) ?_
  refine k_ri (va_runS (As := [.int p0]) (rest := []) ⟨hx, hb, hml, hown, hB⟩ (mX2_isWritable l p0) (va_cwS 1 hB (gS q_t2_173 q_t2_168 q_t1_3 wX2_isWritable) rfl rfl rfl hX2_isWritable.2 ⟨Nat.le_of_ble_eq_true rfl, Nat.le_of_ble_eq_true rfl⟩) ⟨fun _ _ _ _ q => q, fun U _ _ => ⟨rfl, trivial⟩⟩ rfl rfl hl.1 rfl (lv_room (Nat.le_of_ble_eq_true rfl)) dX2_isKnown_1 ⟨Nat.zero_le _, Nat.zero_le _⟩) ?_
  refine lv_if_ne (tgt := 21) hx hb dX2_isKnown_4 (by decide) (fun c_4 => ?_) (fun c_4 => ?_)
  · refine lv_iconst (v := 1) hx hb dX2_isKnown_21 (by decide) ?_
    refine lv_goto (tgt := 26) hx hb dX2_isKnown_22 (by decide) ?_
    exact W.zret (v := 1) hx hb hr rfl (fun t ht hW => ⟨congrArg (fun z => Outcome.returned (some (Value.int z))) (by unfold fX2_isKnown; rw [if_neg c_4] <;> rfl), ht⟩) (fun q h => nomatch h) dX2_isKnown_26
  · refine lv_iload_n hx hb dX2_isKnown_7 rfl (lv_at hl 0 rfl) ?_
    refine lv_sipush (v := 836) hx hb dX2_isKnown_8 (by decide) ?_
    refine lv_icmp_eq (tgt := 21) hx hb dX2_isKnown_11 (by decide) (fun c_11 => ?_) (fun c_11 => ?_)
    · refine lv_iconst (v := 1) hx hb dX2_isKnown_21 (by decide) ?_
      refine lv_goto (tgt := 26) hx hb dX2_isKnown_22 (by decide) ?_
      exact W.zret (v := 1) hx hb hr rfl (fun t ht hW => ⟨congrArg (fun z => Outcome.returned (some (Value.int z))) (by unfold fX2_isKnown; rw [if_pos c_4, if_pos c_11] <;> rfl), ht⟩) (fun q h => nomatch h) dX2_isKnown_26
    · refine lv_iload_n hx hb dX2_isKnown_14 rfl (lv_at hl 0 rfl) ?_
      refine lv_sipush (v := 2816) hx hb dX2_isKnown_15 (by decide) ?_
      refine lv_icmp_ne (tgt := 25) hx hb dX2_isKnown_18 (by decide) (fun c_18 => ?_) (fun c_18 => ?_)
      · refine lv_iconst (v := 0) hx hb dX2_isKnown_25 (by decide) ?_
        exact W.zret (v := 0) hx hb hr rfl (fun t ht hW => ⟨congrArg (fun z => Outcome.returned (some (Value.int z))) (by unfold fX2_isKnown; rw [if_pos c_4, if_neg c_11, if_neg c_18] <;> rfl), ht⟩) (fun q h => nomatch h) dX2_isKnown_26
      · refine lv_iconst (v := 1) hx hb dX2_isKnown_21 (by decide) ?_
        refine lv_goto (tgt := 26) hx hb dX2_isKnown_22 (by decide) ?_
        exact W.zret (v := 1) hx hb hr rfl (fun t ht hW => ⟨congrArg (fun z => Outcome.returned (some (Value.int z))) (by unfold fX2_isKnown; rw [if_pos c_4, if_neg c_11, if_pos c_18] <;> rfl), ht⟩) (fun q h => nomatch h) dX2_isKnown_26
