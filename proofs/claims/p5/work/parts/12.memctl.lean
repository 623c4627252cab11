def fX3_readWord (p0 : Int32) (x : St) : Int32 := if (1024 : Int32) ≤ (ush p0 (2 : Int32)) then
    (0 : Int32)
  else
    (g_mem x) (ush p0 (2 : Int32)).toNatClampNeg
set_option maxHeartbeats 4000000 in
set_option maxRecDepth 100000 in
theorem mX3_readWord (l : Launch) (dC : Nat → ClassId) (dI : Nat → Nat → Nat) (aH aM aW aC aR iW iR : Nat) (x : St) (p0 : Int32) : Met l yX3_readWord wsX3_readWord ({ frames := 0, cells := 0, slots := 0, locals := 0 }) (va_Pc [.ref aM, .int p0] (kP (dC, dI) [(iW, .int), (iR, .int)] NW (wD aH aM aW aC aR iW iR x))) (QcRead ((fX3_readWord p0 x))) 0 0 (fun _ => False) := by
  refine Met.ofW (cc := cX3_readWord) (maxL := 3) (ret := (some .int)) (by decide) rfl ?_
  intro p e s m args below meth c s₁ B hml hv
  obtain ⟨rfl, hP, hK, hN⟩ := hv
  have hx := B.exec
  have hb := B.bytes
  have hr := B.returns
  have hB := fun (w : Cond) (h : w ∈ BIG) => atoms_spec (ws := wsX3_readWord) B.pre w (List.mem_cons_of_mem _ h)
  have hown : s.vm.findClass RX3 = some m.cls := findClass_of_methodNamed B.named
  have hlocks := B.notSynchronized
  have hl := lv_entry ([.ref aM, .int p0]) (n := 3) (Nat.le_of_ble_eq_true rfl)
  rw [lg_entry_eq]
  generalize (lg_sl ([.ref aM, .int p0]) ++ List.replicate (3 - (lg_sl ([.ref aM, .int p0])).length) Slot.unset).toArray = ls at hl ⊢
  have hl : lv_has ls 3 [(0, .ref aM), (1, .int p0)] := hl
  refine lv_iload_n hx hb dX3_readWord_0 rfl (lv_at hl 1 rfl) ?_
  refine lv_iconst (v := 2) hx hb dX3_readWord_1 (by decide) ?_
  refine lv_iushr (v := ush p0 (2 : Int32)) hx hb dX3_readWord_2 rfl ?_
  refine lv_istore_n (lv' := [(2, .int (ush p0 (2 : Int32))), (0, .ref aM), (1, .int p0)]) hx hb dX3_readWord_3 rfl hl (by decide) rfl (fun ls hl => ?_)
  refine lv_iload_n hx hb dX3_readWord_4 rfl (lv_at hl 0 rfl) ?_
  refine lv_aload_n hx hb dX3_readWord_5 rfl (lv_at hl 1 rfl) ?_
  refine va_get (D := (dC, dI)) (ci := 1) (v := .ref aW) (C := RX3) (T := TX3) (N := 1) hx hb hB iX3 hown hK hP 1 rfl rfl 0 (by decide) (hB _ q_t1_28) (fun _ h9 => h9) rfl dX3_readWord_6 ?_
  refine va_alen (v := 1024) hx hb hK hP 2 0 rfl rfl rfl dX3_readWord_9 ?_
  refine lv_icmp_ge (tgt := 22) hx hb dX3_readWord_10 (by decide) (fun c_10 => ?_) (fun c_10 => ?_)
  · refine lv_iconst (v := 0) hx hb dX3_readWord_22 (by decide) ?_
    exact W.iret (v := (0 : Int32)) hx hb hr (fun t ht hW => ⟨congrArg (fun z => Outcome.returned (some (Value.int z))) (by unfold fX3_readWord; rw [if_pos c_10] <;> rfl), ht⟩) (fun q h => nomatch h) dX3_readWord_23
  · refine lv_aload_n hx hb dX3_readWord_13 rfl (lv_at hl 1 rfl) ?_
    refine va_get (D := (dC, dI)) (ci := 1) (v := .ref aW) (C := RX3) (T := TX3) (N := 1) hx hb hB iX3 hown hK hP 1 rfl rfl 0 (by decide) (hB _ q_t1_28) (fun _ h9 => h9) rfl dX3_readWord_14 ?_
    refine lv_iload_n hx hb dX3_readWord_17 rfl (lv_at hl 0 rfl) ?_
    refine va_iald hx hb hK hP 2 0 rfl rfl (in_mem c_10) dX3_readWord_18 ?_
    refine lv_goto (tgt := 23) hx hb dX3_readWord_19 (by decide) ?_
    exact W.iret (v := (g_mem x) (ush p0 (2 : Int32)).toNatClampNeg) hx hb hr (fun t ht hW => ⟨congrArg (fun z => Outcome.returned (some (Value.int z))) (by unfold fX3_readWord; rw [if_neg c_10] <;> rfl), ht⟩) (fun q h => nomatch h) dX3_readWord_23
def fX3_writeWord (p0 : Int32) (p1 : Int32) (x : St) : St := if (1024 : Int32) ≤ (ush p0 (2 : Int32)) then
    x
  else
    s_mem x (upd (g_mem x) (ush p0 (2 : Int32)).toNatClampNeg p1)
set_option maxHeartbeats 4000000 in
set_option maxRecDepth 100000 in
theorem mX3_writeWord (l : Launch) (dC : Nat → ClassId) (dI : Nat → Nat → Nat) (aH aM aW aC aR iW iR : Nat) (sz : Nat) (x : St) (p0 : Int32) (p1 : Int32) : Met l yX3_writeWord wsX3_writeWord ({ frames := 0, cells := 0, slots := 0, locals := 0 }) (va_Pc [.ref aM, .int p0, .int p1] (kM (dC, dI) [(iW, .int), (iR, .int)] NW (wD aH aM aW aC aR iW iR x) sz)) (va_Qv (fun u => u = fX3_writeWord p0 p1 x) (fun u t => va_P (dC, dI) vwCl (wD aH aM aW aC aR iW iR u) t.heap) (va_A (wD aH aM aW aC aR iW iR x) sz)) 0 0 (va_A (wD aH aM aW aC aR iW iR x) sz) := by
  refine Met.ofW (cc := cX3_writeWord) (maxL := 4) (ret := none) (by decide) rfl ?_
  intro p e s m args below meth c s₁ B hml hv
  obtain ⟨rfl, hsz, hD0, hP, hK, hN⟩ := hv
  have hx := B.exec
  have hb := B.bytes
  have hr := B.returns
  have hB := fun (w : Cond) (h : w ∈ BIG) => atoms_spec (ws := wsX3_writeWord) B.pre w (List.mem_cons_of_mem _ h)
  have hown : s.vm.findClass RX3 = some m.cls := findClass_of_methodNamed B.named
  have hlocks := B.notSynchronized
  subst hsz
  have hD := hD0.self (sz := s.heap.size)
  generalize hAe : va_A (wD aH aM aW aC aR iW iR x) s.heap.size = A at hD ⊢
  have hA : ∀ q : Nat, s.heap.size ≤ q → A q := fun q h => by rw [← hAe]; exact Or.inr h
  have hS : va_S A s.heap s.heap [] := va_S.rf
  have hl := lv_entry ([.ref aM, .int p0, .int p1]) (n := 4) (Nat.le_of_ble_eq_true rfl)
  rw [lg_entry_eq]
  generalize (lg_sl ([.ref aM, .int p0, .int p1]) ++ List.replicate (4 - (lg_sl ([.ref aM, .int p0, .int p1])).length) Slot.unset).toArray = ls at hl ⊢
  have hl : lv_has ls 4 [(0, .ref aM), (1, .int p0), (2, .int p1)] := hl
  refine lv_iload_n hx hb dX3_writeWord_0 rfl (lv_at hl 1 rfl) ?_
  refine lv_iconst (v := 2) hx hb dX3_writeWord_1 (by decide) ?_
  refine lv_iushr (v := ush p0 (2 : Int32)) hx hb dX3_writeWord_2 rfl ?_
  refine lv_istore_n (lv' := [(3, .int (ush p0 (2 : Int32))), (0, .ref aM), (1, .int p0), (2, .int p1)]) hx hb dX3_writeWord_3 rfl hl (by decide) rfl (fun ls hl => ?_)
  refine lv_iload_n hx hb dX3_writeWord_4 rfl (lv_at hl 0 rfl) ?_
  refine lv_aload_n hx hb dX3_writeWord_5 rfl (lv_at hl 1 rfl) ?_
  refine va_get (D := (dC, dI)) (ci := 1) (v := .ref aW) (C := RX3) (T := TX3) (N := 1) hx hb hB iX3 hown hK hP 1 rfl rfl 0 (by decide) (hB _ q_t1_28) (fun _ h9 => h9) rfl dX3_writeWord_6 ?_
  refine va_alen (v := 1024) hx hb hK hP 2 0 rfl rfl rfl dX3_writeWord_9 ?_
  refine lv_icmp_ge (tgt := 20) hx hb dX3_writeWord_10 (by decide) (fun c_10 => ?_) (fun c_10 => ?_)
  · exact W.vret hx hb hr (fun t ht hW => ⟨⟨x, rfl, (by unfold fX3_writeWord; rw [if_pos c_10] <;> rfl), hpT ht hP⟩, hS.F ht⟩) hS.2.2 dX3_writeWord_20
  · refine lv_aload_n hx hb dX3_writeWord_13 rfl (lv_at hl 1 rfl) ?_
    refine va_get (D := (dC, dI)) (ci := 1) (v := .ref aW) (C := RX3) (T := TX3) (N := 1) hx hb hB iX3 hown hK hP 1 rfl rfl 0 (by decide) (hB _ q_t1_28) (fun _ h9 => h9) rfl dX3_writeWord_14 ?_
    refine lv_iload_n hx hb dX3_writeWord_17 rfl (lv_at hl 0 rfl) ?_
    refine lv_iload_n hx hb dX3_writeWord_18 rfl (lv_at hl 3 rfl) ?_
    refine va_iast hx hb hK hP hD hS 2 0 rfl rfl (in_mem c_10) dX3_writeWord_19 (fun H locs hP hD hS => ?_)
    have hP : va_P (dC, dI) vwCl (wD aH aM aW aC aR iW iR (s_mem x (upd (g_mem x) (ush p0 (2 : Int32)).toNatClampNeg p1))) H := hP
    have hD : va_D A (wD aH aM aW aC aR iW iR (s_mem x (upd (g_mem x) (ush p0 (2 : Int32)).toNatClampNeg p1))) := hD
    exact W.vret hx hb hr (fun t ht hW => ⟨⟨(s_mem x (upd (g_mem x) (ush p0 (2 : Int32)).toNatClampNeg p1)), rfl, (by unfold fX3_writeWord; rw [if_neg c_10] <;> rfl), hpT ht hP⟩, hS.F ht⟩) hS.2.2 dX3_writeWord_20
def fX3_readPart (p0 : Int32) (p1 : Int32) (x : St) : Int32 := if p1 = (0 : Int32) then
    (ush (fX3_readWord p0 x) (fX3_shift p0)).toInt8.toInt32
  else
    if p1 = (1 : Int32) then
      (ush (fX3_readWord p0 x) (fX3_shift p0)).toInt16.toInt32
    else
      if p1 = (2 : Int32) then
        ush (fX3_readWord p0 x) (fX3_shift p0)
      else
        if p1 = (3 : Int32) then
          ush (fX3_readWord p0 x) (fX3_shift p0)
        else
          if p1 = (4 : Int32) then
            (ush (fX3_readWord p0 x) (fX3_shift p0)) &&& (255 : Int32)
          else
            if p1 = (5 : Int32) then
              (ush (fX3_readWord p0 x) (fX3_shift p0)) &&& (65535 : Int32)
            else
              ush (fX3_readWord p0 x) (fX3_shift p0)
set_option maxHeartbeats 4000000 in
set_option maxRecDepth 100000 in
theorem mX3_readPart (l : Launch) (dC : Nat → ClassId) (dI : Nat → Nat → Nat) (aH aM aW aC aR iW iR : Nat) (x : St) (p0 : Int32) (p1 : Int32) : Met l yX3_readPart wsX3_readPart ({ frames := 1, cells := 0, slots := 0, locals := 22 }) (va_Pc [.ref aM, .int p0, .int p1] (kP (dC, dI) [(iW, .int), (iR, .int)] NW (wD aH aM aW aC aR iW iR x))) (QcRead ((fX3_readPart p0 p1 x))) 0 0 (fun _ => False) := by
  refine Met.ofW (cc := cX3_readPart) (maxL := 4) (ret := (some .int)) (by decide) rfl ?_
  intro p e s m args below meth c s₁ B hml hv
  obtain ⟨rfl, hP, hK, hN⟩ := hv
  have hx := B.exec
  have hb := B.bytes
  have hr := B.returns
  have hB := fun (w : Cond) (h : w ∈ BIG) => atoms_spec (ws := wsX3_readPart) B.pre w (List.mem_cons_of_mem _ h)
  have hown : s.vm.findClass RX3 = some m.cls := findClass_of_methodNamed B.named
  have hlocks := B.notSynchronized
  have hl := lv_entry ([.ref aM, .int p0, .int p1]) (n := 4) (Nat.le_of_ble_eq_true rfl)
  rw [lg_entry_eq]
  generalize (lg_sl ([.ref aM, .int p0, .int p1]) ++ List.replicate (4 - (lg_sl ([.ref aM, .int p0, .int p1])).length) Slot.unset).toArray = ls at hl ⊢
  have hl : lv_has ls 4 [(0, .ref aM), (1, .int p0), (2, .int p1)] := hl
  refine lv_aload_n hx hb dX3_readPart_0 rfl (lv_at hl 0 rfl) ?_
  refine lv_iload_n hx hb dX3_readPart_1 rfl (lv_at hl 1 rfl) ?_
  refine k_ri (va_runV (As := [.int p0]) (rest := []) ⟨hx, hb, hml, hown, hB⟩ (mX3_readWord l dC dI aH aM aW aC aR iW iR x p0) (cwV 1 hB (gV q_t2_108 q_t2_21 q_s_11 q_t1_2 wX3_readWord) rfl rfl rfl hX3_readWord ⟨Nat.le_of_ble_eq_true rfl, Nat.le_of_ble_eq_true rfl⟩) ⟨kP_blind NW_blind, va_recv hK hP (ci := 1) (q0 := 1) rfl rfl, kP_pre NW_warm hP hK hN⟩ rfl rfl hl.1 rfl (lv_room (Nat.le_of_ble_eq_true rfl)) dX3_readPart_2 ⟨Nat.zero_le _, Nat.zero_le _⟩) ?_
  refine lv_iload_n hx hb dX3_readPart_5 rfl (lv_at hl 1 rfl) ?_
  refine k_ri (va_runS (As := [.int p0]) (rest := [.int (fX3_readWord p0 x)]) ⟨hx, hb, hml, hown, hB⟩ (mX3_shift l p0) (va_cwS 1 hB (gS q_t2_109 q_t2_110 q_t1_2 wX3_shift) rfl rfl rfl hX3_shift.2 ⟨Nat.le_of_ble_eq_true rfl, Nat.le_of_ble_eq_true rfl⟩) ⟨fun _ _ _ _ q => q, fun U _ _ => ⟨rfl, trivial⟩⟩ rfl rfl hl.1 rfl (lv_room (Nat.le_of_ble_eq_true rfl)) dX3_readPart_6 ⟨Nat.zero_le _, Nat.zero_le _⟩) ?_
  refine lv_iushr (v := ush (fX3_readWord p0 x) (fX3_shift p0)) hx hb dX3_readPart_9 rfl ?_
  refine lv_istore_n (lv' := [(3, .int (ush (fX3_readWord p0 x) (fX3_shift p0))), (0, .ref aM), (1, .int p0), (2, .int p1)]) hx hb dX3_readPart_10 rfl hl (by decide) rfl (fun ls hl => ?_)
  refine lv_iload_n hx hb dX3_readPart_11 rfl (lv_at hl 3 rfl) ?_
  by_cases c_12_0 : p1 = (0 : Int32)
  · refine lv_tableIn (off := 40) (tgt := 52) hx hb dX3_readPart_12 (by rw [c_12_0]; decide) (by rw [c_12_0]; decide) (by rw [c_12_0]; rfl) (by decide) ?_
    refine lv_iload_n hx hb dX3_readPart_52 rfl (lv_at hl 0 rfl) ?_
    refine lv_i2b (v := (ush (fX3_readWord p0 x) (fX3_shift p0)).toInt8.toInt32) hx hb dX3_readPart_53 rfl ?_
    exact W.iret (v := (ush (fX3_readWord p0 x) (fX3_shift p0)).toInt8.toInt32) hx hb hr (fun t ht hW => ⟨congrArg (fun z => Outcome.returned (some (Value.int z))) (by unfold fX3_readPart; rw [if_pos c_12_0] <;> rfl), ht⟩) (fun q h => nomatch h) dX3_readPart_54
  by_cases c_12_1 : p1 = (1 : Int32)
  · refine lv_tableIn (off := 43) (tgt := 55) hx hb dX3_readPart_12 (by rw [c_12_1]; decide) (by rw [c_12_1]; decide) (by rw [c_12_1]; rfl) (by decide) ?_
    refine lv_iload_n hx hb dX3_readPart_55 rfl (lv_at hl 0 rfl) ?_
    refine lv_i2s (v := (ush (fX3_readWord p0 x) (fX3_shift p0)).toInt16.toInt32) hx hb dX3_readPart_56 rfl ?_
    exact W.iret (v := (ush (fX3_readWord p0 x) (fX3_shift p0)).toInt16.toInt32) hx hb hr (fun t ht hW => ⟨congrArg (fun z => Outcome.returned (some (Value.int z))) (by unfold fX3_readPart; rw [if_neg c_12_0, if_pos c_12_1] <;> rfl), ht⟩) (fun q h => nomatch h) dX3_readPart_57
  by_cases c_12_2 : p1 = (2 : Int32)
  · refine lv_tableIn (off := 57) (tgt := 69) hx hb dX3_readPart_12 (by rw [c_12_2]; decide) (by rw [c_12_2]; decide) (by rw [c_12_2]; rfl) (by decide) ?_
    refine lv_iload_n hx hb dX3_readPart_69 rfl (lv_at hl 0 rfl) ?_
    exact W.iret (v := ush (fX3_readWord p0 x) (fX3_shift p0)) hx hb hr (fun t ht hW => ⟨congrArg (fun z => Outcome.returned (some (Value.int z))) (by unfold fX3_readPart; rw [if_neg c_12_0, if_neg c_12_1, if_pos c_12_2] <;> rfl), ht⟩) (fun q h => nomatch h) dX3_readPart_70
  by_cases c_12_3 : p1 = (3 : Int32)
  · refine lv_tableIn (off := 57) (tgt := 69) hx hb dX3_readPart_12 (by rw [c_12_3]; decide) (by rw [c_12_3]; decide) (by rw [c_12_3]; rfl) (by decide) ?_
    refine lv_iload_n hx hb dX3_readPart_69 rfl (lv_at hl 0 rfl) ?_
    exact W.iret (v := ush (fX3_readWord p0 x) (fX3_shift p0)) hx hb hr (fun t ht hW => ⟨congrArg (fun z => Outcome.returned (some (Value.int z))) (by unfold fX3_readPart; rw [if_neg c_12_0, if_neg c_12_1, if_neg c_12_2, if_pos c_12_3] <;> rfl), ht⟩) (fun q h => nomatch h) dX3_readPart_70
  by_cases c_12_4 : p1 = (4 : Int32)
  · refine lv_tableIn (off := 46) (tgt := 58) hx hb dX3_readPart_12 (by rw [c_12_4]; decide) (by rw [c_12_4]; decide) (by rw [c_12_4]; rfl) (by decide) ?_
    refine lv_iload_n hx hb dX3_readPart_58 rfl (lv_at hl 0 rfl) ?_
    refine lv_sipush (v := 255) hx hb dX3_readPart_59 (by decide) ?_
    refine lv_iand hx hb dX3_readPart_62 ?_
    exact W.iret (v := (ush (fX3_readWord p0 x) (fX3_shift p0)) &&& (255 : Int32)) hx hb hr (fun t ht hW => ⟨congrArg (fun z => Outcome.returned (some (Value.int z))) (by unfold fX3_readPart; rw [if_neg c_12_0, if_neg c_12_1, if_neg c_12_2, if_neg c_12_3, if_pos c_12_4] <;> rfl), ht⟩) (fun q h => nomatch h) dX3_readPart_63
  by_cases c_12_5 : p1 = (5 : Int32)
  · refine lv_tableIn (off := 52) (tgt := 64) hx hb dX3_readPart_12 (by rw [c_12_5]; decide) (by rw [c_12_5]; decide) (by rw [c_12_5]; rfl) (by decide) ?_
    refine lv_iload_n hx hb dX3_readPart_64 rfl (lv_at hl 0 rfl) ?_
    refine lv_ldc (v := 65535) hx hb hown (hB _ q_t2_112) dX3_readPart_65 ?_
    refine lv_iand hx hb dX3_readPart_67 ?_
    exact W.iret (v := (ush (fX3_readWord p0 x) (fX3_shift p0)) &&& (65535 : Int32)) hx hb hr (fun t ht hW => ⟨congrArg (fun z => Outcome.returned (some (Value.int z))) (by unfold fX3_readPart; rw [if_neg c_12_0, if_neg c_12_1, if_neg c_12_2, if_neg c_12_3, if_neg c_12_4, if_pos c_12_5] <;> rfl), ht⟩) (fun q h => nomatch h) dX3_readPart_68
  refine lv_tableOut (tgt := 69) hx hb dX3_readPart_12 (by have h0 := lv_neT (a := 0) c_12_0 (by decide); have h1 := lv_neT (a := 1) c_12_1 (by decide); have h2 := lv_neT (a := 2) c_12_2 (by decide); have h3 := lv_neT (a := 3) c_12_3 (by decide); have h4 := lv_neT (a := 4) c_12_4 (by decide); have h5 := lv_neT (a := 5) c_12_5 (by decide); omega) (by decide) ?_
  refine lv_iload_n hx hb dX3_readPart_69 rfl (lv_at hl 0 rfl) ?_
  exact W.iret (v := ush (fX3_readWord p0 x) (fX3_shift p0)) hx hb hr (fun t ht hW => ⟨congrArg (fun z => Outcome.returned (some (Value.int z))) (by unfold fX3_readPart; rw [if_neg c_12_0, if_neg c_12_1, if_neg c_12_2, if_neg c_12_3, if_neg c_12_4, if_neg c_12_5] <;> rfl), ht⟩) (fun q h => nomatch h) dX3_readPart_70
def fX3_writePart (p0 : Int32) (p1 : Int32) (p2 : Int32) (x : St) : St := fX3_writeWord p0 (((fX3_readWord p0 x) &&& (((fX3_partMask p1) <<< ((fX3_shift p0) &&& 31)) ^^^ (-1 : Int32))) ||| ((p2 <<< ((fX3_shift p0) &&& 31)) &&& ((fX3_partMask p1) <<< ((fX3_shift p0) &&& 31)))) x
set_option maxHeartbeats 4000000 in
set_option maxRecDepth 100000 in
theorem mX3_writePart (l : Launch) (dC : Nat → ClassId) (dI : Nat → Nat → Nat) (aH aM aW aC aR iW iR : Nat) (sz : Nat) (x : St) (p0 : Int32) (p1 : Int32) (p2 : Int32) : Met l yX3_writePart wsX3_writePart ({ frames := 1, cells := 0, slots := 0, locals := 23 }) (va_Pc [.ref aM, .int p0, .int p1, .int p2] (kM (dC, dI) [(iW, .int), (iR, .int)] NW (wD aH aM aW aC aR iW iR x) sz)) (va_Qv (fun u => u = fX3_writePart p0 p1 p2 x) (fun u t => va_P (dC, dI) vwCl (wD aH aM aW aC aR iW iR u) t.heap) (va_A (wD aH aM aW aC aR iW iR x) sz)) 0 0 (va_A (wD aH aM aW aC aR iW iR x) sz) := by
  refine Met.ofW (cc := cX3_writePart) (maxL := 6) (ret := none) (by decide) rfl ?_
  intro p e s m args below meth c s₁ B hml hv
  obtain ⟨rfl, hsz, hD0, hP, hK, hN⟩ := hv
  have hx := B.exec
  have hb := B.bytes
  have hr := B.returns
  have hB := fun (w : Cond) (h : w ∈ BIG) => atoms_spec (ws := wsX3_writePart) B.pre w (List.mem_cons_of_mem _ h)
  have hown : s.vm.findClass RX3 = some m.cls := findClass_of_methodNamed B.named
  have hlocks := B.notSynchronized
  subst hsz
  have hD := hD0.self (sz := s.heap.size)
  generalize hAe : va_A (wD aH aM aW aC aR iW iR x) s.heap.size = A at hD ⊢
  have hA : ∀ q : Nat, s.heap.size ≤ q → A q := fun q h => by rw [← hAe]; exact Or.inr h
  have hS : va_S A s.heap s.heap [] := va_S.rf
  have hl := lv_entry ([.ref aM, .int p0, .int p1, .int p2]) (n := 6) (Nat.le_of_ble_eq_true rfl)
  rw [lg_entry_eq]
  generalize (lg_sl ([.ref aM, .int p0, .int p1, .int p2]) ++ List.replicate (6 - (lg_sl ([.ref aM, .int p0, .int p1, .int p2])).length) Slot.unset).toArray = ls at hl ⊢
  have hl : lv_has ls 6 [(0, .ref aM), (1, .int p0), (2, .int p1), (3, .int p2)] := hl
  refine lv_iload_n hx hb dX3_writePart_0 rfl (lv_at hl 2 rfl) ?_
  refine k_ri (va_runS (As := [.int p1]) (rest := []) ⟨hx, hb, hml, hown, hB⟩ (mX3_partMask l p1) (va_cwS 1 hB (gS q_t2_125 q_t2_126 q_t1_2 wX3_partMask) rfl rfl rfl hX3_partMask.2 ⟨Nat.le_of_ble_eq_true rfl, Nat.le_of_ble_eq_true rfl⟩) ⟨fun _ _ _ _ q => q, fun U _ _ => ⟨rfl, trivial⟩⟩ rfl rfl hl.1 rfl (lv_room (Nat.le_of_ble_eq_true rfl)) dX3_writePart_1 ⟨Nat.zero_le _, Nat.zero_le _⟩) ?_
  refine lv_iload_n hx hb dX3_writePart_4 rfl (lv_at hl 1 rfl) ?_
  refine k_ri (va_runS (As := [.int p0]) (rest := [.int (fX3_partMask p1)]) ⟨hx, hb, hml, hown, hB⟩ (mX3_shift l p0) (va_cwS 1 hB (gS q_t2_109 q_t2_110 q_t1_2 wX3_shift) rfl rfl rfl hX3_shift.2 ⟨Nat.le_of_ble_eq_true rfl, Nat.le_of_ble_eq_true rfl⟩) ⟨fun _ _ _ _ q => q, fun U _ _ => ⟨rfl, trivial⟩⟩ rfl rfl hl.1 rfl (lv_room (Nat.le_of_ble_eq_true rfl)) dX3_writePart_5 ⟨Nat.zero_le _, Nat.zero_le _⟩) ?_
  refine lv_ishl hx hb dX3_writePart_8 ?_
  refine lv_istore (lv' := [(4, .int ((fX3_partMask p1) <<< ((fX3_shift p0) &&& 31))), (0, .ref aM), (1, .int p0), (2, .int p1), (3, .int p2)]) hx hb dX3_writePart_9 hl (by decide) rfl (fun ls hl => ?_)
  refine lv_aload_n hx hb dX3_writePart_11 rfl (lv_at hl 1 rfl) ?_
  refine lv_iload_n hx hb dX3_writePart_12 rfl (lv_at hl 2 rfl) ?_
  refine k_ri (va_runV (As := [.int p0]) (rest := []) ⟨hx, hb, hml, hown, hB⟩ (mX3_readWord l dC dI aH aM aW aC aR iW iR x p0) (cwV 1 hB (gV q_t2_108 q_t2_21 q_s_11 q_t1_2 wX3_readWord) rfl rfl rfl hX3_readWord ⟨Nat.le_of_ble_eq_true rfl, Nat.le_of_ble_eq_true rfl⟩) ⟨kP_blind NW_blind, va_recv hK hP (ci := 1) (q0 := 1) rfl rfl, kP_pre NW_warm hP hK hN⟩ rfl rfl hl.1 rfl (lv_room (Nat.le_of_ble_eq_true rfl)) dX3_writePart_13 ⟨Nat.zero_le _, Nat.zero_le _⟩) ?_
  refine lv_iload hx hb dX3_writePart_16 (lv_at hl 0 rfl) ?_
  refine lv_iconst (v := -1) hx hb dX3_writePart_18 (by decide) ?_
  refine lv_ixor hx hb dX3_writePart_19 ?_
  refine lv_iand hx hb dX3_writePart_20 ?_
  refine lv_istore (lv' := [(5, .int ((fX3_readWord p0 x) &&& (((fX3_partMask p1) <<< ((fX3_shift p0) &&& 31)) ^^^ (-1 : Int32)))), (4, .int ((fX3_partMask p1) <<< ((fX3_shift p0) &&& 31))), (0, .ref aM), (1, .int p0), (2, .int p1), (3, .int p2)]) hx hb dX3_writePart_21 hl (by decide) rfl (fun ls hl => ?_)
  refine lv_aload_n hx hb dX3_writePart_23 rfl (lv_at hl 2 rfl) ?_
  refine lv_iload_n hx hb dX3_writePart_24 rfl (lv_at hl 3 rfl) ?_
  refine lv_iload hx hb dX3_writePart_25 (lv_at hl 0 rfl) ?_
  refine lv_iload_n hx hb dX3_writePart_27 rfl (lv_at hl 5 rfl) ?_
  refine lv_iload_n hx hb dX3_writePart_28 rfl (lv_at hl 3 rfl) ?_
  refine k_ri (va_runS (As := [.int p0]) (rest := [.int p2, .int ((fX3_readWord p0 x) &&& (((fX3_partMask p1) <<< ((fX3_shift p0) &&& 31)) ^^^ (-1 : Int32))), .int p0, .ref aM]) ⟨hx, hb, hml, hown, hB⟩ (mX3_shift l p0) (va_cwS 1 hB (gS q_t2_109 q_t2_110 q_t1_2 wX3_shift) rfl rfl rfl hX3_shift.2 ⟨Nat.le_of_ble_eq_true rfl, Nat.le_of_ble_eq_true rfl⟩) ⟨fun _ _ _ _ q => q, fun U _ _ => ⟨rfl, trivial⟩⟩ rfl rfl hl.1 rfl (lv_room (Nat.le_of_ble_eq_true rfl)) dX3_writePart_29 ⟨Nat.zero_le _, Nat.zero_le _⟩) ?_
  refine lv_ishl hx hb dX3_writePart_32 ?_
  refine lv_iload hx hb dX3_writePart_33 (lv_at hl 1 rfl) ?_
  refine lv_iand hx hb dX3_writePart_35 ?_
  refine lv_ior hx hb dX3_writePart_36 ?_
  refine k_mv (w := wD aH aM aW aC aR iW iR) wD_ad (va_runV (As := [.int p0, .int (((fX3_readWord p0 x) &&& (((fX3_partMask p1) <<< ((fX3_shift p0) &&& 31)) ^^^ (-1 : Int32))) ||| ((p2 <<< ((fX3_shift p0) &&& 31)) &&& ((fX3_partMask p1) <<< ((fX3_shift p0) &&& 31))))]) (rest := []) ⟨hx, hb, hml, hown, hB⟩ (mX3_writeWord l dC dI aH aM aW aC aR iW iR s.heap.size x p0 (((fX3_readWord p0 x) &&& (((fX3_partMask p1) <<< ((fX3_shift p0) &&& 31)) ^^^ (-1 : Int32))) ||| ((p2 <<< ((fX3_shift p0) &&& 31)) &&& ((fX3_partMask p1) <<< ((fX3_shift p0) &&& 31))))) (cwV 2 hB (gV q_t2_128 q_t1_104 q_s_0 q_t1_2 wX3_writeWord) rfl rfl rfl hX3_writeWord ⟨Nat.le_of_ble_eq_true rfl, Nat.le_of_ble_eq_true rfl⟩) ⟨kM_blind NW_blind, va_recv hK hP (ci := 1) (q0 := 1) rfl rfl, kM_pre NW_warm hP hK hD hN⟩ rfl rfl hl.1 rfl (lv_room (Nat.le_of_ble_eq_true rfl)) dX3_writePart_37 ⟨Nat.zero_le _, Nat.zero_le _⟩) hD hS hA (fun u H locs hw hP hD hS => ?_)
  obtain rfl := hw
  exact W.vret hx hb hr (fun t ht hW => ⟨⟨(fX3_writeWord p0 (((fX3_readWord p0 x) &&& (((fX3_partMask p1) <<< ((fX3_shift p0) &&& 31)) ^^^ (-1 : Int32))) ||| ((p2 <<< ((fX3_shift p0) &&& 31)) &&& ((fX3_partMask p1) <<< ((fX3_shift p0) &&& 31)))) x), rfl, rfl, hpT ht hP⟩, hS.F ht⟩) hS.2.2 dX3_writePart_40
def fX2_read (p0 : Int32) (x : St) : Int32 := if p0 = (768 : Int32) then
    g_status x
  else
    if p0 = (772 : Int32) then
      g_enabled x
    else
      if p0 = (773 : Int32) then
        g_vector x
      else
        if p0 = (832 : Int32) then
          g_scratch x
        else
          if p0 = (833 : Int32) then
            g_back x
          else
            if p0 = (834 : Int32) then
              g_cause x
            else
              if p0 = (835 : Int32) then
                g_value x
              else
                if p0 = (836 : Int32) then
                  if (bi (g_line x)) = 0 then
                    (0 : Int32)
                  else
                    (2048 : Int32)
                else
                  g_done x
set_option maxHeartbeats 4000000 in
set_option maxRecDepth 100000 in
theorem mX2_read (l : Launch) (dC : Nat → ClassId) (dI : Nat → Nat → Nat) (aH aM aW aC aR iW iR : Nat) (x : St) (p0 : Int32) : Met l yX2_read wsX2_read ({ frames := 0, cells := 0, slots := 0, locals := 0 }) (va_Pc [.ref aC, .int p0] (kP (dC, dI) [(iW, .int), (iR, .int)] NW (wD aH aM aW aC aR iW iR x))) (QcRead ((fX2_read p0 x))) 0 0 (fun _ => False) := by
  refine Met.ofW (cc := cX2_read) (maxL := 2) (ret := (some .int)) (by decide) rfl ?_
  intro p e s m args below meth c s₁ B hml hv
  obtain ⟨rfl, hP, hK, hN⟩ := hv
  have hx := B.exec
  have hb := B.bytes
  have hr := B.returns
  have hB := fun (w : Cond) (h : w ∈ BIG) => atoms_spec (ws := wsX2_read) B.pre w (List.mem_cons_of_mem _ h)
  have hown : s.vm.findClass RX2 = some m.cls := findClass_of_methodNamed B.named
  have hlocks := B.notSynchronized
  have hl := lv_entry ([.ref aC, .int p0]) (n := 2) (Nat.le_of_ble_eq_true rfl)
  rw [lg_entry_eq]
  generalize (lg_sl ([.ref aC, .int p0]) ++ List.replicate (2 - (lg_sl ([.ref aC, .int p0])).length) Slot.unset).toArray = ls at hl ⊢
  have hl : lv_has ls 2 [(0, .ref aC), (1, .int p0)] := hl
  refine lv_iload_n hx hb dX2_read_0 rfl (lv_at hl 1 rfl) ?_
  by_cases c_1_768 : p0 = (768 : Int32)
  · refine lv_lookup (off := 75) (tgt := 76) hx hb dX2_read_1 (by decide) (by rw [c_1_768]; decide) (by decide) ?_
    refine lv_aload_n hx hb dX2_read_76 rfl (lv_at hl 0 rfl) ?_
    refine va_get (D := (dC, dI)) (ci := 0) (v := .int (g_status x)) (C := RX2) (T := TX2) (N := 9) hx hb hB iX2 hown hK hP 3 rfl rfl 0 (by decide) (hB _ q_t1_39) (fun _ h9 => h9) rfl dX2_read_77 ?_
    exact W.iret (v := g_status x) hx hb hr (fun t ht hW => ⟨congrArg (fun z => Outcome.returned (some (Value.int z))) (by unfold fX2_read; rw [if_pos c_1_768] <;> rfl), ht⟩) (fun q h => nomatch h) dX2_read_80
  by_cases c_1_772 : p0 = (772 : Int32)
  · refine lv_lookup (off := 80) (tgt := 81) hx hb dX2_read_1 (by decide) (by rw [c_1_772]; decide) (by decide) ?_
    refine lv_aload_n hx hb dX2_read_81 rfl (lv_at hl 0 rfl) ?_
    refine va_get (D := (dC, dI)) (ci := 0) (v := .int (g_enabled x)) (C := RX2) (T := TX2) (N := 9) hx hb hB iX2 hown hK hP 3 rfl rfl 1 (by decide) (hB _ q_t1_40) (fun _ h9 => h9) rfl dX2_read_82 ?_
    exact W.iret (v := g_enabled x) hx hb hr (fun t ht hW => ⟨congrArg (fun z => Outcome.returned (some (Value.int z))) (by unfold fX2_read; rw [if_neg c_1_768, if_pos c_1_772] <;> rfl), ht⟩) (fun q h => nomatch h) dX2_read_85
  by_cases c_1_773 : p0 = (773 : Int32)
  · refine lv_lookup (off := 85) (tgt := 86) hx hb dX2_read_1 (by decide) (by rw [c_1_773]; decide) (by decide) ?_
    refine lv_aload_n hx hb dX2_read_86 rfl (lv_at hl 0 rfl) ?_
    refine va_get (D := (dC, dI)) (ci := 0) (v := .int (g_vector x)) (C := RX2) (T := TX2) (N := 9) hx hb hB iX2 hown hK hP 3 rfl rfl 2 (by decide) (hB _ q_t1_41) (fun _ h9 => h9) rfl dX2_read_87 ?_
    exact W.iret (v := g_vector x) hx hb hr (fun t ht hW => ⟨congrArg (fun z => Outcome.returned (some (Value.int z))) (by unfold fX2_read; rw [if_neg c_1_768, if_neg c_1_772, if_pos c_1_773] <;> rfl), ht⟩) (fun q h => nomatch h) dX2_read_90
  by_cases c_1_832 : p0 = (832 : Int32)
  · refine lv_lookup (off := 90) (tgt := 91) hx hb dX2_read_1 (by decide) (by rw [c_1_832]; decide) (by decide) ?_
    refine lv_aload_n hx hb dX2_read_91 rfl (lv_at hl 0 rfl) ?_
    refine va_get (D := (dC, dI)) (ci := 0) (v := .int (g_scratch x)) (C := RX2) (T := TX2) (N := 9) hx hb hB iX2 hown hK hP 3 rfl rfl 3 (by decide) (hB _ q_t1_43) (fun _ h9 => h9) rfl dX2_read_92 ?_
    exact W.iret (v := g_scratch x) hx hb hr (fun t ht hW => ⟨congrArg (fun z => Outcome.returned (some (Value.int z))) (by unfold fX2_read; rw [if_neg c_1_768, if_neg c_1_772, if_neg c_1_773, if_pos c_1_832] <;> rfl), ht⟩) (fun q h => nomatch h) dX2_read_95
  by_cases c_1_833 : p0 = (833 : Int32)
  · refine lv_lookup (off := 95) (tgt := 96) hx hb dX2_read_1 (by decide) (by rw [c_1_833]; decide) (by decide) ?_
    refine lv_aload_n hx hb dX2_read_96 rfl (lv_at hl 0 rfl) ?_
    refine va_get (D := (dC, dI)) (ci := 0) (v := .int (g_back x)) (C := RX2) (T := TX2) (N := 9) hx hb hB iX2 hown hK hP 3 rfl rfl 4 (by decide) (hB _ q_t1_44) (fun _ h9 => h9) rfl dX2_read_97 ?_
    exact W.iret (v := g_back x) hx hb hr (fun t ht hW => ⟨congrArg (fun z => Outcome.returned (some (Value.int z))) (by unfold fX2_read; rw [if_neg c_1_768, if_neg c_1_772, if_neg c_1_773, if_neg c_1_832, if_pos c_1_833] <;> rfl), ht⟩) (fun q h => nomatch h) dX2_read_100
  by_cases c_1_834 : p0 = (834 : Int32)
  · refine lv_lookup (off := 100) (tgt := 101) hx hb dX2_read_1 (by decide) (by rw [c_1_834]; decide) (by decide) ?_
    refine lv_aload_n hx hb dX2_read_101 rfl (lv_at hl 0 rfl) ?_
    refine va_get (D := (dC, dI)) (ci := 0) (v := .int (g_cause x)) (C := RX2) (T := TX2) (N := 9) hx hb hB iX2 hown hK hP 3 rfl rfl 5 (by decide) (hB _ q_t1_45) (fun _ h9 => h9) rfl dX2_read_102 ?_
    exact W.iret (v := g_cause x) hx hb hr (fun t ht hW => ⟨congrArg (fun z => Outcome.returned (some (Value.int z))) (by unfold fX2_read; rw [if_neg c_1_768, if_neg c_1_772, if_neg c_1_773, if_neg c_1_832, if_neg c_1_833, if_pos c_1_834] <;> rfl), ht⟩) (fun q h => nomatch h) dX2_read_105
  by_cases c_1_835 : p0 = (835 : Int32)
  · refine lv_lookup (off := 105) (tgt := 106) hx hb dX2_read_1 (by decide) (by rw [c_1_835]; decide) (by decide) ?_
    refine lv_aload_n hx hb dX2_read_106 rfl (lv_at hl 0 rfl) ?_
    refine va_get (D := (dC, dI)) (ci := 0) (v := .int (g_value x)) (C := RX2) (T := TX2) (N := 9) hx hb hB iX2 hown hK hP 3 rfl rfl 6 (by decide) (hB _ q_t1_46) (fun _ h9 => h9) rfl dX2_read_107 ?_
    exact W.iret (v := g_value x) hx hb hr (fun t ht hW => ⟨congrArg (fun z => Outcome.returned (some (Value.int z))) (by unfold fX2_read; rw [if_neg c_1_768, if_neg c_1_772, if_neg c_1_773, if_neg c_1_832, if_neg c_1_833, if_neg c_1_834, if_pos c_1_835] <;> rfl), ht⟩) (fun q h => nomatch h) dX2_read_110
  by_cases c_1_836 : p0 = (836 : Int32)
  · refine lv_lookup (off := 110) (tgt := 111) hx hb dX2_read_1 (by decide) (by rw [c_1_836]; decide) (by decide) ?_
    refine lv_aload_n hx hb dX2_read_111 rfl (lv_at hl 0 rfl) ?_
    refine va_get (D := (dC, dI)) (ci := 0) (v := .int (bi (g_line x))) (C := RX2) (T := TX2) (N := 9) hx hb hB iX2 hown hK hP 3 rfl rfl 8 (by decide) (hB _ q_t1_50) (fun _ h9 => h9) rfl dX2_read_112 ?_
    refine lv_if_eq (tgt := 124) hx hb dX2_read_115 (by decide) (fun c_115 => ?_) (fun c_115 => ?_)
    · refine lv_iconst (v := 0) hx hb dX2_read_124 (by decide) ?_
      exact W.iret (v := (0 : Int32)) hx hb hr (fun t ht hW => ⟨congrArg (fun z => Outcome.returned (some (Value.int z))) (by unfold fX2_read; rw [if_neg c_1_768, if_neg c_1_772, if_neg c_1_773, if_neg c_1_832, if_neg c_1_833, if_neg c_1_834, if_neg c_1_835, if_pos c_1_836, if_pos c_115] <;> rfl), ht⟩) (fun q h => nomatch h) dX2_read_125
    · refine lv_sipush (v := 2048) hx hb dX2_read_118 (by decide) ?_
      refine lv_goto (tgt := 125) hx hb dX2_read_121 (by decide) ?_
      exact W.iret (v := (2048 : Int32)) hx hb hr (fun t ht hW => ⟨congrArg (fun z => Outcome.returned (some (Value.int z))) (by unfold fX2_read; rw [if_neg c_1_768, if_neg c_1_772, if_neg c_1_773, if_neg c_1_832, if_neg c_1_833, if_neg c_1_834, if_neg c_1_835, if_pos c_1_836, if_neg c_115] <;> rfl), ht⟩) (fun q h => nomatch h) dX2_read_125
  refine lv_lookup (off := 125) (tgt := 126) hx hb dX2_read_1 (by decide) ((lv_osw c_1_768 (by decide)).trans ((lv_osw c_1_772 (by decide)).trans ((lv_osw c_1_773 (by decide)).trans ((lv_osw c_1_832 (by decide)).trans ((lv_osw c_1_833 (by decide)).trans ((lv_osw c_1_834 (by decide)).trans ((lv_osw c_1_835 (by decide)).trans ((lv_osw c_1_836 (by decide)).trans rfl)))))))) (by decide) ?_
  refine lv_aload_n hx hb dX2_read_126 rfl (lv_at hl 0 rfl) ?_
  refine va_get (D := (dC, dI)) (ci := 0) (v := .int (g_done x)) (C := RX2) (T := TX2) (N := 9) hx hb hB iX2 hown hK hP 3 rfl rfl 7 (by decide) (hB _ q_t1_47) (fun _ h9 => h9) rfl dX2_read_127 ?_
  exact W.iret (v := g_done x) hx hb hr (fun t ht hW => ⟨congrArg (fun z => Outcome.returned (some (Value.int z))) (by unfold fX2_read; rw [if_neg c_1_768, if_neg c_1_772, if_neg c_1_773, if_neg c_1_832, if_neg c_1_833, if_neg c_1_834, if_neg c_1_835, if_neg c_1_836] <;> rfl), ht⟩) (fun q h => nomatch h) dX2_read_130
def fX2_write (p0 : Int32) (p1 : Int32) (x : St) : St := if p0 = (768 : Int32) then
    s_status x (p1 &&& (136 : Int32))
  else
    if p0 = (772 : Int32) then
      s_enabled x (p1 &&& (2048 : Int32))
    else
      if p0 = (773 : Int32) then
        s_vector x (p1 &&& (-4 : Int32))
      else
        if p0 = (832 : Int32) then
          s_scratch x p1
        else
          if p0 = (833 : Int32) then
            s_back x (p1 &&& (-4 : Int32))
          else
            if p0 = (834 : Int32) then
              s_cause x p1
            else
              if p0 = (835 : Int32) then
                s_value x p1
              else
                x
set_option maxHeartbeats 4000000 in
set_option maxRecDepth 100000 in
theorem mX2_write (l : Launch) (dC : Nat → ClassId) (dI : Nat → Nat → Nat) (aH aM aW aC aR iW iR : Nat) (sz : Nat) (x : St) (p0 : Int32) (p1 : Int32) : Met l yX2_write wsX2_write ({ frames := 0, cells := 0, slots := 0, locals := 0 }) (va_Pc [.ref aC, .int p0, .int p1] (kM (dC, dI) [(iW, .int), (iR, .int)] NW (wD aH aM aW aC aR iW iR x) sz)) (va_Qv (fun u => u = fX2_write p0 p1 x) (fun u t => va_P (dC, dI) vwCl (wD aH aM aW aC aR iW iR u) t.heap) (va_A (wD aH aM aW aC aR iW iR x) sz)) 0 0 (va_A (wD aH aM aW aC aR iW iR x) sz) := by
  refine Met.ofW (cc := cX2_write) (maxL := 3) (ret := none) (by decide) rfl ?_
  intro p e s m args below meth c s₁ B hml hv
  obtain ⟨rfl, hsz, hD0, hP, hK, hN⟩ := hv
  have hx := B.exec
  have hb := B.bytes
  have hr := B.returns
  have hB := fun (w : Cond) (h : w ∈ BIG) => atoms_spec (ws := wsX2_write) B.pre w (List.mem_cons_of_mem _ h)
  have hown : s.vm.findClass RX2 = some m.cls := findClass_of_methodNamed B.named
  have hlocks := B.notSynchronized
  subst hsz
  have hD := hD0.self (sz := s.heap.size)
  generalize hAe : va_A (wD aH aM aW aC aR iW iR x) s.heap.size = A at hD ⊢
  have hA : ∀ q : Nat, s.heap.size ≤ q → A q := fun q h => by rw [← hAe]; exact Or.inr h
  have hS : va_S A s.heap s.heap [] := va_S.rf
  have hl := lv_entry ([.ref aC, .int p0, .int p1]) (n := 3) (Nat.le_of_ble_eq_true rfl)
  rw [lg_entry_eq]
  generalize (lg_sl ([.ref aC, .int p0, .int p1]) ++ List.replicate (3 - (lg_sl ([.ref aC, .int p0, .int p1])).length) Slot.unset).toArray = ls at hl ⊢
  have hl : lv_has ls 3 [(0, .ref aC), (1, .int p0), (2, .int p1)] := hl
  refine lv_iload_n hx hb dX2_write_0 rfl (lv_at hl 1 rfl) ?_
  by_cases c_1_768 : p0 = (768 : Int32)
  · refine lv_lookup (off := 67) (tgt := 68) hx hb dX2_write_1 (by decide) (by rw [c_1_768]; decide) (by decide) ?_
    refine lv_aload_n hx hb dX2_write_68 rfl (lv_at hl 0 rfl) ?_
    refine lv_iload_n hx hb dX2_write_69 rfl (lv_at hl 2 rfl) ?_
    refine lv_sipush (v := 136) hx hb dX2_write_70 (by decide) ?_
    refine lv_iand hx hb dX2_write_73 ?_
    refine va_put (D := (dC, dI)) (ci := 0) (v := .int (p1 &&& (136 : Int32))) (ty := .int) (C := RX2) (T := TX2) (N := 9) hx hb hB iX2 tyX2 tyX2_ok nmX2 hown hK hP hD hS 3 rfl rfl 0 (by decide) (hB _ q_t1_39) (fun _ h9 => h9) rfl (by decide +kernel) rfl rfl (Nat.le_of_ble_eq_true rfl) dX2_write_74 (fun H locs hP hD hS => ?_)
    have hP : va_P (dC, dI) vwCl (wD aH aM aW aC aR iW iR (s_status x (p1 &&& (136 : Int32)))) H := hP
    have hD : va_D A (wD aH aM aW aC aR iW iR (s_status x (p1 &&& (136 : Int32)))) := hD
    refine lv_goto (tgt := 138) hx hb dX2_write_77 (by decide) ?_
    exact W.vret hx hb hr (fun t ht hW => ⟨⟨(s_status x (p1 &&& (136 : Int32))), rfl, (by unfold fX2_write; rw [if_pos c_1_768] <;> rfl), hpT ht hP⟩, hS.F ht⟩) hS.2.2 dX2_write_138
  by_cases c_1_772 : p0 = (772 : Int32)
  · refine lv_lookup (off := 79) (tgt := 80) hx hb dX2_write_1 (by decide) (by rw [c_1_772]; decide) (by decide) ?_
    refine lv_aload_n hx hb dX2_write_80 rfl (lv_at hl 0 rfl) ?_
    refine lv_iload_n hx hb dX2_write_81 rfl (lv_at hl 2 rfl) ?_
    refine lv_sipush (v := 2048) hx hb dX2_write_82 (by decide) ?_
    refine lv_iand hx hb dX2_write_85 ?_
    refine va_put (D := (dC, dI)) (ci := 0) (v := .int (p1 &&& (2048 : Int32))) (ty := .int) (C := RX2) (T := TX2) (N := 9) hx hb hB iX2 tyX2 tyX2_ok nmX2 hown hK hP hD hS 3 rfl rfl 1 (by decide) (hB _ q_t1_40) (fun _ h9 => h9) rfl (by decide +kernel) rfl rfl (Nat.le_of_ble_eq_true rfl) dX2_write_86 (fun H locs hP hD hS => ?_)
    have hP : va_P (dC, dI) vwCl (wD aH aM aW aC aR iW iR (s_enabled x (p1 &&& (2048 : Int32)))) H := hP
    have hD : va_D A (wD aH aM aW aC aR iW iR (s_enabled x (p1 &&& (2048 : Int32)))) := hD
    refine lv_goto (tgt := 138) hx hb dX2_write_89 (by decide) ?_
    exact W.vret hx hb hr (fun t ht hW => ⟨⟨(s_enabled x (p1 &&& (2048 : Int32))), rfl, (by unfold fX2_write; rw [if_neg c_1_768, if_pos c_1_772] <;> rfl), hpT ht hP⟩, hS.F ht⟩) hS.2.2 dX2_write_138
  by_cases c_1_773 : p0 = (773 : Int32)
  · refine lv_lookup (off := 91) (tgt := 92) hx hb dX2_write_1 (by decide) (by rw [c_1_773]; decide) (by decide) ?_
    refine lv_aload_n hx hb dX2_write_92 rfl (lv_at hl 0 rfl) ?_
    refine lv_iload_n hx hb dX2_write_93 rfl (lv_at hl 2 rfl) ?_
    refine lv_bipush (v := -4) hx hb dX2_write_94 (by decide) ?_
    refine lv_iand hx hb dX2_write_96 ?_
    refine va_put (D := (dC, dI)) (ci := 0) (v := .int (p1 &&& (-4 : Int32))) (ty := .int) (C := RX2) (T := TX2) (N := 9) hx hb hB iX2 tyX2 tyX2_ok nmX2 hown hK hP hD hS 3 rfl rfl 2 (by decide) (hB _ q_t1_41) (fun _ h9 => h9) rfl (by decide +kernel) rfl rfl (Nat.le_of_ble_eq_true rfl) dX2_write_97 (fun H locs hP hD hS => ?_)
    have hP : va_P (dC, dI) vwCl (wD aH aM aW aC aR iW iR (s_vector x (p1 &&& (-4 : Int32)))) H := hP
    have hD : va_D A (wD aH aM aW aC aR iW iR (s_vector x (p1 &&& (-4 : Int32)))) := hD
    refine lv_goto (tgt := 138) hx hb dX2_write_100 (by decide) ?_
    exact W.vret hx hb hr (fun t ht hW => ⟨⟨(s_vector x (p1 &&& (-4 : Int32))), rfl, (by unfold fX2_write; rw [if_neg c_1_768, if_neg c_1_772, if_pos c_1_773] <;> rfl), hpT ht hP⟩, hS.F ht⟩) hS.2.2 dX2_write_138
  by_cases c_1_832 : p0 = (832 : Int32)
  · refine lv_lookup (off := 102) (tgt := 103) hx hb dX2_write_1 (by decide) (by rw [c_1_832]; decide) (by decide) ?_
    refine lv_aload_n hx hb dX2_write_103 rfl (lv_at hl 0 rfl) ?_
    refine lv_iload_n hx hb dX2_write_104 rfl (lv_at hl 2 rfl) ?_
    refine va_put (D := (dC, dI)) (ci := 0) (v := .int p1) (ty := .int) (C := RX2) (T := TX2) (N := 9) hx hb hB iX2 tyX2 tyX2_ok nmX2 hown hK hP hD hS 3 rfl rfl 3 (by decide) (hB _ q_t1_43) (fun _ h9 => h9) rfl (by decide +kernel) rfl rfl (Nat.le_of_ble_eq_true rfl) dX2_write_105 (fun H locs hP hD hS => ?_)
    have hP : va_P (dC, dI) vwCl (wD aH aM aW aC aR iW iR (s_scratch x p1)) H := hP
    have hD : va_D A (wD aH aM aW aC aR iW iR (s_scratch x p1)) := hD
    refine lv_goto (tgt := 138) hx hb dX2_write_108 (by decide) ?_
    exact W.vret hx hb hr (fun t ht hW => ⟨⟨(s_scratch x p1), rfl, (by unfold fX2_write; rw [if_neg c_1_768, if_neg c_1_772, if_neg c_1_773, if_pos c_1_832] <;> rfl), hpT ht hP⟩, hS.F ht⟩) hS.2.2 dX2_write_138
  by_cases c_1_833 : p0 = (833 : Int32)
  · refine lv_lookup (off := 110) (tgt := 111) hx hb dX2_write_1 (by decide) (by rw [c_1_833]; decide) (by decide) ?_
    refine lv_aload_n hx hb dX2_write_111 rfl (lv_at hl 0 rfl) ?_
    refine lv_iload_n hx hb dX2_write_112 rfl (lv_at hl 2 rfl) ?_
    refine lv_bipush (v := -4) hx hb dX2_write_113 (by decide) ?_
    refine lv_iand hx hb dX2_write_115 ?_
    refine va_put (D := (dC, dI)) (ci := 0) (v := .int (p1 &&& (-4 : Int32))) (ty := .int) (C := RX2) (T := TX2) (N := 9) hx hb hB iX2 tyX2 tyX2_ok nmX2 hown hK hP hD hS 3 rfl rfl 4 (by decide) (hB _ q_t1_44) (fun _ h9 => h9) rfl (by decide +kernel) rfl rfl (Nat.le_of_ble_eq_true rfl) dX2_write_116 (fun H locs hP hD hS => ?_)
    have hP : va_P (dC, dI) vwCl (wD aH aM aW aC aR iW iR (s_back x (p1 &&& (-4 : Int32)))) H := hP
    have hD : va_D A (wD aH aM aW aC aR iW iR (s_back x (p1 &&& (-4 : Int32)))) := hD
    refine lv_goto (tgt := 138) hx hb dX2_write_119 (by decide) ?_
    exact W.vret hx hb hr (fun t ht hW => ⟨⟨(s_back x (p1 &&& (-4 : Int32))), rfl, (by unfold fX2_write; rw [if_neg c_1_768, if_neg c_1_772, if_neg c_1_773, if_neg c_1_832, if_pos c_1_833] <;> rfl), hpT ht hP⟩, hS.F ht⟩) hS.2.2 dX2_write_138
  by_cases c_1_834 : p0 = (834 : Int32)
  · refine lv_lookup (off := 121) (tgt := 122) hx hb dX2_write_1 (by decide) (by rw [c_1_834]; decide) (by decide) ?_
    refine lv_aload_n hx hb dX2_write_122 rfl (lv_at hl 0 rfl) ?_
    refine lv_iload_n hx hb dX2_write_123 rfl (lv_at hl 2 rfl) ?_
    refine va_put (D := (dC, dI)) (ci := 0) (v := .int p1) (ty := .int) (C := RX2) (T := TX2) (N := 9) hx hb hB iX2 tyX2 tyX2_ok nmX2 hown hK hP hD hS 3 rfl rfl 5 (by decide) (hB _ q_t1_45) (fun _ h9 => h9) rfl (by decide +kernel) rfl rfl (Nat.le_of_ble_eq_true rfl) dX2_write_124 (fun H locs hP hD hS => ?_)
    have hP : va_P (dC, dI) vwCl (wD aH aM aW aC aR iW iR (s_cause x p1)) H := hP
    have hD : va_D A (wD aH aM aW aC aR iW iR (s_cause x p1)) := hD
    refine lv_goto (tgt := 138) hx hb dX2_write_127 (by decide) ?_
    exact W.vret hx hb hr (fun t ht hW => ⟨⟨(s_cause x p1), rfl, (by unfold fX2_write; rw [if_neg c_1_768, if_neg c_1_772, if_neg c_1_773, if_neg c_1_832, if_neg c_1_833, if_pos c_1_834] <;> rfl), hpT ht hP⟩, hS.F ht⟩) hS.2.2 dX2_write_138
  by_cases c_1_835 : p0 = (835 : Int32)
  · refine lv_lookup (off := 129) (tgt := 130) hx hb dX2_write_1 (by decide) (by rw [c_1_835]; decide) (by decide) ?_
    refine lv_aload_n hx hb dX2_write_130 rfl (lv_at hl 0 rfl) ?_
    refine lv_iload_n hx hb dX2_write_131 rfl (lv_at hl 2 rfl) ?_
    refine va_put (D := (dC, dI)) (ci := 0) (v := .int p1) (ty := .int) (C := RX2) (T := TX2) (N := 9) hx hb hB iX2 tyX2 tyX2_ok nmX2 hown hK hP hD hS 3 rfl rfl 6 (by decide) (hB _ q_t1_46) (fun _ h9 => h9) rfl (by decide +kernel) rfl rfl (Nat.le_of_ble_eq_true rfl) dX2_write_132 (fun H locs hP hD hS => ?_)
    have hP : va_P (dC, dI) vwCl (wD aH aM aW aC aR iW iR (s_value x p1)) H := hP
    have hD : va_D A (wD aH aM aW aC aR iW iR (s_value x p1)) := hD
    refine lv_goto (tgt := 138) hx hb dX2_write_135 (by decide) ?_
    exact W.vret hx hb hr (fun t ht hW => ⟨⟨(s_value x p1), rfl, (by unfold fX2_write; rw [if_neg c_1_768, if_neg c_1_772, if_neg c_1_773, if_neg c_1_832, if_neg c_1_833, if_neg c_1_834, if_pos c_1_835] <;> rfl), hpT ht hP⟩, hS.F ht⟩) hS.2.2 dX2_write_138
  refine lv_lookup (off := 137) (tgt := 138) hx hb dX2_write_1 (by decide) ((lv_osw c_1_768 (by decide)).trans ((lv_osw c_1_772 (by decide)).trans ((lv_osw c_1_773 (by decide)).trans ((lv_osw c_1_832 (by decide)).trans ((lv_osw c_1_833 (by decide)).trans ((lv_osw c_1_834 (by decide)).trans ((lv_osw c_1_835 (by decide)).trans rfl))))))) (by decide) ?_
  exact W.vret hx hb hr (fun t ht hW => ⟨⟨x, rfl, (by unfold fX2_write; rw [if_neg c_1_768, if_neg c_1_772, if_neg c_1_773, if_neg c_1_832, if_neg c_1_833, if_neg c_1_834, if_neg c_1_835] <;> rfl), hpT ht hP⟩, hS.F ht⟩) hS.2.2 dX2_write_138
def fX2_isInterrupted (x : St) : Bool := if ((g_status x) &&& (8 : Int32)) = 0 then
    false
  else
    if ((g_enabled x) &&& (2048 : Int32)) = 0 then
      false
    else
      if (bi (g_line x)) = 0 then
        false
      else
        true
set_option maxHeartbeats 4000000 in
set_option maxRecDepth 100000 in
theorem mX2_isInterrupted (l : Launch) (dC : Nat → ClassId) (dI : Nat → Nat → Nat) (aH aM aW aC aR iW iR : Nat) (x : St) : Met l yX2_isInterrupted wsX2_isInterrupted ({ frames := 0, cells := 0, slots := 0, locals := 0 }) (va_Pc [.ref aC] (kP (dC, dI) [(iW, .int), (iR, .int)] NW (wD aH aM aW aC aR iW iR x))) (QcRead (bi (fX2_isInterrupted x))) 0 0 (fun _ => False) := by
  refine Met.ofW (cc := cX2_isInterrupted) (maxL := 1) (ret := (some .boolean)) (by decide) rfl ?_
  intro p e s m args below meth c s₁ B hml hv
  obtain ⟨rfl, hP, hK, hN⟩ := hv
  have hx := B.exec
  have hb := B.bytes
  have hr := B.returns
  have hB := fun (w : Cond) (h : w ∈ BIG) => atoms_spec (ws := wsX2_isInterrupted) B.pre w (List.mem_cons_of_mem _ h)
  have hown : s.vm.findClass RX2 = some m.cls := findClass_of_methodNamed B.named
  have hlocks := B.notSynchronized
  have hl := lv_entry ([.ref aC]) (n := 1) (Nat.le_of_ble_eq_true rfl)
  rw [lg_entry_eq]
  generalize (lg_sl ([.ref aC]) ++ List.replicate (1 - (lg_sl ([.ref aC])).length) Slot.unset).toArray = ls at hl ⊢
  have hl : lv_has ls 1 [(0, .ref aC)] := hl
  refine lv_aload_n hx hb dX2_isInterrupted_0 rfl (lv_at hl 0 rfl) ?_
  refine va_get (D := (dC, dI)) (ci := 0) (v := .int (g_status x)) (C := RX2) (T := TX2) (N := 9) hx hb hB iX2 hown hK hP 3 rfl rfl 0 (by decide) (hB _ q_t1_39) (fun _ h9 => h9) rfl dX2_isInterrupted_1 ?_
  refine lv_bipush (v := 8) hx hb dX2_isInterrupted_4 (by decide) ?_
  refine lv_iand hx hb dX2_isInterrupted_6 ?_
  refine lv_if_eq (tgt := 32) hx hb dX2_isInterrupted_7 (by decide) (fun c_7 => ?_) (fun c_7 => ?_)
  · refine lv_iconst (v := 0) hx hb dX2_isInterrupted_32 (by decide) ?_
    exact W.zret (v := 0) hx hb hr rfl (fun t ht hW => ⟨congrArg (fun z => Outcome.returned (some (Value.int z))) (by unfold fX2_isInterrupted; rw [if_pos c_7] <;> rfl), ht⟩) (fun q h => nomatch h) dX2_isInterrupted_33
  · refine lv_aload_n hx hb dX2_isInterrupted_10 rfl (lv_at hl 0 rfl) ?_
    refine va_get (D := (dC, dI)) (ci := 0) (v := .int (g_enabled x)) (C := RX2) (T := TX2) (N := 9) hx hb hB iX2 hown hK hP 3 rfl rfl 1 (by decide) (hB _ q_t1_40) (fun _ h9 => h9) rfl dX2_isInterrupted_11 ?_
    refine lv_sipush (v := 2048) hx hb dX2_isInterrupted_14 (by decide) ?_
    refine lv_iand hx hb dX2_isInterrupted_17 ?_
    refine lv_if_eq (tgt := 32) hx hb dX2_isInterrupted_18 (by decide) (fun c_18 => ?_) (fun c_18 => ?_)
    · refine lv_iconst (v := 0) hx hb dX2_isInterrupted_32 (by decide) ?_
      exact W.zret (v := 0) hx hb hr rfl (fun t ht hW => ⟨congrArg (fun z => Outcome.returned (some (Value.int z))) (by unfold fX2_isInterrupted; rw [if_neg c_7, if_pos c_18] <;> rfl), ht⟩) (fun q h => nomatch h) dX2_isInterrupted_33
    · refine lv_aload_n hx hb dX2_isInterrupted_21 rfl (lv_at hl 0 rfl) ?_
      refine va_get (D := (dC, dI)) (ci := 0) (v := .int (bi (g_line x))) (C := RX2) (T := TX2) (N := 9) hx hb hB iX2 hown hK hP 3 rfl rfl 8 (by decide) (hB _ q_t1_50) (fun _ h9 => h9) rfl dX2_isInterrupted_22 ?_
      refine lv_if_eq (tgt := 32) hx hb dX2_isInterrupted_25 (by decide) (fun c_25 => ?_) (fun c_25 => ?_)
      · refine lv_iconst (v := 0) hx hb dX2_isInterrupted_32 (by decide) ?_
        exact W.zret (v := 0) hx hb hr rfl (fun t ht hW => ⟨congrArg (fun z => Outcome.returned (some (Value.int z))) (by unfold fX2_isInterrupted; rw [if_neg c_7, if_neg c_18, if_pos c_25] <;> rfl), ht⟩) (fun q h => nomatch h) dX2_isInterrupted_33
      · refine lv_iconst (v := 1) hx hb dX2_isInterrupted_28 (by decide) ?_
        refine lv_goto (tgt := 33) hx hb dX2_isInterrupted_29 (by decide) ?_
        exact W.zret (v := 1) hx hb hr rfl (fun t ht hW => ⟨congrArg (fun z => Outcome.returned (some (Value.int z))) (by unfold fX2_isInterrupted; rw [if_neg c_7, if_neg c_18, if_neg c_25] <;> rfl), ht⟩) (fun q h => nomatch h) dX2_isInterrupted_33
def fX2_enterTrap (p0 : Int32) (p1 : Int32) (p2 : Int32) (x : St) : St := if ((g_status x) &&& (8 : Int32)) = 0 then
    s_status (s_value (s_cause (s_back x p0) p1) p2) (0 : Int32)
  else
    s_status (s_value (s_cause (s_back x p0) p1) p2) (128 : Int32)
set_option maxHeartbeats 4000000 in
set_option maxRecDepth 100000 in
theorem mX2_enterTrap (l : Launch) (dC : Nat → ClassId) (dI : Nat → Nat → Nat) (aH aM aW aC aR iW iR : Nat) (sz : Nat) (x : St) (p0 : Int32) (p1 : Int32) (p2 : Int32) : Met l yX2_enterTrap wsX2_enterTrap ({ frames := 0, cells := 0, slots := 0, locals := 0 }) (va_Pc [.ref aC, .int p0, .int p1, .int p2] (kM (dC, dI) [(iW, .int), (iR, .int)] NW (wD aH aM aW aC aR iW iR x) sz)) (va_Qv (fun u => u = fX2_enterTrap p0 p1 p2 x) (fun u t => va_P (dC, dI) vwCl (wD aH aM aW aC aR iW iR u) t.heap) (va_A (wD aH aM aW aC aR iW iR x) sz)) 0 0 (va_A (wD aH aM aW aC aR iW iR x) sz) := by
  refine Met.ofW (cc := cX2_enterTrap) (maxL := 4) (ret := none) (by decide) rfl ?_
  intro p e s m args below meth c s₁ B hml hv
  obtain ⟨rfl, hsz, hD0, hP, hK, hN⟩ := hv
  have hx := B.exec
  have hb := B.bytes
  have hr := B.returns
  have hB := fun (w : Cond) (h : w ∈ BIG) => atoms_spec (ws := wsX2_enterTrap) B.pre w (List.mem_cons_of_mem _ h)
  have hown : s.vm.findClass RX2 = some m.cls := findClass_of_methodNamed B.named
  have hlocks := B.notSynchronized
  subst hsz
  have hD := hD0.self (sz := s.heap.size)
  generalize hAe : va_A (wD aH aM aW aC aR iW iR x) s.heap.size = A at hD ⊢
  have hA : ∀ q : Nat, s.heap.size ≤ q → A q := fun q h => by rw [← hAe]; exact Or.inr h
  have hS : va_S A s.heap s.heap [] := va_S.rf
  have hl := lv_entry ([.ref aC, .int p0, .int p1, .int p2]) (n := 4) (Nat.le_of_ble_eq_true rfl)
  rw [lg_entry_eq]
  generalize (lg_sl ([.ref aC, .int p0, .int p1, .int p2]) ++ List.replicate (4 - (lg_sl ([.ref aC, .int p0, .int p1, .int p2])).length) Slot.unset).toArray = ls at hl ⊢
  have hl : lv_has ls 4 [(0, .ref aC), (1, .int p0), (2, .int p1), (3, .int p2)] := hl
  refine lv_aload_n hx hb dX2_enterTrap_0 rfl (lv_at hl 0 rfl) ?_
  refine lv_iload_n hx hb dX2_enterTrap_1 rfl (lv_at hl 1 rfl) ?_
  refine va_put (D := (dC, dI)) (ci := 0) (v := .int p0) (ty := .int) (C := RX2) (T := TX2) (N := 9) hx hb hB iX2 tyX2 tyX2_ok nmX2 hown hK hP hD hS 3 rfl rfl 4 (by decide) (hB _ q_t1_44) (fun _ h9 => h9) rfl (by decide +kernel) rfl rfl (Nat.le_of_ble_eq_true rfl) dX2_enterTrap_2 (fun H locs hP hD hS => ?_)
  have hP : va_P (dC, dI) vwCl (wD aH aM aW aC aR iW iR (s_back x p0)) H := hP
  have hD : va_D A (wD aH aM aW aC aR iW iR (s_back x p0)) := hD
  refine lv_aload_n hx hb dX2_enterTrap_5 rfl (lv_at hl 0 rfl) ?_
  refine lv_iload_n hx hb dX2_enterTrap_6 rfl (lv_at hl 2 rfl) ?_
  refine va_put (D := (dC, dI)) (ci := 0) (v := .int p1) (ty := .int) (C := RX2) (T := TX2) (N := 9) hx hb hB iX2 tyX2 tyX2_ok nmX2 hown hK hP hD hS 3 rfl rfl 5 (by decide) (hB _ q_t1_45) (fun _ h9 => h9) rfl (by decide +kernel) rfl rfl (Nat.le_of_ble_eq_true rfl) dX2_enterTrap_7 (fun H locs hP hD hS => ?_)
  have hP : va_P (dC, dI) vwCl (wD aH aM aW aC aR iW iR (s_cause (s_back x p0) p1)) H := hP
  have hD : va_D A (wD aH aM aW aC aR iW iR (s_cause (s_back x p0) p1)) := hD
  refine lv_aload_n hx hb dX2_enterTrap_10 rfl (lv_at hl 0 rfl) ?_
  refine lv_iload_n hx hb dX2_enterTrap_11 rfl (lv_at hl 3 rfl) ?_
  refine va_put (D := (dC, dI)) (ci := 0) (v := .int p2) (ty := .int) (C := RX2) (T := TX2) (N := 9) hx hb hB iX2 tyX2 tyX2_ok nmX2 hown hK hP hD hS 3 rfl rfl 6 (by decide) (hB _ q_t1_46) (fun _ h9 => h9) rfl (by decide +kernel) rfl rfl (Nat.le_of_ble_eq_true rfl) dX2_enterTrap_12 (fun H locs hP hD hS => ?_)
  have hP : va_P (dC, dI) vwCl (wD aH aM aW aC aR iW iR (s_value (s_cause (s_back x p0) p1) p2)) H := hP
  have hD : va_D A (wD aH aM aW aC aR iW iR (s_value (s_cause (s_back x p0) p1) p2)) := hD
  refine lv_aload_n hx hb dX2_enterTrap_15 rfl (lv_at hl 0 rfl) ?_
  refine lv_aload_n hx hb dX2_enterTrap_16 rfl (lv_at hl 0 rfl) ?_
  refine va_get (D := (dC, dI)) (ci := 0) (v := .int (g_status x)) (C := RX2) (T := TX2) (N := 9) hx hb hB iX2 hown hK hP 3 rfl rfl 0 (by decide) (hB _ q_t1_39) (fun _ h9 => h9) rfl dX2_enterTrap_17 ?_
  refine lv_bipush (v := 8) hx hb dX2_enterTrap_20 (by decide) ?_
  refine lv_iand hx hb dX2_enterTrap_22 ?_
  refine lv_if_eq (tgt := 32) hx hb dX2_enterTrap_23 (by decide) (fun c_23 => ?_) (fun c_23 => ?_)
  · refine lv_iconst (v := 0) hx hb dX2_enterTrap_32 (by decide) ?_
    refine va_put (D := (dC, dI)) (ci := 0) (v := .int (0 : Int32)) (ty := .int) (C := RX2) (T := TX2) (N := 9) hx hb hB iX2 tyX2 tyX2_ok nmX2 hown hK hP hD hS 3 rfl rfl 0 (by decide) (hB _ q_t1_39) (fun _ h9 => h9) rfl (by decide +kernel) rfl rfl (Nat.le_of_ble_eq_true rfl) dX2_enterTrap_33 (fun H locs hP hD hS => ?_)
    have hP : va_P (dC, dI) vwCl (wD aH aM aW aC aR iW iR (s_status (s_value (s_cause (s_back x p0) p1) p2) (0 : Int32))) H := hP
    have hD : va_D A (wD aH aM aW aC aR iW iR (s_status (s_value (s_cause (s_back x p0) p1) p2) (0 : Int32))) := hD
    exact W.vret hx hb hr (fun t ht hW => ⟨⟨(s_status (s_value (s_cause (s_back x p0) p1) p2) (0 : Int32)), rfl, (by unfold fX2_enterTrap; rw [if_pos c_23] <;> rfl), hpT ht hP⟩, hS.F ht⟩) hS.2.2 dX2_enterTrap_36
  · refine lv_sipush (v := 128) hx hb dX2_enterTrap_26 (by decide) ?_
    refine lv_goto (tgt := 33) hx hb dX2_enterTrap_29 (by decide) ?_
    refine va_put (D := (dC, dI)) (ci := 0) (v := .int (128 : Int32)) (ty := .int) (C := RX2) (T := TX2) (N := 9) hx hb hB iX2 tyX2 tyX2_ok nmX2 hown hK hP hD hS 3 rfl rfl 0 (by decide) (hB _ q_t1_39) (fun _ h9 => h9) rfl (by decide +kernel) rfl rfl (Nat.le_of_ble_eq_true rfl) dX2_enterTrap_33 (fun H locs hP hD hS => ?_)
    have hP : va_P (dC, dI) vwCl (wD aH aM aW aC aR iW iR (s_status (s_value (s_cause (s_back x p0) p1) p2) (128 : Int32))) H := hP
    have hD : va_D A (wD aH aM aW aC aR iW iR (s_status (s_value (s_cause (s_back x p0) p1) p2) (128 : Int32))) := hD
    exact W.vret hx hb hr (fun t ht hW => ⟨⟨(s_status (s_value (s_cause (s_back x p0) p1) p2) (128 : Int32)), rfl, (by unfold fX2_enterTrap; rw [if_neg c_23] <;> rfl), hpT ht hP⟩, hS.F ht⟩) hS.2.2 dX2_enterTrap_36
def fX2_leaveTrap (x : St) : Int32 × St := if ((g_status x) &&& (128 : Int32)) = 0 then
    (g_back x, s_status x (128 : Int32))
  else
    (g_back x, s_status x (136 : Int32))
set_option maxHeartbeats 4000000 in
set_option maxRecDepth 100000 in
theorem mX2_leaveTrap (l : Launch) (dC : Nat → ClassId) (dI : Nat → Nat → Nat) (aH aM aW aC aR iW iR : Nat) (sz : Nat) (x : St) : Met l yX2_leaveTrap wsX2_leaveTrap ({ frames := 0, cells := 0, slots := 0, locals := 0 }) (va_Pc [.ref aC] (kM (dC, dI) [(iW, .int), (iR, .int)] NW (wD aH aM aW aC aR iW iR x) sz)) (va_Qi (fun r u => r = (fX2_leaveTrap x).1 ∧ u = (fX2_leaveTrap x).2) (fun u t => va_P (dC, dI) vwCl (wD aH aM aW aC aR iW iR u) t.heap) (va_A (wD aH aM aW aC aR iW iR x) sz)) 0 0 (va_A (wD aH aM aW aC aR iW iR x) sz) := by
  refine Met.ofW (cc := cX2_leaveTrap) (maxL := 1) (ret := (some .int)) (by decide) rfl ?_
  intro p e s m args below meth c s₁ B hml hv
  obtain ⟨rfl, hsz, hD0, hP, hK, hN⟩ := hv
  have hx := B.exec
  have hb := B.bytes
  have hr := B.returns
  have hB := fun (w : Cond) (h : w ∈ BIG) => atoms_spec (ws := wsX2_leaveTrap) B.pre w (List.mem_cons_of_mem _ h)
  have hown : s.vm.findClass RX2 = some m.cls := findClass_of_methodNamed B.named
  have hlocks := B.notSynchronized
  subst hsz
  have hD := hD0.self (sz := s.heap.size)
  generalize hAe : va_A (wD aH aM aW aC aR iW iR x) s.heap.size = A at hD ⊢
  have hA : ∀ q : Nat, s.heap.size ≤ q → A q := fun q h => by rw [← hAe]; exact Or.inr h
  have hS : va_S A s.heap s.heap [] := va_S.rf
  have hl := lv_entry ([.ref aC]) (n := 1) (Nat.le_of_ble_eq_true rfl)
  rw [lg_entry_eq]
  generalize (lg_sl ([.ref aC]) ++ List.replicate (1 - (lg_sl ([.ref aC])).length) Slot.unset).toArray = ls at hl ⊢
  have hl : lv_has ls 1 [(0, .ref aC)] := hl
  refine lv_aload_n hx hb dX2_leaveTrap_0 rfl (lv_at hl 0 rfl) ?_
  refine lv_aload_n hx hb dX2_leaveTrap_1 rfl (lv_at hl 0 rfl) ?_
  refine va_get (D := (dC, dI)) (ci := 0) (v := .int (g_status x)) (C := RX2) (T := TX2) (N := 9) hx hb hB iX2 hown hK hP 3 rfl rfl 0 (by decide) (hB _ q_t1_39) (fun _ h9 => h9) rfl dX2_leaveTrap_2 ?_
  refine lv_sipush (v := 128) hx hb dX2_leaveTrap_5 (by decide) ?_
  refine lv_iand hx hb dX2_leaveTrap_8 ?_
  refine lv_if_eq (tgt := 18) hx hb dX2_leaveTrap_9 (by decide) (fun c_9 => ?_) (fun c_9 => ?_)
  · refine lv_sipush (v := 128) hx hb dX2_leaveTrap_18 (by decide) ?_
    refine va_put (D := (dC, dI)) (ci := 0) (v := .int (128 : Int32)) (ty := .int) (C := RX2) (T := TX2) (N := 9) hx hb hB iX2 tyX2 tyX2_ok nmX2 hown hK hP hD hS 3 rfl rfl 0 (by decide) (hB _ q_t1_39) (fun _ h9 => h9) rfl (by decide +kernel) rfl rfl (Nat.le_of_ble_eq_true rfl) dX2_leaveTrap_21 (fun H locs hP hD hS => ?_)
    have hP : va_P (dC, dI) vwCl (wD aH aM aW aC aR iW iR (s_status x (128 : Int32))) H := hP
    have hD : va_D A (wD aH aM aW aC aR iW iR (s_status x (128 : Int32))) := hD
    refine lv_aload_n hx hb dX2_leaveTrap_24 rfl (lv_at hl 0 rfl) ?_
    refine va_get (D := (dC, dI)) (ci := 0) (v := .int (g_back x)) (C := RX2) (T := TX2) (N := 9) hx hb hB iX2 hown hK hP 3 rfl rfl 4 (by decide) (hB _ q_t1_44) (fun _ h9 => h9) rfl dX2_leaveTrap_25 ?_
    exact W.iret (v := g_back x) hx hb hr (fun t ht hW => ⟨⟨g_back x, (s_status x (128 : Int32)), rfl, ⟨(by unfold fX2_leaveTrap; rw [if_pos c_9] <;> rfl), (by unfold fX2_leaveTrap; rw [if_pos c_9] <;> rfl)⟩, hpT ht hP⟩, hS.F ht⟩) hS.2.2 dX2_leaveTrap_28
  · refine lv_sipush (v := 136) hx hb dX2_leaveTrap_12 (by decide) ?_
    refine lv_goto (tgt := 21) hx hb dX2_leaveTrap_15 (by decide) ?_
    refine va_put (D := (dC, dI)) (ci := 0) (v := .int (136 : Int32)) (ty := .int) (C := RX2) (T := TX2) (N := 9) hx hb hB iX2 tyX2 tyX2_ok nmX2 hown hK hP hD hS 3 rfl rfl 0 (by decide) (hB _ q_t1_39) (fun _ h9 => h9) rfl (by decide +kernel) rfl rfl (Nat.le_of_ble_eq_true rfl) dX2_leaveTrap_21 (fun H locs hP hD hS => ?_)
    have hP : va_P (dC, dI) vwCl (wD aH aM aW aC aR iW iR (s_status x (136 : Int32))) H := hP
    have hD : va_D A (wD aH aM aW aC aR iW iR (s_status x (136 : Int32))) := hD
    refine lv_aload_n hx hb dX2_leaveTrap_24 rfl (lv_at hl 0 rfl) ?_
    refine va_get (D := (dC, dI)) (ci := 0) (v := .int (g_back x)) (C := RX2) (T := TX2) (N := 9) hx hb hB iX2 hown hK hP 3 rfl rfl 4 (by decide) (hB _ q_t1_44) (fun _ h9 => h9) rfl dX2_leaveTrap_25 ?_
    exact W.iret (v := g_back x) hx hb hr (fun t ht hW => ⟨⟨g_back x, (s_status x (136 : Int32)), rfl, ⟨(by unfold fX2_leaveTrap; rw [if_neg c_9] <;> rfl), (by unfold fX2_leaveTrap; rw [if_neg c_9] <;> rfl)⟩, hpT ht hP⟩, hS.F ht⟩) hS.2.2 dX2_leaveTrap_28
def fX2_clear (x : St) : St := s_done (s_value (s_cause (s_back (s_scratch (s_vector (s_enabled (s_status x (0 : Int32)) (0 : Int32)) (0 : Int32)) (0 : Int32)) (0 : Int32)) (0 : Int32)) (0 : Int32)) (0 : Int32)
set_option maxHeartbeats 4000000 in
set_option maxRecDepth 100000 in
theorem mX2_clear (l : Launch) (dC : Nat → ClassId) (dI : Nat → Nat → Nat) (aH aM aW aC aR iW iR : Nat) (sz : Nat) (x : St) : Met l yX2_clear wsX2_clear ({ frames := 0, cells := 0, slots := 0, locals := 0 }) (va_Pc [.ref aC] (kM (dC, dI) [(iW, .int), (iR, .int)] NW (wD aH aM aW aC aR iW iR x) sz)) (va_Qv (fun u => u = fX2_clear x) (fun u t => va_P (dC, dI) vwCl (wD aH aM aW aC aR iW iR u) t.heap) (va_A (wD aH aM aW aC aR iW iR x) sz)) 0 0 (va_A (wD aH aM aW aC aR iW iR x) sz) := by
  refine Met.ofW (cc := cX2_clear) (maxL := 1) (ret := none) (by decide) rfl ?_
  intro p e s m args below meth c s₁ B hml hv
  obtain ⟨rfl, hsz, hD0, hP, hK, hN⟩ := hv
  have hx := B.exec
  have hb := B.bytes
  have hr := B.returns
  have hB := fun (w : Cond) (h : w ∈ BIG) => atoms_spec (ws := wsX2_clear) B.pre w (List.mem_cons_of_mem _ h)
  have hown : s.vm.findClass RX2 = some m.cls := findClass_of_methodNamed B.named
  have hlocks := B.notSynchronized
  subst hsz
  have hD := hD0.self (sz := s.heap.size)
  generalize hAe : va_A (wD aH aM aW aC aR iW iR x) s.heap.size = A at hD ⊢
  have hA : ∀ q : Nat, s.heap.size ≤ q → A q := fun q h => by rw [← hAe]; exact Or.inr h
  have hS : va_S A s.heap s.heap [] := va_S.rf
  have hl := lv_entry ([.ref aC]) (n := 1) (Nat.le_of_ble_eq_true rfl)
  rw [lg_entry_eq]
  generalize (lg_sl ([.ref aC]) ++ List.replicate (1 - (lg_sl ([.ref aC])).length) Slot.unset).toArray = ls at hl ⊢
  have hl : lv_has ls 1 [(0, .ref aC)] := hl
  refine lv_aload_n hx hb dX2_clear_0 rfl (lv_at hl 0 rfl) ?_
  refine lv_iconst (v := 0) hx hb dX2_clear_1 (by decide) ?_
  refine va_put (D := (dC, dI)) (ci := 0) (v := .int (0 : Int32)) (ty := .int) (C := RX2) (T := TX2) (N := 9) hx hb hB iX2 tyX2 tyX2_ok nmX2 hown hK hP hD hS 3 rfl rfl 0 (by decide) (hB _ q_t1_39) (fun _ h9 => h9) rfl (by decide +kernel) rfl rfl (Nat.le_of_ble_eq_true rfl) dX2_clear_2 (fun H locs hP hD hS => ?_)
  have hP : va_P (dC, dI) vwCl (wD aH aM aW aC aR iW iR (s_status x (0 : Int32))) H := hP
  have hD : va_D A (wD aH aM aW aC aR iW iR (s_status x (0 : Int32))) := hD
  refine lv_aload_n hx hb dX2_clear_5 rfl (lv_at hl 0 rfl) ?_
  refine lv_iconst (v := 0) hx hb dX2_clear_6 (by decide) ?_
  refine va_put (D := (dC, dI)) (ci := 0) (v := .int (0 : Int32)) (ty := .int) (C := RX2) (T := TX2) (N := 9) hx hb hB iX2 tyX2 tyX2_ok nmX2 hown hK hP hD hS 3 rfl rfl 1 (by decide) (hB _ q_t1_40) (fun _ h9 => h9) rfl (by decide +kernel) rfl rfl (Nat.le_of_ble_eq_true rfl) dX2_clear_7 (fun H locs hP hD hS => ?_)
  have hP : va_P (dC, dI) vwCl (wD aH aM aW aC aR iW iR (s_enabled (s_status x (0 : Int32)) (0 : Int32))) H := hP
  have hD : va_D A (wD aH aM aW aC aR iW iR (s_enabled (s_status x (0 : Int32)) (0 : Int32))) := hD
  refine lv_aload_n hx hb dX2_clear_10 rfl (lv_at hl 0 rfl) ?_
  refine lv_iconst (v := 0) hx hb dX2_clear_11 (by decide) ?_
  refine va_put (D := (dC, dI)) (ci := 0) (v := .int (0 : Int32)) (ty := .int) (C := RX2) (T := TX2) (N := 9) hx hb hB iX2 tyX2 tyX2_ok nmX2 hown hK hP hD hS 3 rfl rfl 2 (by decide) (hB _ q_t1_41) (fun _ h9 => h9) rfl (by decide +kernel) rfl rfl (Nat.le_of_ble_eq_true rfl) dX2_clear_12 (fun H locs hP hD hS => ?_)
  have hP : va_P (dC, dI) vwCl (wD aH aM aW aC aR iW iR (s_vector (s_enabled (s_status x (0 : Int32)) (0 : Int32)) (0 : Int32))) H := hP
  have hD : va_D A (wD aH aM aW aC aR iW iR (s_vector (s_enabled (s_status x (0 : Int32)) (0 : Int32)) (0 : Int32))) := hD
  refine lv_aload_n hx hb dX2_clear_15 rfl (lv_at hl 0 rfl) ?_
  refine lv_iconst (v := 0) hx hb dX2_clear_16 (by decide) ?_
  refine va_put (D := (dC, dI)) (ci := 0) (v := .int (0 : Int32)) (ty := .int) (C := RX2) (T := TX2) (N := 9) hx hb hB iX2 tyX2 tyX2_ok nmX2 hown hK hP hD hS 3 rfl rfl 3 (by decide) (hB _ q_t1_43) (fun _ h9 => h9) rfl (by decide +kernel) rfl rfl (Nat.le_of_ble_eq_true rfl) dX2_clear_17 (fun H locs hP hD hS => ?_)
  have hP : va_P (dC, dI) vwCl (wD aH aM aW aC aR iW iR (s_scratch (s_vector (s_enabled (s_status x (0 : Int32)) (0 : Int32)) (0 : Int32)) (0 : Int32))) H := hP
  have hD : va_D A (wD aH aM aW aC aR iW iR (s_scratch (s_vector (s_enabled (s_status x (0 : Int32)) (0 : Int32)) (0 : Int32)) (0 : Int32))) := hD
  refine lv_aload_n hx hb dX2_clear_20 rfl (lv_at hl 0 rfl) ?_
  refine lv_iconst (v := 0) hx hb dX2_clear_21 (by decide) ?_
  refine va_put (D := (dC, dI)) (ci := 0) (v := .int (0 : Int32)) (ty := .int) (C := RX2) (T := TX2) (N := 9) hx hb hB iX2 tyX2 tyX2_ok nmX2 hown hK hP hD hS 3 rfl rfl 4 (by decide) (hB _ q_t1_44) (fun _ h9 => h9) rfl (by decide +kernel) rfl rfl (Nat.le_of_ble_eq_true rfl) dX2_clear_22 (fun H locs hP hD hS => ?_)
  have hP : va_P (dC, dI) vwCl (wD aH aM aW aC aR iW iR (s_back (s_scratch (s_vector (s_enabled (s_status x (0 : Int32)) (0 : Int32)) (0 : Int32)) (0 : Int32)) (0 : Int32))) H := hP
  have hD : va_D A (wD aH aM aW aC aR iW iR (s_back (s_scratch (s_vector (s_enabled (s_status x (0 : Int32)) (0 : Int32)) (0 : Int32)) (0 : Int32)) (0 : Int32))) := hD
  refine lv_aload_n hx hb dX2_clear_25 rfl (lv_at hl 0 rfl) ?_
  refine lv_iconst (v := 0) hx hb dX2_clear_26 (by decide) ?_
  refine va_put (D := (dC, dI)) (ci := 0) (v := .int (0 : Int32)) (ty := .int) (C := RX2) (T := TX2) (N := 9) hx hb hB iX2 tyX2 tyX2_ok nmX2 hown hK hP hD hS 3 rfl rfl 5 (by decide) (hB _ q_t1_45) (fun _ h9 => h9) rfl (by decide +kernel) rfl rfl (Nat.le_of_ble_eq_true rfl) dX2_clear_27 (fun H locs hP hD hS => ?_)
  have hP : va_P (dC, dI) vwCl (wD aH aM aW aC aR iW iR (s_cause (s_back (s_scratch (s_vector (s_enabled (s_status x (0 : Int32)) (0 : Int32)) (0 : Int32)) (0 : Int32)) (0 : Int32)) (0 : Int32))) H := hP
  have hD : va_D A (wD aH aM aW aC aR iW iR (s_cause (s_back (s_scratch (s_vector (s_enabled (s_status x (0 : Int32)) (0 : Int32)) (0 : Int32)) (0 : Int32)) (0 : Int32)) (0 : Int32))) := hD
  refine lv_aload_n hx hb dX2_clear_30 rfl (lv_at hl 0 rfl) ?_
  refine lv_iconst (v := 0) hx hb dX2_clear_31 (by decide) ?_
  refine va_put (D := (dC, dI)) (ci := 0) (v := .int (0 : Int32)) (ty := .int) (C := RX2) (T := TX2) (N := 9) hx hb hB iX2 tyX2 tyX2_ok nmX2 hown hK hP hD hS 3 rfl rfl 6 (by decide) (hB _ q_t1_46) (fun _ h9 => h9) rfl (by decide +kernel) rfl rfl (Nat.le_of_ble_eq_true rfl) dX2_clear_32 (fun H locs hP hD hS => ?_)
  have hP : va_P (dC, dI) vwCl (wD aH aM aW aC aR iW iR (s_value (s_cause (s_back (s_scratch (s_vector (s_enabled (s_status x (0 : Int32)) (0 : Int32)) (0 : Int32)) (0 : Int32)) (0 : Int32)) (0 : Int32)) (0 : Int32))) H := hP
  have hD : va_D A (wD aH aM aW aC aR iW iR (s_value (s_cause (s_back (s_scratch (s_vector (s_enabled (s_status x (0 : Int32)) (0 : Int32)) (0 : Int32)) (0 : Int32)) (0 : Int32)) (0 : Int32)) (0 : Int32))) := hD
  refine lv_aload_n hx hb dX2_clear_35 rfl (lv_at hl 0 rfl) ?_
  refine lv_iconst (v := 0) hx hb dX2_clear_36 (by decide) ?_
  refine va_put (D := (dC, dI)) (ci := 0) (v := .int (0 : Int32)) (ty := .int) (C := RX2) (T := TX2) (N := 9) hx hb hB iX2 tyX2 tyX2_ok nmX2 hown hK hP hD hS 3 rfl rfl 7 (by decide) (hB _ q_t1_47) (fun _ h9 => h9) rfl (by decide +kernel) rfl rfl (Nat.le_of_ble_eq_true rfl) dX2_clear_37 (fun H locs hP hD hS => ?_)
  have hP : va_P (dC, dI) vwCl (wD aH aM aW aC aR iW iR (s_done (s_value (s_cause (s_back (s_scratch (s_vector (s_enabled (s_status x (0 : Int32)) (0 : Int32)) (0 : Int32)) (0 : Int32)) (0 : Int32)) (0 : Int32)) (0 : Int32)) (0 : Int32))) H := hP
  have hD : va_D A (wD aH aM aW aC aR iW iR (s_done (s_value (s_cause (s_back (s_scratch (s_vector (s_enabled (s_status x (0 : Int32)) (0 : Int32)) (0 : Int32)) (0 : Int32)) (0 : Int32)) (0 : Int32)) (0 : Int32)) (0 : Int32))) := hD
  exact W.vret hx hb hr (fun t ht hW => ⟨⟨(s_done (s_value (s_cause (s_back (s_scratch (s_vector (s_enabled (s_status x (0 : Int32)) (0 : Int32)) (0 : Int32)) (0 : Int32)) (0 : Int32)) (0 : Int32)) (0 : Int32)) (0 : Int32)), rfl, rfl, hpT ht hP⟩, hS.F ht⟩) hS.2.2 dX2_clear_40
def fX3_clear (x : St) : St := s_mem x (fillf 1024 (0 : Int32) (g_mem x))
set_option maxHeartbeats 4000000 in
set_option maxRecDepth 100000 in
theorem mX3_clear (l : Launch) (dC : Nat → ClassId) (dI : Nat → Nat → Nat) (aH aM aW aC aR iW iR : Nat) (sz : Nat) (x : St) : Met l yX3_clear wsX3_clear ({ frames := 1, cells := 0, slots := 0, locals := 23 }) (va_Pc [.ref aM] (kM (dC, dI) [(iW, .int), (iR, .int)] NW (wD aH aM aW aC aR iW iR x) sz)) (va_Qv (fun u => u = fX3_clear x) (fun u t => va_P (dC, dI) vwCl (wD aH aM aW aC aR iW iR u) t.heap) (va_A (wD aH aM aW aC aR iW iR x) sz)) 0 0 (va_A (wD aH aM aW aC aR iW iR x) sz) := by
  refine Met.ofW (cc := cX3_clear) (maxL := 1) (ret := none) (by decide) rfl ?_
  intro p e s m args below meth c s₁ B hml hv
  obtain ⟨rfl, hsz, hD0, hP, hK, hN⟩ := hv
  have hx := B.exec
  have hb := B.bytes
  have hr := B.returns
  have hB := fun (w : Cond) (h : w ∈ BIG) => atoms_spec (ws := wsX3_clear) B.pre w (List.mem_cons_of_mem _ h)
  have hown : s.vm.findClass RX3 = some m.cls := findClass_of_methodNamed B.named
  have hlocks := B.notSynchronized
  subst hsz
  have hD := hD0.self (sz := s.heap.size)
  generalize hAe : va_A (wD aH aM aW aC aR iW iR x) s.heap.size = A at hD ⊢
  have hA : ∀ q : Nat, s.heap.size ≤ q → A q := fun q h => by rw [← hAe]; exact Or.inr h
  have hS : va_S A s.heap s.heap [] := va_S.rf
  have hl := lv_entry ([.ref aM]) (n := 1) (Nat.le_of_ble_eq_true rfl)
  rw [lg_entry_eq]
  generalize (lg_sl ([.ref aM]) ++ List.replicate (1 - (lg_sl ([.ref aM])).length) Slot.unset).toArray = ls at hl ⊢
  have hl : lv_has ls 1 [(0, .ref aM)] := hl
  refine lv_aload_n hx hb dX3_clear_0 rfl (lv_at hl 0 rfl) ?_
  refine va_get (D := (dC, dI)) (ci := 1) (v := .ref aW) (C := RX3) (T := TX3) (N := 1) hx hb hB iX3 hown hK hP 1 rfl rfl 0 (by decide) (hB _ q_t1_28) (fun _ h9 => h9) rfl dX3_clear_1 ?_
  refine lv_iconst (v := 0) hx hb dX3_clear_4 (by decide) ?_
  refine k_mv (w := fun u : Nat → Int32 => (wD aH aM aW aC aR iW iR x).set 2 (aW, .inl (iW, 1024, .inl u))) (x := g_mem x) (fun _ _ => rfl) (va_runS (As := [.ref aW, .int (0 : Int32)]) (rest := []) ⟨hx, hb, hml, hown, hB⟩ (m_fill l dC dI (wD aH aM aW aC aR iW iR x) [(iW, .int), (iR, .int)] 2 0 aW iW 1024 (g_mem x) (0 : Int32) s.heap.size rfl rfl (by decide)) (va_cwS 2 hB (gS q_t1_137 q_t1_127 q_t1_12 wJ7_fill) rfl rfl rfl hJ7_fill.2 ⟨Nat.le_of_ble_eq_true rfl, Nat.le_of_ble_eq_true rfl⟩) ⟨kM_blind NW_blind, kM_pre NW_warm hP hK hD hN⟩ rfl rfl hl.1 rfl (lv_room (Nat.le_of_ble_eq_true rfl)) dX3_clear_5 ⟨Nat.zero_le _, Nat.zero_le _⟩) hD hS hA (fun u H locs hw hP hD hS => ?_)
  obtain rfl := hw
  have hP : va_P (dC, dI) vwCl (wD aH aM aW aC aR iW iR (s_mem x (fillf 1024 (0 : Int32) (g_mem x)))) H := hP
  have hD : va_D A (wD aH aM aW aC aR iW iR (s_mem x (fillf 1024 (0 : Int32) (g_mem x)))) := hD
  exact W.vret hx hb hr (fun t ht hW => ⟨⟨(s_mem x (fillf 1024 (0 : Int32) (g_mem x))), rfl, rfl, hpT ht hP⟩, hS.F ht⟩) hS.2.2 dX3_clear_8
