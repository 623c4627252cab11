def fX0_isBelow (p0 : Int32) (p1 : Int32) : Bool := if 0 ≤ (lg_cmp (p0.toInt64 &&& (4294967295 : Int64)) (p1.toInt64 &&& (4294967295 : Int64))) then
    false
  else
    true
set_option maxHeartbeats 4000000 in
set_option maxRecDepth 100000 in
theorem mX0_isBelow (l : Launch) (p0 : Int32) (p1 : Int32) : Met l yX0_isBelow wsX0_isBelow ({ frames := 0, cells := 0, slots := 0, locals := 0 }) (va_Pc [.int p0, .int p1] (fun _ => True)) (QcRead (bi (fX0_isBelow p0 p1))) 0 0 (fun _ => False) := by
  refine Met.ofW (cc := cX0_isBelow) (maxL := 2) (ret := (some .boolean)) (by decide) rfl ?_
  intro p e s m args below meth c s₁ B hml hv
  obtain ⟨rfl, -⟩ := hv
  have hx := B.exec
  have hb := B.bytes
  have hr := B.returns
  have hB := fun (w : Cond) (h : w ∈ BIG) => atoms_spec (ws := wsX0_isBelow) B.pre w (List.mem_cons_of_mem _ h)
  have hown : s.vm.findClass RX0 = some m.cls := findClass_of_methodNamed B.named
  have hlocks := B.notSynchronized
  have hl := lv_entry ([.int p0, .int p1]) (n := 2) (Nat.le_of_ble_eq_true rfl)
  rw [lg_entry_eq]
  generalize (lg_sl ([.int p0, .int p1]) ++ List.replicate (2 - (lg_sl ([.int p0, .int p1])).length) Slot.unset).toArray = ls at hl ⊢
  have hl : lv_has ls 2 [(0, .int p0), (1, .int p1)] := hl
  refine lv_iload_n hx hb dX0_isBelow_0 rfl (lv_at hl 0 rfl) ?_
  refine lv_i2l (v := p0.toInt64) hx hb dX0_isBelow_1 rfl ?_
  refine lv_ldc2 (v := 4294967295) hx hb hown (hB _ q_t2_93) dX0_isBelow_2 ?_
  refine lv_land hx hb dX0_isBelow_5 ?_
  refine lv_iload_n hx hb dX0_isBelow_6 rfl (lv_at hl 1 rfl) ?_
  refine lv_i2l (v := p1.toInt64) hx hb dX0_isBelow_7 rfl ?_
  refine lv_ldc2 (v := 4294967295) hx hb hown (hB _ q_t2_93) dX0_isBelow_8 ?_
  refine lv_land hx hb dX0_isBelow_11 ?_
  refine W.lcmp hx hb dX0_isBelow_12 ?_
  refine lv_if_ge (tgt := 20) hx hb dX0_isBelow_13 (by decide) (fun c_13 => ?_) (fun c_13 => ?_)
  · refine lv_iconst (v := 0) hx hb dX0_isBelow_20 (by decide) ?_
    exact W.zret (v := 0) hx hb hr rfl (fun t ht hW => ⟨congrArg (fun z => Outcome.returned (some (Value.int z))) (by unfold fX0_isBelow; rw [if_pos c_13] <;> rfl), ht⟩) (fun q h => nomatch h) dX0_isBelow_21
  · refine lv_iconst (v := 1) hx hb dX0_isBelow_16 (by decide) ?_
    refine lv_goto (tgt := 21) hx hb dX0_isBelow_17 (by decide) ?_
    exact W.zret (v := 1) hx hb hr rfl (fun t ht hW => ⟨congrArg (fun z => Outcome.returned (some (Value.int z))) (by unfold fX0_isBelow; rw [if_neg c_13] <;> rfl), ht⟩) (fun q h => nomatch h) dX0_isBelow_21
def fX0_holds (p0 : Int32) (p1 : Int32) (p2 : Int32) : Bool := if p0 = (0 : Int32) then
    if p1 = p2 then
      true
    else
      false
  else
    if p0 = (1 : Int32) then
      if p1 = p2 then
        false
      else
        true
    else
      if p0 = (2 : Int32) then
        if (bi (fX0_isBelow p1 p2)) = 0 then
          true
        else
          false
      else
        if p0 = (3 : Int32) then
          if (bi (fX0_isBelow p1 p2)) = 0 then
            true
          else
            false
        else
          if p0 = (4 : Int32) then
            if p2 ≤ p1 then
              false
            else
              true
          else
            if p0 = (5 : Int32) then
              if p1 < p2 then
                false
              else
                true
            else
              if p0 = (6 : Int32) then
                fX0_isBelow p1 p2
              else
                if (bi (fX0_isBelow p1 p2)) = 0 then
                  true
                else
                  false
set_option maxHeartbeats 4000000 in
set_option maxRecDepth 100000 in
theorem mX0_holds (l : Launch) (p0 : Int32) (p1 : Int32) (p2 : Int32) : Met l yX0_holds wsX0_holds ({ frames := 1, cells := 0, slots := 0, locals := 21 }) (va_Pc [.int p0, .int p1, .int p2] (fun _ => True)) (QcRead (bi (fX0_holds p0 p1 p2))) 0 0 (fun _ => False) := by
  refine Met.ofW (cc := cX0_holds) (maxL := 3) (ret := (some .boolean)) (by decide) rfl ?_
  intro p e s m args below meth c s₁ B hml hv
  obtain ⟨rfl, -⟩ := hv
  have hx := B.exec
  have hb := B.bytes
  have hr := B.returns
  have hB := fun (w : Cond) (h : w ∈ BIG) => atoms_spec (ws := wsX0_holds) B.pre w (List.mem_cons_of_mem _ h)
  have hown : s.vm.findClass RX0 = some m.cls := findClass_of_methodNamed B.named
  have hlocks := B.notSynchronized
  have hl := lv_entry ([.int p0, .int p1, .int p2]) (n := 3) (Nat.le_of_ble_eq_true rfl)
  rw [lg_entry_eq]
  generalize (lg_sl ([.int p0, .int p1, .int p2]) ++ List.replicate (3 - (lg_sl ([.int p0, .int p1, .int p2])).length) Slot.unset).toArray = ls at hl ⊢
  have hl : lv_has ls 3 [(0, .int p0), (1, .int p1), (2, .int p2)] := hl
  refine lv_iload_n hx hb dX0_holds_0 rfl (lv_at hl 0 rfl) ?_
  by_cases c_1_0 : p0 = (0 : Int32)
  · refine lv_tableIn (off := 43) (tgt := 44) hx hb dX0_holds_1 (by rw [c_1_0]; decide) (by rw [c_1_0]; decide) (by rw [c_1_0]; rfl) (by decide) ?_
    refine lv_iload_n hx hb dX0_holds_44 rfl (lv_at hl 1 rfl) ?_
    refine lv_iload_n hx hb dX0_holds_45 rfl (lv_at hl 2 rfl) ?_
    refine lv_icmp_ne (tgt := 53) hx hb dX0_holds_46 (by decide) (fun c_46 => ?_) (fun c_46 => ?_)
    · refine lv_iconst (v := 0) hx hb dX0_holds_53 (by decide) ?_
      exact W.zret (v := 0) hx hb hr rfl (fun t ht hW => ⟨congrArg (fun z => Outcome.returned (some (Value.int z))) (by unfold fX0_holds; rw [if_pos c_1_0, if_neg c_46] <;> rfl), ht⟩) (fun q h => nomatch h) dX0_holds_54
    · refine lv_iconst (v := 1) hx hb dX0_holds_49 (by decide) ?_
      refine lv_goto (tgt := 54) hx hb dX0_holds_50 (by decide) ?_
      exact W.zret (v := 1) hx hb hr rfl (fun t ht hW => ⟨congrArg (fun z => Outcome.returned (some (Value.int z))) (by unfold fX0_holds; rw [if_pos c_1_0, if_pos c_46] <;> rfl), ht⟩) (fun q h => nomatch h) dX0_holds_54
  by_cases c_1_1 : p0 = (1 : Int32)
  · refine lv_tableIn (off := 54) (tgt := 55) hx hb dX0_holds_1 (by rw [c_1_1]; decide) (by rw [c_1_1]; decide) (by rw [c_1_1]; rfl) (by decide) ?_
    refine lv_iload_n hx hb dX0_holds_55 rfl (lv_at hl 1 rfl) ?_
    refine lv_iload_n hx hb dX0_holds_56 rfl (lv_at hl 2 rfl) ?_
    refine lv_icmp_eq (tgt := 64) hx hb dX0_holds_57 (by decide) (fun c_57 => ?_) (fun c_57 => ?_)
    · refine lv_iconst (v := 0) hx hb dX0_holds_64 (by decide) ?_
      exact W.zret (v := 0) hx hb hr rfl (fun t ht hW => ⟨congrArg (fun z => Outcome.returned (some (Value.int z))) (by unfold fX0_holds; rw [if_neg c_1_0, if_pos c_1_1, if_pos c_57] <;> rfl), ht⟩) (fun q h => nomatch h) dX0_holds_65
    · refine lv_iconst (v := 1) hx hb dX0_holds_60 (by decide) ?_
      refine lv_goto (tgt := 65) hx hb dX0_holds_61 (by decide) ?_
      exact W.zret (v := 1) hx hb hr rfl (fun t ht hW => ⟨congrArg (fun z => Outcome.returned (some (Value.int z))) (by unfold fX0_holds; rw [if_neg c_1_0, if_pos c_1_1, if_neg c_57] <;> rfl), ht⟩) (fun q h => nomatch h) dX0_holds_65
  by_cases c_1_2 : p0 = (2 : Int32)
  · refine lv_tableIn (off := 93) (tgt := 94) hx hb dX0_holds_1 (by rw [c_1_2]; decide) (by rw [c_1_2]; decide) (by rw [c_1_2]; rfl) (by decide) ?_
    refine lv_iload_n hx hb dX0_holds_94 rfl (lv_at hl 1 rfl) ?_
    refine lv_iload_n hx hb dX0_holds_95 rfl (lv_at hl 2 rfl) ?_
    refine k_ri (va_runS (As := [.int p1, .int p2]) (rest := []) ⟨hx, hb, hml, hown, hB⟩ (mX0_isBelow l p1 p2) (va_cwS 2 hB (gS q_t2_90 q_t2_91 q_t1_11 wX0_isBelow) rfl rfl rfl hX0_isBelow.2 ⟨Nat.le_of_ble_eq_true rfl, Nat.le_of_ble_eq_true rfl⟩) ⟨fun _ _ _ _ q => q, fun U _ _ => ⟨rfl, trivial⟩⟩ rfl rfl hl.1 rfl (lv_room (Nat.le_of_ble_eq_true rfl)) dX0_holds_96 ⟨Nat.zero_le _, Nat.zero_le _⟩) ?_
    refine lv_if_ne (tgt := 106) hx hb dX0_holds_99 (by decide) (fun c_99 => ?_) (fun c_99 => ?_)
    · refine lv_iconst (v := 0) hx hb dX0_holds_106 (by decide) ?_
      exact W.zret (v := 0) hx hb hr rfl (fun t ht hW => ⟨congrArg (fun z => Outcome.returned (some (Value.int z))) (by unfold fX0_holds; rw [if_neg c_1_0, if_neg c_1_1, if_pos c_1_2, if_neg c_99] <;> rfl), ht⟩) (fun q h => nomatch h) dX0_holds_107
    · refine lv_iconst (v := 1) hx hb dX0_holds_102 (by decide) ?_
      refine lv_goto (tgt := 107) hx hb dX0_holds_103 (by decide) ?_
      exact W.zret (v := 1) hx hb hr rfl (fun t ht hW => ⟨congrArg (fun z => Outcome.returned (some (Value.int z))) (by unfold fX0_holds; rw [if_neg c_1_0, if_neg c_1_1, if_pos c_1_2, if_pos c_99] <;> rfl), ht⟩) (fun q h => nomatch h) dX0_holds_107
  by_cases c_1_3 : p0 = (3 : Int32)
  · refine lv_tableIn (off := 93) (tgt := 94) hx hb dX0_holds_1 (by rw [c_1_3]; decide) (by rw [c_1_3]; decide) (by rw [c_1_3]; rfl) (by decide) ?_
    refine lv_iload_n hx hb dX0_holds_94 rfl (lv_at hl 1 rfl) ?_
    refine lv_iload_n hx hb dX0_holds_95 rfl (lv_at hl 2 rfl) ?_
    refine k_ri (va_runS (As := [.int p1, .int p2]) (rest := []) ⟨hx, hb, hml, hown, hB⟩ (mX0_isBelow l p1 p2) (va_cwS 2 hB (gS q_t2_90 q_t2_91 q_t1_11 wX0_isBelow) rfl rfl rfl hX0_isBelow.2 ⟨Nat.le_of_ble_eq_true rfl, Nat.le_of_ble_eq_true rfl⟩) ⟨fun _ _ _ _ q => q, fun U _ _ => ⟨rfl, trivial⟩⟩ rfl rfl hl.1 rfl (lv_room (Nat.le_of_ble_eq_true rfl)) dX0_holds_96 ⟨Nat.zero_le _, Nat.zero_le _⟩) ?_
    refine lv_if_ne (tgt := 106) hx hb dX0_holds_99 (by decide) (fun c_99 => ?_) (fun c_99 => ?_)
    · refine lv_iconst (v := 0) hx hb dX0_holds_106 (by decide) ?_
      exact W.zret (v := 0) hx hb hr rfl (fun t ht hW => ⟨congrArg (fun z => Outcome.returned (some (Value.int z))) (by unfold fX0_holds; rw [if_neg c_1_0, if_neg c_1_1, if_neg c_1_2, if_pos c_1_3, if_neg c_99] <;> rfl), ht⟩) (fun q h => nomatch h) dX0_holds_107
    · refine lv_iconst (v := 1) hx hb dX0_holds_102 (by decide) ?_
      refine lv_goto (tgt := 107) hx hb dX0_holds_103 (by decide) ?_
      exact W.zret (v := 1) hx hb hr rfl (fun t ht hW => ⟨congrArg (fun z => Outcome.returned (some (Value.int z))) (by unfold fX0_holds; rw [if_neg c_1_0, if_neg c_1_1, if_neg c_1_2, if_pos c_1_3, if_pos c_99] <;> rfl), ht⟩) (fun q h => nomatch h) dX0_holds_107
  by_cases c_1_4 : p0 = (4 : Int32)
  · refine lv_tableIn (off := 65) (tgt := 66) hx hb dX0_holds_1 (by rw [c_1_4]; decide) (by rw [c_1_4]; decide) (by rw [c_1_4]; rfl) (by decide) ?_
    refine lv_iload_n hx hb dX0_holds_66 rfl (lv_at hl 1 rfl) ?_
    refine lv_iload_n hx hb dX0_holds_67 rfl (lv_at hl 2 rfl) ?_
    refine lv_icmp_ge (tgt := 75) hx hb dX0_holds_68 (by decide) (fun c_68 => ?_) (fun c_68 => ?_)
    · refine lv_iconst (v := 0) hx hb dX0_holds_75 (by decide) ?_
      exact W.zret (v := 0) hx hb hr rfl (fun t ht hW => ⟨congrArg (fun z => Outcome.returned (some (Value.int z))) (by unfold fX0_holds; rw [if_neg c_1_0, if_neg c_1_1, if_neg c_1_2, if_neg c_1_3, if_pos c_1_4, if_pos c_68] <;> rfl), ht⟩) (fun q h => nomatch h) dX0_holds_76
    · refine lv_iconst (v := 1) hx hb dX0_holds_71 (by decide) ?_
      refine lv_goto (tgt := 76) hx hb dX0_holds_72 (by decide) ?_
      exact W.zret (v := 1) hx hb hr rfl (fun t ht hW => ⟨congrArg (fun z => Outcome.returned (some (Value.int z))) (by unfold fX0_holds; rw [if_neg c_1_0, if_neg c_1_1, if_neg c_1_2, if_neg c_1_3, if_pos c_1_4, if_neg c_68] <;> rfl), ht⟩) (fun q h => nomatch h) dX0_holds_76
  by_cases c_1_5 : p0 = (5 : Int32)
  · refine lv_tableIn (off := 76) (tgt := 77) hx hb dX0_holds_1 (by rw [c_1_5]; decide) (by rw [c_1_5]; decide) (by rw [c_1_5]; rfl) (by decide) ?_
    refine lv_iload_n hx hb dX0_holds_77 rfl (lv_at hl 1 rfl) ?_
    refine lv_iload_n hx hb dX0_holds_78 rfl (lv_at hl 2 rfl) ?_
    refine lv_icmp_lt (tgt := 86) hx hb dX0_holds_79 (by decide) (fun c_79 => ?_) (fun c_79 => ?_)
    · refine lv_iconst (v := 0) hx hb dX0_holds_86 (by decide) ?_
      exact W.zret (v := 0) hx hb hr rfl (fun t ht hW => ⟨congrArg (fun z => Outcome.returned (some (Value.int z))) (by unfold fX0_holds; rw [if_neg c_1_0, if_neg c_1_1, if_neg c_1_2, if_neg c_1_3, if_neg c_1_4, if_pos c_1_5, if_pos c_79] <;> rfl), ht⟩) (fun q h => nomatch h) dX0_holds_87
    · refine lv_iconst (v := 1) hx hb dX0_holds_82 (by decide) ?_
      refine lv_goto (tgt := 87) hx hb dX0_holds_83 (by decide) ?_
      exact W.zret (v := 1) hx hb hr rfl (fun t ht hW => ⟨congrArg (fun z => Outcome.returned (some (Value.int z))) (by unfold fX0_holds; rw [if_neg c_1_0, if_neg c_1_1, if_neg c_1_2, if_neg c_1_3, if_neg c_1_4, if_pos c_1_5, if_neg c_79] <;> rfl), ht⟩) (fun q h => nomatch h) dX0_holds_87
  by_cases c_1_6 : p0 = (6 : Int32)
  · refine lv_tableIn (off := 87) (tgt := 88) hx hb dX0_holds_1 (by rw [c_1_6]; decide) (by rw [c_1_6]; decide) (by rw [c_1_6]; rfl) (by decide) ?_
    refine lv_iload_n hx hb dX0_holds_88 rfl (lv_at hl 1 rfl) ?_
    refine lv_iload_n hx hb dX0_holds_89 rfl (lv_at hl 2 rfl) ?_
    refine k_ri (va_runS (As := [.int p1, .int p2]) (rest := []) ⟨hx, hb, hml, hown, hB⟩ (mX0_isBelow l p1 p2) (va_cwS 2 hB (gS q_t2_90 q_t2_91 q_t1_11 wX0_isBelow) rfl rfl rfl hX0_isBelow.2 ⟨Nat.le_of_ble_eq_true rfl, Nat.le_of_ble_eq_true rfl⟩) ⟨fun _ _ _ _ q => q, fun U _ _ => ⟨rfl, trivial⟩⟩ rfl rfl hl.1 rfl (lv_room (Nat.le_of_ble_eq_true rfl)) dX0_holds_90 ⟨Nat.zero_le _, Nat.zero_le _⟩) ?_
    exact W.zret (v := bi (fX0_isBelow p1 p2)) hx hb hr (bi_nar _) (fun t ht hW => ⟨congrArg (fun z => Outcome.returned (some (Value.int z))) (by unfold fX0_holds; rw [if_neg c_1_0, if_neg c_1_1, if_neg c_1_2, if_neg c_1_3, if_neg c_1_4, if_neg c_1_5, if_pos c_1_6] <;> rfl), ht⟩) (fun q h => nomatch h) dX0_holds_93
  refine lv_tableOut (tgt := 94) hx hb dX0_holds_1 (by have h0 := lv_neT (a := 0) c_1_0 (by decide); have h1 := lv_neT (a := 1) c_1_1 (by decide); have h2 := lv_neT (a := 2) c_1_2 (by decide); have h3 := lv_neT (a := 3) c_1_3 (by decide); have h4 := lv_neT (a := 4) c_1_4 (by decide); have h5 := lv_neT (a := 5) c_1_5 (by decide); have h6 := lv_neT (a := 6) c_1_6 (by decide); omega) (by decide) ?_
  refine lv_iload_n hx hb dX0_holds_94 rfl (lv_at hl 1 rfl) ?_
  refine lv_iload_n hx hb dX0_holds_95 rfl (lv_at hl 2 rfl) ?_
  refine k_ri (va_runS (As := [.int p1, .int p2]) (rest := []) ⟨hx, hb, hml, hown, hB⟩ (mX0_isBelow l p1 p2) (va_cwS 2 hB (gS q_t2_90 q_t2_91 q_t1_11 wX0_isBelow) rfl rfl rfl hX0_isBelow.2 ⟨Nat.le_of_ble_eq_true rfl, Nat.le_of_ble_eq_true rfl⟩) ⟨fun _ _ _ _ q => q, fun U _ _ => ⟨rfl, trivial⟩⟩ rfl rfl hl.1 rfl (lv_room (Nat.le_of_ble_eq_true rfl)) dX0_holds_96 ⟨Nat.zero_le _, Nat.zero_le _⟩) ?_
  refine lv_if_ne (tgt := 106) hx hb dX0_holds_99 (by decide) (fun c_99 => ?_) (fun c_99 => ?_)
  · refine lv_iconst (v := 0) hx hb dX0_holds_106 (by decide) ?_
    exact W.zret (v := 0) hx hb hr rfl (fun t ht hW => ⟨congrArg (fun z => Outcome.returned (some (Value.int z))) (by unfold fX0_holds; rw [if_neg c_1_0, if_neg c_1_1, if_neg c_1_2, if_neg c_1_3, if_neg c_1_4, if_neg c_1_5, if_neg c_1_6, if_neg c_99] <;> rfl), ht⟩) (fun q h => nomatch h) dX0_holds_107
  · refine lv_iconst (v := 1) hx hb dX0_holds_102 (by decide) ?_
    refine lv_goto (tgt := 107) hx hb dX0_holds_103 (by decide) ?_
    exact W.zret (v := 1) hx hb hr rfl (fun t ht hW => ⟨congrArg (fun z => Outcome.returned (some (Value.int z))) (by unfold fX0_holds; rw [if_neg c_1_0, if_neg c_1_1, if_neg c_1_2, if_neg c_1_3, if_neg c_1_4, if_neg c_1_5, if_neg c_1_6, if_pos c_99] <;> rfl), ht⟩) (fun q h => nomatch h) dX0_holds_107
def fX0_basic (p0 : Int32) (p1 : Int32) (p2 : Int32) : Int32 := if p0 = (0 : Int32) then
    p1 + p2
  else
    if p0 = (1 : Int32) then
      p1 <<< ((p2 &&& (31 : Int32)) &&& 31)
    else
      if p0 = (2 : Int32) then
        if p2 ≤ p1 then
          (0 : Int32)
        else
          (1 : Int32)
      else
        if p0 = (3 : Int32) then
          if (bi (fX0_isBelow p1 p2)) = 0 then
            (0 : Int32)
          else
            (1 : Int32)
        else
          if p0 = (4 : Int32) then
            p1 ^^^ p2
          else
            if p0 = (5 : Int32) then
              ush p1 (p2 &&& (31 : Int32))
            else
              if p0 = (6 : Int32) then
                p1 ||| p2
              else
                p1 &&& p2
set_option maxHeartbeats 4000000 in
set_option maxRecDepth 100000 in
theorem mX0_basic (l : Launch) (p0 : Int32) (p1 : Int32) (p2 : Int32) : Met l yX0_basic wsX0_basic ({ frames := 1, cells := 0, slots := 0, locals := 21 }) (va_Pc [.int p0, .int p1, .int p2] (fun _ => True)) (QcRead ((fX0_basic p0 p1 p2))) 0 0 (fun _ => False) := by
  refine Met.ofW (cc := cX0_basic) (maxL := 3) (ret := (some .int)) (by decide) rfl ?_
  intro p e s m args below meth c s₁ B hml hv
  obtain ⟨rfl, -⟩ := hv
  have hx := B.exec
  have hb := B.bytes
  have hr := B.returns
  have hB := fun (w : Cond) (h : w ∈ BIG) => atoms_spec (ws := wsX0_basic) B.pre w (List.mem_cons_of_mem _ h)
  have hown : s.vm.findClass RX0 = some m.cls := findClass_of_methodNamed B.named
  have hlocks := B.notSynchronized
  have hl := lv_entry ([.int p0, .int p1, .int p2]) (n := 3) (Nat.le_of_ble_eq_true rfl)
  rw [lg_entry_eq]
  generalize (lg_sl ([.int p0, .int p1, .int p2]) ++ List.replicate (3 - (lg_sl ([.int p0, .int p1, .int p2])).length) Slot.unset).toArray = ls at hl ⊢
  have hl : lv_has ls 3 [(0, .int p0), (1, .int p1), (2, .int p2)] := hl
  refine lv_iload_n hx hb dX0_basic_0 rfl (lv_at hl 0 rfl) ?_
  by_cases c_1_0 : p0 = (0 : Int32)
  · refine lv_tableIn (off := 43) (tgt := 44) hx hb dX0_basic_1 (by rw [c_1_0]; decide) (by rw [c_1_0]; decide) (by rw [c_1_0]; rfl) (by decide) ?_
    refine lv_iload_n hx hb dX0_basic_44 rfl (lv_at hl 1 rfl) ?_
    refine lv_iload_n hx hb dX0_basic_45 rfl (lv_at hl 2 rfl) ?_
    refine lv_iadd hx hb dX0_basic_46 ?_
    exact W.iret (v := p1 + p2) hx hb hr (fun t ht hW => ⟨congrArg (fun z => Outcome.returned (some (Value.int z))) (by unfold fX0_basic; rw [if_pos c_1_0] <;> rfl), ht⟩) (fun q h => nomatch h) dX0_basic_47
  by_cases c_1_1 : p0 = (1 : Int32)
  · refine lv_tableIn (off := 47) (tgt := 48) hx hb dX0_basic_1 (by rw [c_1_1]; decide) (by rw [c_1_1]; decide) (by rw [c_1_1]; rfl) (by decide) ?_
    refine lv_iload_n hx hb dX0_basic_48 rfl (lv_at hl 1 rfl) ?_
    refine lv_iload_n hx hb dX0_basic_49 rfl (lv_at hl 2 rfl) ?_
    refine lv_bipush (v := 31) hx hb dX0_basic_50 (by decide) ?_
    refine lv_iand hx hb dX0_basic_52 ?_
    refine lv_ishl hx hb dX0_basic_53 ?_
    exact W.iret (v := p1 <<< ((p2 &&& (31 : Int32)) &&& 31)) hx hb hr (fun t ht hW => ⟨congrArg (fun z => Outcome.returned (some (Value.int z))) (by unfold fX0_basic; rw [if_neg c_1_0, if_pos c_1_1] <;> rfl), ht⟩) (fun q h => nomatch h) dX0_basic_54
  by_cases c_1_2 : p0 = (2 : Int32)
  · refine lv_tableIn (off := 54) (tgt := 55) hx hb dX0_basic_1 (by rw [c_1_2]; decide) (by rw [c_1_2]; decide) (by rw [c_1_2]; rfl) (by decide) ?_
    refine lv_iload_n hx hb dX0_basic_55 rfl (lv_at hl 1 rfl) ?_
    refine lv_iload_n hx hb dX0_basic_56 rfl (lv_at hl 2 rfl) ?_
    refine lv_icmp_ge (tgt := 64) hx hb dX0_basic_57 (by decide) (fun c_57 => ?_) (fun c_57 => ?_)
    · refine lv_iconst (v := 0) hx hb dX0_basic_64 (by decide) ?_
      exact W.iret (v := (0 : Int32)) hx hb hr (fun t ht hW => ⟨congrArg (fun z => Outcome.returned (some (Value.int z))) (by unfold fX0_basic; rw [if_neg c_1_0, if_neg c_1_1, if_pos c_1_2, if_pos c_57] <;> rfl), ht⟩) (fun q h => nomatch h) dX0_basic_65
    · refine lv_iconst (v := 1) hx hb dX0_basic_60 (by decide) ?_
      refine lv_goto (tgt := 65) hx hb dX0_basic_61 (by decide) ?_
      exact W.iret (v := (1 : Int32)) hx hb hr (fun t ht hW => ⟨congrArg (fun z => Outcome.returned (some (Value.int z))) (by unfold fX0_basic; rw [if_neg c_1_0, if_neg c_1_1, if_pos c_1_2, if_neg c_57] <;> rfl), ht⟩) (fun q h => nomatch h) dX0_basic_65
  by_cases c_1_3 : p0 = (3 : Int32)
  · refine lv_tableIn (off := 65) (tgt := 66) hx hb dX0_basic_1 (by rw [c_1_3]; decide) (by rw [c_1_3]; decide) (by rw [c_1_3]; rfl) (by decide) ?_
    refine lv_iload_n hx hb dX0_basic_66 rfl (lv_at hl 1 rfl) ?_
    refine lv_iload_n hx hb dX0_basic_67 rfl (lv_at hl 2 rfl) ?_
    refine k_ri (va_runS (As := [.int p1, .int p2]) (rest := []) ⟨hx, hb, hml, hown, hB⟩ (mX0_isBelow l p1 p2) (va_cwS 2 hB (gS q_t2_90 q_t2_91 q_t1_11 wX0_isBelow) rfl rfl rfl hX0_isBelow.2 ⟨Nat.le_of_ble_eq_true rfl, Nat.le_of_ble_eq_true rfl⟩) ⟨fun _ _ _ _ q => q, fun U _ _ => ⟨rfl, trivial⟩⟩ rfl rfl hl.1 rfl (lv_room (Nat.le_of_ble_eq_true rfl)) dX0_basic_68 ⟨Nat.zero_le _, Nat.zero_le _⟩) ?_
    refine lv_if_eq (tgt := 78) hx hb dX0_basic_71 (by decide) (fun c_71 => ?_) (fun c_71 => ?_)
    · refine lv_iconst (v := 0) hx hb dX0_basic_78 (by decide) ?_
      exact W.iret (v := (0 : Int32)) hx hb hr (fun t ht hW => ⟨congrArg (fun z => Outcome.returned (some (Value.int z))) (by unfold fX0_basic; rw [if_neg c_1_0, if_neg c_1_1, if_neg c_1_2, if_pos c_1_3, if_pos c_71] <;> rfl), ht⟩) (fun q h => nomatch h) dX0_basic_79
    · refine lv_iconst (v := 1) hx hb dX0_basic_74 (by decide) ?_
      refine lv_goto (tgt := 79) hx hb dX0_basic_75 (by decide) ?_
      exact W.iret (v := (1 : Int32)) hx hb hr (fun t ht hW => ⟨congrArg (fun z => Outcome.returned (some (Value.int z))) (by unfold fX0_basic; rw [if_neg c_1_0, if_neg c_1_1, if_neg c_1_2, if_pos c_1_3, if_neg c_71] <;> rfl), ht⟩) (fun q h => nomatch h) dX0_basic_79
  by_cases c_1_4 : p0 = (4 : Int32)
  · refine lv_tableIn (off := 79) (tgt := 80) hx hb dX0_basic_1 (by rw [c_1_4]; decide) (by rw [c_1_4]; decide) (by rw [c_1_4]; rfl) (by decide) ?_
    refine lv_iload_n hx hb dX0_basic_80 rfl (lv_at hl 1 rfl) ?_
    refine lv_iload_n hx hb dX0_basic_81 rfl (lv_at hl 2 rfl) ?_
    refine lv_ixor hx hb dX0_basic_82 ?_
    exact W.iret (v := p1 ^^^ p2) hx hb hr (fun t ht hW => ⟨congrArg (fun z => Outcome.returned (some (Value.int z))) (by unfold fX0_basic; rw [if_neg c_1_0, if_neg c_1_1, if_neg c_1_2, if_neg c_1_3, if_pos c_1_4] <;> rfl), ht⟩) (fun q h => nomatch h) dX0_basic_83
  by_cases c_1_5 : p0 = (5 : Int32)
  · refine lv_tableIn (off := 83) (tgt := 84) hx hb dX0_basic_1 (by rw [c_1_5]; decide) (by rw [c_1_5]; decide) (by rw [c_1_5]; rfl) (by decide) ?_
    refine lv_iload_n hx hb dX0_basic_84 rfl (lv_at hl 1 rfl) ?_
    refine lv_iload_n hx hb dX0_basic_85 rfl (lv_at hl 2 rfl) ?_
    refine lv_bipush (v := 31) hx hb dX0_basic_86 (by decide) ?_
    refine lv_iand hx hb dX0_basic_88 ?_
    refine lv_iushr (v := ush p1 (p2 &&& (31 : Int32))) hx hb dX0_basic_89 rfl ?_
    exact W.iret (v := ush p1 (p2 &&& (31 : Int32))) hx hb hr (fun t ht hW => ⟨congrArg (fun z => Outcome.returned (some (Value.int z))) (by unfold fX0_basic; rw [if_neg c_1_0, if_neg c_1_1, if_neg c_1_2, if_neg c_1_3, if_neg c_1_4, if_pos c_1_5] <;> rfl), ht⟩) (fun q h => nomatch h) dX0_basic_90
  by_cases c_1_6 : p0 = (6 : Int32)
  · refine lv_tableIn (off := 90) (tgt := 91) hx hb dX0_basic_1 (by rw [c_1_6]; decide) (by rw [c_1_6]; decide) (by rw [c_1_6]; rfl) (by decide) ?_
    refine lv_iload_n hx hb dX0_basic_91 rfl (lv_at hl 1 rfl) ?_
    refine lv_iload_n hx hb dX0_basic_92 rfl (lv_at hl 2 rfl) ?_
    refine lv_ior hx hb dX0_basic_93 ?_
    exact W.iret (v := p1 ||| p2) hx hb hr (fun t ht hW => ⟨congrArg (fun z => Outcome.returned (some (Value.int z))) (by unfold fX0_basic; rw [if_neg c_1_0, if_neg c_1_1, if_neg c_1_2, if_neg c_1_3, if_neg c_1_4, if_neg c_1_5, if_pos c_1_6] <;> rfl), ht⟩) (fun q h => nomatch h) dX0_basic_94
  refine lv_tableOut (tgt := 95) hx hb dX0_basic_1 (by have h0 := lv_neT (a := 0) c_1_0 (by decide); have h1 := lv_neT (a := 1) c_1_1 (by decide); have h2 := lv_neT (a := 2) c_1_2 (by decide); have h3 := lv_neT (a := 3) c_1_3 (by decide); have h4 := lv_neT (a := 4) c_1_4 (by decide); have h5 := lv_neT (a := 5) c_1_5 (by decide); have h6 := lv_neT (a := 6) c_1_6 (by decide); omega) (by decide) ?_
  refine lv_iload_n hx hb dX0_basic_95 rfl (lv_at hl 1 rfl) ?_
  refine lv_iload_n hx hb dX0_basic_96 rfl (lv_at hl 2 rfl) ?_
  refine lv_iand hx hb dX0_basic_97 ?_
  exact W.iret (v := p1 &&& p2) hx hb hr (fun t ht hW => ⟨congrArg (fun z => Outcome.returned (some (Value.int z))) (by unfold fX0_basic; rw [if_neg c_1_0, if_neg c_1_1, if_neg c_1_2, if_neg c_1_3, if_neg c_1_4, if_neg c_1_5, if_neg c_1_6] <;> rfl), ht⟩) (fun q h => nomatch h) dX0_basic_98
def fX0_quotient (p0 : Int64) (p1 : Int64) : Int32 := if (lg_cmp p1 (0 : Int64)) = 0 then
    (-1 : Int32)
  else
    (p0 / p1).toInt32
set_option maxHeartbeats 4000000 in
set_option maxRecDepth 100000 in
theorem mX0_quotient (l : Launch) (p0 : Int64) (p1 : Int64) : Met l yX0_quotient wsX0_quotient ({ frames := 0, cells := 0, slots := 0, locals := 0 }) (va_Pc [.long p0, .long p1] (fun _ => True)) (QcRead ((fX0_quotient p0 p1))) 0 0 (fun _ => False) := by
  refine Met.ofW (cc := cX0_quotient) (maxL := 4) (ret := (some .int)) (by decide) rfl ?_
  intro p e s m args below meth c s₁ B hml hv
  obtain ⟨rfl, -⟩ := hv
  have hx := B.exec
  have hb := B.bytes
  have hr := B.returns
  have hB := fun (w : Cond) (h : w ∈ BIG) => atoms_spec (ws := wsX0_quotient) B.pre w (List.mem_cons_of_mem _ h)
  have hown : s.vm.findClass RX0 = some m.cls := findClass_of_methodNamed B.named
  have hlocks := B.notSynchronized
  have hl := lv_entry ([.long p0, .long p1]) (n := 4) (Nat.le_of_ble_eq_true rfl)
  rw [lg_entry_eq]
  generalize (lg_sl ([.long p0, .long p1]) ++ List.replicate (4 - (lg_sl ([.long p0, .long p1])).length) Slot.unset).toArray = ls at hl ⊢
  have hl : lv_has ls 4 [(0, .long p0), (2, .long p1)] := hl
  refine lv_lload_n hx hb dX0_quotient_0 rfl (lv_at hl 1 rfl) ?_
  refine lv_lconst (v := 0) hx hb dX0_quotient_1 (by decide) ?_
  refine W.lcmp hx hb dX0_quotient_2 ?_
  refine lv_if_ne (tgt := 10) hx hb dX0_quotient_3 (by decide) (fun c_3 => ?_) (fun c_3 => ?_)
  · refine lv_lload_n hx hb dX0_quotient_10 rfl (lv_at hl 0 rfl) ?_
    refine lv_lload_n hx hb dX0_quotient_11 rfl (lv_at hl 1 rfl) ?_
    refine lv_ldiv hx hb dX0_quotient_12 (lg_ne c_3) ?_
    refine lv_l2i (v := (p0 / p1).toInt32) hx hb dX0_quotient_13 rfl ?_
    exact W.iret (v := (p0 / p1).toInt32) hx hb hr (fun t ht hW => ⟨congrArg (fun z => Outcome.returned (some (Value.int z))) (by unfold fX0_quotient; rw [if_neg c_3] <;> rfl), ht⟩) (fun q h => nomatch h) dX0_quotient_14
  · refine lv_iconst (v := -1) hx hb dX0_quotient_6 (by decide) ?_
    refine lv_goto (tgt := 14) hx hb dX0_quotient_7 (by decide) ?_
    exact W.iret (v := (-1 : Int32)) hx hb hr (fun t ht hW => ⟨congrArg (fun z => Outcome.returned (some (Value.int z))) (by unfold fX0_quotient; rw [if_pos c_3] <;> rfl), ht⟩) (fun q h => nomatch h) dX0_quotient_14
def fX0_rest (p0 : Int64) (p1 : Int64) : Int32 := if (lg_cmp p1 (0 : Int64)) = 0 then
    p0.toInt32
  else
    (p0 - p0 / p1 * p1).toInt32
set_option maxHeartbeats 4000000 in
set_option maxRecDepth 100000 in
theorem mX0_rest (l : Launch) (p0 : Int64) (p1 : Int64) : Met l yX0_rest wsX0_rest ({ frames := 0, cells := 0, slots := 0, locals := 0 }) (va_Pc [.long p0, .long p1] (fun _ => True)) (QcRead ((fX0_rest p0 p1))) 0 0 (fun _ => False) := by
  refine Met.ofW (cc := cX0_rest) (maxL := 4) (ret := (some .int)) (by decide) rfl ?_
  intro p e s m args below meth c s₁ B hml hv
  obtain ⟨rfl, -⟩ := hv
  have hx := B.exec
  have hb := B.bytes
  have hr := B.returns
  have hB := fun (w : Cond) (h : w ∈ BIG) => atoms_spec (ws := wsX0_rest) B.pre w (List.mem_cons_of_mem _ h)
  have hown : s.vm.findClass RX0 = some m.cls := findClass_of_methodNamed B.named
  have hlocks := B.notSynchronized
  have hl := lv_entry ([.long p0, .long p1]) (n := 4) (Nat.le_of_ble_eq_true rfl)
  rw [lg_entry_eq]
  generalize (lg_sl ([.long p0, .long p1]) ++ List.replicate (4 - (lg_sl ([.long p0, .long p1])).length) Slot.unset).toArray = ls at hl ⊢
  have hl : lv_has ls 4 [(0, .long p0), (2, .long p1)] := hl
  refine lv_lload_n hx hb dX0_rest_0 rfl (lv_at hl 1 rfl) ?_
  refine lv_lconst (v := 0) hx hb dX0_rest_1 (by decide) ?_
  refine W.lcmp hx hb dX0_rest_2 ?_
  refine lv_if_ne (tgt := 11) hx hb dX0_rest_3 (by decide) (fun c_3 => ?_) (fun c_3 => ?_)
  · refine lv_lload_n hx hb dX0_rest_11 rfl (lv_at hl 0 rfl) ?_
    refine lv_lload_n hx hb dX0_rest_12 rfl (lv_at hl 1 rfl) ?_
    refine lv_lrem hx hb dX0_rest_13 (lg_ne c_3) ?_
    refine lv_l2i (v := (p0 - p0 / p1 * p1).toInt32) hx hb dX0_rest_14 rfl ?_
    exact W.iret (v := (p0 - p0 / p1 * p1).toInt32) hx hb hr (fun t ht hW => ⟨congrArg (fun z => Outcome.returned (some (Value.int z))) (by unfold fX0_rest; rw [if_neg c_3] <;> rfl), ht⟩) (fun q h => nomatch h) dX0_rest_15
  · refine lv_lload_n hx hb dX0_rest_6 rfl (lv_at hl 0 rfl) ?_
    refine lv_l2i (v := p0.toInt32) hx hb dX0_rest_7 rfl ?_
    refine lv_goto (tgt := 15) hx hb dX0_rest_8 (by decide) ?_
    exact W.iret (v := p0.toInt32) hx hb hr (fun t ht hW => ⟨congrArg (fun z => Outcome.returned (some (Value.int z))) (by unfold fX0_rest; rw [if_pos c_3] <;> rfl), ht⟩) (fun q h => nomatch h) dX0_rest_15
def fX0_productOrQuotient (p0 : Int32) (p1 : Int32) (p2 : Int32) : Int32 := if p0 = (0 : Int32) then
    p1 * p2
  else
    if p0 = (1 : Int32) then
      (lshrf (p1.toInt64 * p2.toInt64) (32 : Int32)).toInt32
    else
      if p0 = (2 : Int32) then
        (lshrf (p1.toInt64 * (p2.toInt64 &&& (4294967295 : Int64))) (32 : Int32)).toInt32
      else
        if p0 = (3 : Int32) then
          (lushf ((p1.toInt64 &&& (4294967295 : Int64)) * (p2.toInt64 &&& (4294967295 : Int64))) (32 : Int32)).toInt32
        else
          if p0 = (4 : Int32) then
            fX0_quotient p1.toInt64 p2.toInt64
          else
            if p0 = (5 : Int32) then
              fX0_quotient (p1.toInt64 &&& (4294967295 : Int64)) (p2.toInt64 &&& (4294967295 : Int64))
            else
              if p0 = (6 : Int32) then
                fX0_rest p1.toInt64 p2.toInt64
              else
                fX0_rest (p1.toInt64 &&& (4294967295 : Int64)) (p2.toInt64 &&& (4294967295 : Int64))
set_option maxHeartbeats 4000000 in
set_option maxRecDepth 100000 in
theorem mX0_productOrQuotient (l : Launch) (p0 : Int32) (p1 : Int32) (p2 : Int32) : Met l yX0_productOrQuotient wsX0_productOrQuotient ({ frames := 1, cells := 0, slots := 0, locals := 23 }) (va_Pc [.int p0, .int p1, .int p2] (fun _ => True)) (QcRead ((fX0_productOrQuotient p0 p1 p2))) 0 0 (fun _ => False) := by
  refine Met.ofW (cc := cX0_productOrQuotient) (maxL := 3) (ret := (some .int)) (by decide) rfl ?_
  intro p e s m args below meth c s₁ B hml hv
  obtain ⟨rfl, -⟩ := hv
  have hx := B.exec
  have hb := B.bytes
  have hr := B.returns
  have hB := fun (w : Cond) (h : w ∈ BIG) => atoms_spec (ws := wsX0_productOrQuotient) B.pre w (List.mem_cons_of_mem _ h)
  have hown : s.vm.findClass RX0 = some m.cls := findClass_of_methodNamed B.named
  have hlocks := B.notSynchronized
  have hl := lv_entry ([.int p0, .int p1, .int p2]) (n := 3) (Nat.le_of_ble_eq_true rfl)
  rw [lg_entry_eq]
  generalize (lg_sl ([.int p0, .int p1, .int p2]) ++ List.replicate (3 - (lg_sl ([.int p0, .int p1, .int p2])).length) Slot.unset).toArray = ls at hl ⊢
  have hl : lv_has ls 3 [(0, .int p0), (1, .int p1), (2, .int p2)] := hl
  refine lv_iload_n hx hb dX0_productOrQuotient_0 rfl (lv_at hl 0 rfl) ?_
  by_cases c_1_0 : p0 = (0 : Int32)
  · refine lv_tableIn (off := 43) (tgt := 44) hx hb dX0_productOrQuotient_1 (by rw [c_1_0]; decide) (by rw [c_1_0]; decide) (by rw [c_1_0]; rfl) (by decide) ?_
    refine lv_iload_n hx hb dX0_productOrQuotient_44 rfl (lv_at hl 1 rfl) ?_
    refine lv_iload_n hx hb dX0_productOrQuotient_45 rfl (lv_at hl 2 rfl) ?_
    refine lv_imul hx hb dX0_productOrQuotient_46 ?_
    exact W.iret (v := p1 * p2) hx hb hr (fun t ht hW => ⟨congrArg (fun z => Outcome.returned (some (Value.int z))) (by unfold fX0_productOrQuotient; rw [if_pos c_1_0] <;> rfl), ht⟩) (fun q h => nomatch h) dX0_productOrQuotient_47
  by_cases c_1_1 : p0 = (1 : Int32)
  · refine lv_tableIn (off := 47) (tgt := 48) hx hb dX0_productOrQuotient_1 (by rw [c_1_1]; decide) (by rw [c_1_1]; decide) (by rw [c_1_1]; rfl) (by decide) ?_
    refine lv_iload_n hx hb dX0_productOrQuotient_48 rfl (lv_at hl 1 rfl) ?_
    refine lv_i2l (v := p1.toInt64) hx hb dX0_productOrQuotient_49 rfl ?_
    refine lv_iload_n hx hb dX0_productOrQuotient_50 rfl (lv_at hl 2 rfl) ?_
    refine lv_i2l (v := p2.toInt64) hx hb dX0_productOrQuotient_51 rfl ?_
    refine lv_lmul hx hb dX0_productOrQuotient_52 ?_
    refine lv_bipush (v := 32) hx hb dX0_productOrQuotient_53 (by decide) ?_
    refine lv_lshr (v := lshrf (p1.toInt64 * p2.toInt64) (32 : Int32)) hx hb dX0_productOrQuotient_55 rfl ?_
    refine lv_l2i (v := (lshrf (p1.toInt64 * p2.toInt64) (32 : Int32)).toInt32) hx hb dX0_productOrQuotient_56 rfl ?_
    exact W.iret (v := (lshrf (p1.toInt64 * p2.toInt64) (32 : Int32)).toInt32) hx hb hr (fun t ht hW => ⟨congrArg (fun z => Outcome.returned (some (Value.int z))) (by unfold fX0_productOrQuotient; rw [if_neg c_1_0, if_pos c_1_1] <;> rfl), ht⟩) (fun q h => nomatch h) dX0_productOrQuotient_57
  by_cases c_1_2 : p0 = (2 : Int32)
  · refine lv_tableIn (off := 57) (tgt := 58) hx hb dX0_productOrQuotient_1 (by rw [c_1_2]; decide) (by rw [c_1_2]; decide) (by rw [c_1_2]; rfl) (by decide) ?_
    refine lv_iload_n hx hb dX0_productOrQuotient_58 rfl (lv_at hl 1 rfl) ?_
    refine lv_i2l (v := p1.toInt64) hx hb dX0_productOrQuotient_59 rfl ?_
    refine lv_iload_n hx hb dX0_productOrQuotient_60 rfl (lv_at hl 2 rfl) ?_
    refine lv_i2l (v := p2.toInt64) hx hb dX0_productOrQuotient_61 rfl ?_
    refine lv_ldc2 (v := 4294967295) hx hb hown (hB _ q_t2_93) dX0_productOrQuotient_62 ?_
    refine lv_land hx hb dX0_productOrQuotient_65 ?_
    refine lv_lmul hx hb dX0_productOrQuotient_66 ?_
    refine lv_bipush (v := 32) hx hb dX0_productOrQuotient_67 (by decide) ?_
    refine lv_lshr (v := lshrf (p1.toInt64 * (p2.toInt64 &&& (4294967295 : Int64))) (32 : Int32)) hx hb dX0_productOrQuotient_69 rfl ?_
    refine lv_l2i (v := (lshrf (p1.toInt64 * (p2.toInt64 &&& (4294967295 : Int64))) (32 : Int32)).toInt32) hx hb dX0_productOrQuotient_70 rfl ?_
    exact W.iret (v := (lshrf (p1.toInt64 * (p2.toInt64 &&& (4294967295 : Int64))) (32 : Int32)).toInt32) hx hb hr (fun t ht hW => ⟨congrArg (fun z => Outcome.returned (some (Value.int z))) (by unfold fX0_productOrQuotient; rw [if_neg c_1_0, if_neg c_1_1, if_pos c_1_2] <;> rfl), ht⟩) (fun q h => nomatch h) dX0_productOrQuotient_71
  by_cases c_1_3 : p0 = (3 : Int32)
  · refine lv_tableIn (off := 71) (tgt := 72) hx hb dX0_productOrQuotient_1 (by rw [c_1_3]; decide) (by rw [c_1_3]; decide) (by rw [c_1_3]; rfl) (by decide) ?_
    refine lv_iload_n hx hb dX0_productOrQuotient_72 rfl (lv_at hl 1 rfl) ?_
    refine lv_i2l (v := p1.toInt64) hx hb dX0_productOrQuotient_73 rfl ?_
    refine lv_ldc2 (v := 4294967295) hx hb hown (hB _ q_t2_93) dX0_productOrQuotient_74 ?_
    refine lv_land hx hb dX0_productOrQuotient_77 ?_
    refine lv_iload_n hx hb dX0_productOrQuotient_78 rfl (lv_at hl 2 rfl) ?_
    refine lv_i2l (v := p2.toInt64) hx hb dX0_productOrQuotient_79 rfl ?_
    refine lv_ldc2 (v := 4294967295) hx hb hown (hB _ q_t2_93) dX0_productOrQuotient_80 ?_
    refine lv_land hx hb dX0_productOrQuotient_83 ?_
    refine lv_lmul hx hb dX0_productOrQuotient_84 ?_
    refine lv_bipush (v := 32) hx hb dX0_productOrQuotient_85 (by decide) ?_
    refine lv_lushr (v := lushf ((p1.toInt64 &&& (4294967295 : Int64)) * (p2.toInt64 &&& (4294967295 : Int64))) (32 : Int32)) hx hb dX0_productOrQuotient_87 rfl ?_
    refine lv_l2i (v := (lushf ((p1.toInt64 &&& (4294967295 : Int64)) * (p2.toInt64 &&& (4294967295 : Int64))) (32 : Int32)).toInt32) hx hb dX0_productOrQuotient_88 rfl ?_
    exact W.iret (v := (lushf ((p1.toInt64 &&& (4294967295 : Int64)) * (p2.toInt64 &&& (4294967295 : Int64))) (32 : Int32)).toInt32) hx hb hr (fun t ht hW => ⟨congrArg (fun z => Outcome.returned (some (Value.int z))) (by unfold fX0_productOrQuotient; rw [if_neg c_1_0, if_neg c_1_1, if_neg c_1_2, if_pos c_1_3] <;> rfl), ht⟩) (fun q h => nomatch h) dX0_productOrQuotient_89
  by_cases c_1_4 : p0 = (4 : Int32)
  · refine lv_tableIn (off := 89) (tgt := 90) hx hb dX0_productOrQuotient_1 (by rw [c_1_4]; decide) (by rw [c_1_4]; decide) (by rw [c_1_4]; rfl) (by decide) ?_
    refine lv_iload_n hx hb dX0_productOrQuotient_90 rfl (lv_at hl 1 rfl) ?_
    refine lv_i2l (v := p1.toInt64) hx hb dX0_productOrQuotient_91 rfl ?_
    refine lv_iload_n hx hb dX0_productOrQuotient_92 rfl (lv_at hl 2 rfl) ?_
    refine lv_i2l (v := p2.toInt64) hx hb dX0_productOrQuotient_93 rfl ?_
    refine k_ri (va_runS (As := [.long p1.toInt64, .long p2.toInt64]) (rest := []) ⟨hx, hb, hml, hown, hB⟩ (mX0_quotient l p1.toInt64 p2.toInt64) (va_cwS 2 hB (gS q_t2_146 q_t2_147 q_t1_11 wX0_quotient) rfl rfl rfl hX0_quotient.2 ⟨Nat.le_of_ble_eq_true rfl, Nat.le_of_ble_eq_true rfl⟩) ⟨fun _ _ _ _ q => q, fun U _ _ => ⟨rfl, trivial⟩⟩ rfl rfl hl.1 rfl (lv_room (Nat.le_of_ble_eq_true rfl)) dX0_productOrQuotient_94 ⟨Nat.zero_le _, Nat.zero_le _⟩) ?_
    exact W.iret (v := fX0_quotient p1.toInt64 p2.toInt64) hx hb hr (fun t ht hW => ⟨congrArg (fun z => Outcome.returned (some (Value.int z))) (by unfold fX0_productOrQuotient; rw [if_neg c_1_0, if_neg c_1_1, if_neg c_1_2, if_neg c_1_3, if_pos c_1_4] <;> rfl), ht⟩) (fun q h => nomatch h) dX0_productOrQuotient_97
  by_cases c_1_5 : p0 = (5 : Int32)
  · refine lv_tableIn (off := 97) (tgt := 98) hx hb dX0_productOrQuotient_1 (by rw [c_1_5]; decide) (by rw [c_1_5]; decide) (by rw [c_1_5]; rfl) (by decide) ?_
    refine lv_iload_n hx hb dX0_productOrQuotient_98 rfl (lv_at hl 1 rfl) ?_
    refine lv_i2l (v := p1.toInt64) hx hb dX0_productOrQuotient_99 rfl ?_
    refine lv_ldc2 (v := 4294967295) hx hb hown (hB _ q_t2_93) dX0_productOrQuotient_100 ?_
    refine lv_land hx hb dX0_productOrQuotient_103 ?_
    refine lv_iload_n hx hb dX0_productOrQuotient_104 rfl (lv_at hl 2 rfl) ?_
    refine lv_i2l (v := p2.toInt64) hx hb dX0_productOrQuotient_105 rfl ?_
    refine lv_ldc2 (v := 4294967295) hx hb hown (hB _ q_t2_93) dX0_productOrQuotient_106 ?_
    refine lv_land hx hb dX0_productOrQuotient_109 ?_
    refine k_ri (va_runS (As := [.long (p1.toInt64 &&& (4294967295 : Int64)), .long (p2.toInt64 &&& (4294967295 : Int64))]) (rest := []) ⟨hx, hb, hml, hown, hB⟩ (mX0_quotient l (p1.toInt64 &&& (4294967295 : Int64)) (p2.toInt64 &&& (4294967295 : Int64))) (va_cwS 2 hB (gS q_t2_146 q_t2_147 q_t1_11 wX0_quotient) rfl rfl rfl hX0_quotient.2 ⟨Nat.le_of_ble_eq_true rfl, Nat.le_of_ble_eq_true rfl⟩) ⟨fun _ _ _ _ q => q, fun U _ _ => ⟨rfl, trivial⟩⟩ rfl rfl hl.1 rfl (lv_room (Nat.le_of_ble_eq_true rfl)) dX0_productOrQuotient_110 ⟨Nat.zero_le _, Nat.zero_le _⟩) ?_
    exact W.iret (v := fX0_quotient (p1.toInt64 &&& (4294967295 : Int64)) (p2.toInt64 &&& (4294967295 : Int64))) hx hb hr (fun t ht hW => ⟨congrArg (fun z => Outcome.returned (some (Value.int z))) (by unfold fX0_productOrQuotient; rw [if_neg c_1_0, if_neg c_1_1, if_neg c_1_2, if_neg c_1_3, if_neg c_1_4, if_pos c_1_5] <;> rfl), ht⟩) (fun q h => nomatch h) dX0_productOrQuotient_113
  by_cases c_1_6 : p0 = (6 : Int32)
  · refine lv_tableIn (off := 113) (tgt := 114) hx hb dX0_productOrQuotient_1 (by rw [c_1_6]; decide) (by rw [c_1_6]; decide) (by rw [c_1_6]; rfl) (by decide) ?_
    refine lv_iload_n hx hb dX0_productOrQuotient_114 rfl (lv_at hl 1 rfl) ?_
    refine lv_i2l (v := p1.toInt64) hx hb dX0_productOrQuotient_115 rfl ?_
    refine lv_iload_n hx hb dX0_productOrQuotient_116 rfl (lv_at hl 2 rfl) ?_
    refine lv_i2l (v := p2.toInt64) hx hb dX0_productOrQuotient_117 rfl ?_
    refine k_ri (va_runS (As := [.long p1.toInt64, .long p2.toInt64]) (rest := []) ⟨hx, hb, hml, hown, hB⟩ (mX0_rest l p1.toInt64 p2.toInt64) (va_cwS 2 hB (gS q_t2_149 q_t2_150 q_t1_11 wX0_rest) rfl rfl rfl hX0_rest.2 ⟨Nat.le_of_ble_eq_true rfl, Nat.le_of_ble_eq_true rfl⟩) ⟨fun _ _ _ _ q => q, fun U _ _ => ⟨rfl, trivial⟩⟩ rfl rfl hl.1 rfl (lv_room (Nat.le_of_ble_eq_true rfl)) dX0_productOrQuotient_118 ⟨Nat.zero_le _, Nat.zero_le _⟩) ?_
    exact W.iret (v := fX0_rest p1.toInt64 p2.toInt64) hx hb hr (fun t ht hW => ⟨congrArg (fun z => Outcome.returned (some (Value.int z))) (by unfold fX0_productOrQuotient; rw [if_neg c_1_0, if_neg c_1_1, if_neg c_1_2, if_neg c_1_3, if_neg c_1_4, if_neg c_1_5, if_pos c_1_6] <;> rfl), ht⟩) (fun q h => nomatch h) dX0_productOrQuotient_121
  refine lv_tableOut (tgt := 122) hx hb dX0_productOrQuotient_1 (by have h0 := lv_neT (a := 0) c_1_0 (by decide); have h1 := lv_neT (a := 1) c_1_1 (by decide); have h2 := lv_neT (a := 2) c_1_2 (by decide); have h3 := lv_neT (a := 3) c_1_3 (by decide); have h4 := lv_neT (a := 4) c_1_4 (by decide); have h5 := lv_neT (a := 5) c_1_5 (by decide); have h6 := lv_neT (a := 6) c_1_6 (by decide); omega) (by decide) ?_
  refine lv_iload_n hx hb dX0_productOrQuotient_122 rfl (lv_at hl 1 rfl) ?_
  refine lv_i2l (v := p1.toInt64) hx hb dX0_productOrQuotient_123 rfl ?_
  refine lv_ldc2 (v := 4294967295) hx hb hown (hB _ q_t2_93) dX0_productOrQuotient_124 ?_
  refine lv_land hx hb dX0_productOrQuotient_127 ?_
  refine lv_iload_n hx hb dX0_productOrQuotient_128 rfl (lv_at hl 2 rfl) ?_
  refine lv_i2l (v := p2.toInt64) hx hb dX0_productOrQuotient_129 rfl ?_
  refine lv_ldc2 (v := 4294967295) hx hb hown (hB _ q_t2_93) dX0_productOrQuotient_130 ?_
  refine lv_land hx hb dX0_productOrQuotient_133 ?_
  refine k_ri (va_runS (As := [.long (p1.toInt64 &&& (4294967295 : Int64)), .long (p2.toInt64 &&& (4294967295 : Int64))]) (rest := []) ⟨hx, hb, hml, hown, hB⟩ (mX0_rest l (p1.toInt64 &&& (4294967295 : Int64)) (p2.toInt64 &&& (4294967295 : Int64))) (va_cwS 2 hB (gS q_t2_149 q_t2_150 q_t1_11 wX0_rest) rfl rfl rfl hX0_rest.2 ⟨Nat.le_of_ble_eq_true rfl, Nat.le_of_ble_eq_true rfl⟩) ⟨fun _ _ _ _ q => q, fun U _ _ => ⟨rfl, trivial⟩⟩ rfl rfl hl.1 rfl (lv_room (Nat.le_of_ble_eq_true rfl)) dX0_productOrQuotient_134 ⟨Nat.zero_le _, Nat.zero_le _⟩) ?_
  exact W.iret (v := fX0_rest (p1.toInt64 &&& (4294967295 : Int64)) (p2.toInt64 &&& (4294967295 : Int64))) hx hb hr (fun t ht hW => ⟨congrArg (fun z => Outcome.returned (some (Value.int z))) (by unfold fX0_productOrQuotient; rw [if_neg c_1_0, if_neg c_1_1, if_neg c_1_2, if_neg c_1_3, if_neg c_1_4, if_neg c_1_5, if_neg c_1_6] <;> rfl), ht⟩) (fun q h => nomatch h) dX0_productOrQuotient_137
def fX0_exchanged (p0 : Int32) (p1 : Int32) (p2 : Int32) : Int32 := if p0 = (1 : Int32) then
    p2
  else
    if p0 = (2 : Int32) then
      p1 ||| p2
    else
      p1 &&& (p2 ^^^ (-1 : Int32))
set_option maxHeartbeats 4000000 in
set_option maxRecDepth 100000 in
theorem mX0_exchanged (l : Launch) (p0 : Int32) (p1 : Int32) (p2 : Int32) : Met l yX0_exchanged wsX0_exchanged ({ frames := 0, cells := 0, slots := 0, locals := 0 }) (va_Pc [.int p0, .int p1, .int p2] (fun _ => True)) (QcRead ((fX0_exchanged p0 p1 p2))) 0 0 (fun _ => False) := by
  refine Met.ofW (cc := cX0_exchanged) (maxL := 3) (ret := (some .int)) (by decide) rfl ?_
  intro p e s m args below meth c s₁ B hml hv
  obtain ⟨rfl, -⟩ := hv
  have hx := B.exec
  have hb := B.bytes
  have hr := B.returns
  have hB := fun (w : Cond) (h : w ∈ BIG) => atoms_spec (ws := wsX0_exchanged) B.pre w (List.mem_cons_of_mem _ h)
  have hown : s.vm.findClass RX0 = some m.cls := findClass_of_methodNamed B.named
  have hlocks := B.notSynchronized
  have hl := lv_entry ([.int p0, .int p1, .int p2]) (n := 3) (Nat.le_of_ble_eq_true rfl)
  rw [lg_entry_eq]
  generalize (lg_sl ([.int p0, .int p1, .int p2]) ++ List.replicate (3 - (lg_sl ([.int p0, .int p1, .int p2])).length) Slot.unset).toArray = ls at hl ⊢
  have hl : lv_has ls 3 [(0, .int p0), (1, .int p1), (2, .int p2)] := hl
  refine lv_iload_n hx hb dX0_exchanged_0 rfl (lv_at hl 0 rfl) ?_
  by_cases c_1_1 : p0 = (1 : Int32)
  · refine lv_lookup (off := 27) (tgt := 28) hx hb dX0_exchanged_1 (by decide) (by rw [c_1_1]; decide) (by decide) ?_
    refine lv_iload_n hx hb dX0_exchanged_28 rfl (lv_at hl 2 rfl) ?_
    exact W.iret (v := p2) hx hb hr (fun t ht hW => ⟨congrArg (fun z => Outcome.returned (some (Value.int z))) (by unfold fX0_exchanged; rw [if_pos c_1_1] <;> rfl), ht⟩) (fun q h => nomatch h) dX0_exchanged_29
  by_cases c_1_2 : p0 = (2 : Int32)
  · refine lv_lookup (off := 29) (tgt := 30) hx hb dX0_exchanged_1 (by decide) (by rw [c_1_2]; decide) (by decide) ?_
    refine lv_iload_n hx hb dX0_exchanged_30 rfl (lv_at hl 1 rfl) ?_
    refine lv_iload_n hx hb dX0_exchanged_31 rfl (lv_at hl 2 rfl) ?_
    refine lv_ior hx hb dX0_exchanged_32 ?_
    exact W.iret (v := p1 ||| p2) hx hb hr (fun t ht hW => ⟨congrArg (fun z => Outcome.returned (some (Value.int z))) (by unfold fX0_exchanged; rw [if_neg c_1_1, if_pos c_1_2] <;> rfl), ht⟩) (fun q h => nomatch h) dX0_exchanged_33
  refine lv_lookup (off := 33) (tgt := 34) hx hb dX0_exchanged_1 (by decide) ((lv_osw c_1_1 (by decide)).trans ((lv_osw c_1_2 (by decide)).trans rfl)) (by decide) ?_
  refine lv_iload_n hx hb dX0_exchanged_34 rfl (lv_at hl 1 rfl) ?_
  refine lv_iload_n hx hb dX0_exchanged_35 rfl (lv_at hl 2 rfl) ?_
  refine lv_iconst (v := -1) hx hb dX0_exchanged_36 (by decide) ?_
  refine lv_ixor hx hb dX0_exchanged_37 ?_
  refine lv_iand hx hb dX0_exchanged_38 ?_
  exact W.iret (v := p1 &&& (p2 ^^^ (-1 : Int32))) hx hb hr (fun t ht hW => ⟨congrArg (fun z => Outcome.returned (some (Value.int z))) (by unfold fX0_exchanged; rw [if_neg c_1_1, if_neg c_1_2] <;> rfl), ht⟩) (fun q h => nomatch h) dX0_exchanged_39
