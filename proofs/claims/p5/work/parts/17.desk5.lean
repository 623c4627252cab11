def fX4_execute (p0 : Int32) (x : St) : Bool × St := if (fX1_op p0) = (3 : Int32) then
    ((fX4_load p0 x).1, (fX4_load p0 x).2)
  else
    if (fX1_op p0) = (15 : Int32) then
      ((fX4_goOn x).1, (fX4_goOn x).2)
    else
      if (fX1_op p0) = (19 : Int32) then
        ((fX4_computeWithNumber p0 x).1, (fX4_computeWithNumber p0 x).2)
      else
        if (fX1_op p0) = (23 : Int32) then
          ((fX4_goOnWith p0 ((g_pc x) + (fX1_numberU p0)) x).1, (fX4_goOnWith p0 ((g_pc x) + (fX1_numberU p0)) x).2)
        else
          if (fX1_op p0) = (35 : Int32) then
            ((fX4_store p0 x).1, (fX4_store p0 x).2)
          else
            if (fX1_op p0) = (51 : Int32) then
              ((fX4_computeWithRegister p0 x).1, (fX4_computeWithRegister p0 x).2)
            else
              if (fX1_op p0) = (55 : Int32) then
                ((fX4_goOnWith p0 (fX1_numberU p0) x).1, (fX4_goOnWith p0 (fX1_numberU p0) x).2)
              else
                if (fX1_op p0) = (99 : Int32) then
                  ((fX4_branch p0 x).1, (fX4_branch p0 x).2)
                else
                  if (fX1_op p0) = (103 : Int32) then
                    ((fX4_jumpByRegister p0 x).1, (fX4_jumpByRegister p0 x).2)
                  else
                    if (fX1_op p0) = (111 : Int32) then
                      ((fX4_jump (fX1_d p0) ((g_pc x) + (fX1_numberJ p0)) x).1, (fX4_jump (fX1_d p0) ((g_pc x) + (fX1_numberJ p0)) x).2)
                    else
                      if (fX1_op p0) = (115 : Int32) then
                        if (fX1_f p0) = 0 then
                          ((fX4_callSystem p0 x).1, (fX4_callSystem p0 x).2)
                        else
                          ((fX4_exchangeControl p0 x).1, (fX4_exchangeControl p0 x).2)
                      else
                        ((fX4_unknown p0 x).1, (fX4_unknown p0 x).2)
set_option maxHeartbeats 4000000 in
set_option maxRecDepth 100000 in
theorem mX4_execute (l : Launch) (dC : Nat → ClassId) (dI : Nat → Nat → Nat) (aH aM aW aC aR iW iR : Nat) (sz : Nat) (x : St) (p0 : Int32) : Met l yX4_execute wsX4_execute ({ frames := 4, cells := 0, slots := 0, locals := 93 }) (va_Pc [.ref aH, .int p0] (kM (dC, dI) [(iW, .int), (iR, .int)] NW (wD aH aM aW aC aR iW iR x) sz)) (va_Qi (fun r u => r = bi (fX4_execute p0 x).1 ∧ u = (fX4_execute p0 x).2) (fun u t => va_P (dC, dI) vwCl (wD aH aM aW aC aR iW iR u) t.heap) (va_A (wD aH aM aW aC aR iW iR x) sz)) 0 0 (va_A (wD aH aM aW aC aR iW iR x) sz) := by
  refine Met.ofW (cc := cX4_execute) (maxL := 2) (ret := (some .boolean)) (by decide) rfl ?_
  intro p e s m args below meth c s₁ B hml hv
  obtain ⟨rfl, hsz, hD0, hP, hK, hN⟩ := hv
  have hx := B.exec
  have hb := B.bytes
  have hr := B.returns
  have hB := fun (w : Cond) (h : w ∈ BIG) => atoms_spec (ws := wsX4_execute) B.pre w (List.mem_cons_of_mem _ h)
  have hown : s.vm.findClass RX4 = some m.cls := findClass_of_methodNamed B.named
  have hlocks := B.notSynchronized
  subst hsz
  have hD := hD0.self (sz := s.heap.size)
  generalize hAe : va_A (wD aH aM aW aC aR iW iR x) s.heap.size = A at hD ⊢
  have hA : ∀ q : Nat, s.heap.size ≤ q → A q := fun q h => by rw [← hAe]; exact Or.inr h
  have hS : va_S A s.heap s.heap [] := va_S.rf
  have hl := lv_entry ([.ref aH, .int p0]) (n := 2) (Nat.le_of_ble_eq_true rfl)
  rw [lg_entry_eq]
  generalize (lg_sl ([.ref aH, .int p0]) ++ List.replicate (2 - (lg_sl ([.ref aH, .int p0])).length) Slot.unset).toArray = ls at hl ⊢
  have hl : lv_has ls 2 [(0, .ref aH), (1, .int p0)] := hl
  refine lv_iload_n hx hb dX4_execute_0 rfl (lv_at hl 1 rfl) ?_
  refine k_ri (va_runSN (As := [.int p0]) (rest := []) ⟨hx, hb, hml, hown, hB⟩ (mX1_op l p0) ⟨va_cnB 1 hB (good_in wX1_op) rfl rfl rfl (hN _ (List.mem_of_getElem? (i := 13) rfl)) (hB _ q_t1_10) hX1_op.2 ⟨Nat.le_of_ble_eq_true rfl, Nat.le_of_ble_eq_true rfl⟩, hB _ q_t2_28, trivial⟩ ⟨fun _ _ _ _ q => q, fun U _ _ => ⟨rfl, trivial⟩⟩ rfl rfl hl.1 rfl (lv_room (Nat.le_of_ble_eq_true rfl)) dX4_execute_1 ⟨Nat.zero_le _, Nat.zero_le _⟩) ?_
  by_cases c_4_3 : (fX1_op p0) = (3 : Int32)
  · refine lv_lookup (off := 155) (tgt := 159) hx hb dX4_execute_4 (by decide) (by rw [c_4_3]; decide) (by decide) ?_
    refine lv_aload_n hx hb dX4_execute_159 rfl (lv_at hl 0 rfl) ?_
    refine lv_iload_n hx hb dX4_execute_160 rfl (lv_at hl 1 rfl) ?_
    refine k_mi (w := wD aH aM aW aC aR iW iR) wD_ad (va_runV (As := [.int p0]) (rest := []) ⟨hx, hb, hml, hown, hB⟩ (mX4_load l dC dI aH aM aW aC aR iW iR s.heap.size x p0) (cwV 1 hB (gV q_t2_97 q_t2_99 q_s_22 q_t1_1 wX4_load) rfl rfl rfl hX4_load ⟨Nat.le_of_ble_eq_true rfl, Nat.le_of_ble_eq_true rfl⟩) ⟨kM_blind NW_blind, va_recv hK hP (ci := 2) (q0 := 0) rfl rfl, kM_pre NW_warm hP hK hD hN⟩ rfl rfl hl.1 rfl (lv_room (Nat.le_of_ble_eq_true rfl)) dX4_execute_161 ⟨Nat.zero_le _, Nat.zero_le _⟩) hD hS hA (fun r u H locs hw hP hD hS => ?_)
    obtain ⟨rfl, rfl⟩ := hw
    exact W.zret (v := bi (fX4_load p0 x).1) hx hb hr (bi_nar _) (fun t ht hW => ⟨⟨bi (fX4_load p0 x).1, ((fX4_load p0 x).2), rfl, ⟨(by unfold fX4_execute; rw [if_pos c_4_3] <;> rfl), (by unfold fX4_execute; rw [if_pos c_4_3] <;> rfl)⟩, hpT ht hP⟩, hS.F ht⟩) hS.2.2 dX4_execute_164
  by_cases c_4_15 : (fX1_op p0) = (15 : Int32)
  · refine lv_lookup (off := 179) (tgt := 183) hx hb dX4_execute_4 (by decide) (by rw [c_4_15]; decide) (by decide) ?_
    refine lv_aload_n hx hb dX4_execute_183 rfl (lv_at hl 0 rfl) ?_
    refine k_mi (w := wD aH aM aW aC aR iW iR) wD_ad (va_runV (As := []) (rest := []) ⟨hx, hb, hml, hown, hB⟩ (mX4_goOn l dC dI aH aM aW aC aR iW iR s.heap.size x) (cwV 0 hB (gV q_t2_40 q_t2_42 q_s_14 q_t1_1 wX4_goOn) rfl rfl rfl hX4_goOn ⟨Nat.le_of_ble_eq_true rfl, Nat.le_of_ble_eq_true rfl⟩) ⟨kM_blind NW_blind, va_recv hK hP (ci := 2) (q0 := 0) rfl rfl, kM_pre NW_warm hP hK hD hN⟩ rfl rfl hl.1 rfl (lv_room (Nat.le_of_ble_eq_true rfl)) dX4_execute_184 ⟨Nat.zero_le _, Nat.zero_le _⟩) hD hS hA (fun r u H locs hw hP hD hS => ?_)
    obtain ⟨rfl, rfl⟩ := hw
    exact W.zret (v := bi (fX4_goOn x).1) hx hb hr (bi_nar _) (fun t ht hW => ⟨⟨bi (fX4_goOn x).1, ((fX4_goOn x).2), rfl, ⟨(by unfold fX4_execute; rw [if_neg c_4_3, if_pos c_4_15] <;> rfl), (by unfold fX4_execute; rw [if_neg c_4_3, if_pos c_4_15] <;> rfl)⟩, hpT ht hP⟩, hS.F ht⟩) hS.2.2 dX4_execute_187
  by_cases c_4_19 : (fX1_op p0) = (19 : Int32)
  · refine lv_lookup (off := 167) (tgt := 171) hx hb dX4_execute_4 (by decide) (by rw [c_4_19]; decide) (by decide) ?_
    refine lv_aload_n hx hb dX4_execute_171 rfl (lv_at hl 0 rfl) ?_
    refine lv_iload_n hx hb dX4_execute_172 rfl (lv_at hl 1 rfl) ?_
    refine k_mi (w := wD aH aM aW aC aR iW iR) wD_ad (va_runV (As := [.int p0]) (rest := []) ⟨hx, hb, hml, hown, hB⟩ (mX4_computeWithNumber l dC dI aH aM aW aC aR iW iR s.heap.size x p0) (cwV 1 hB (gV q_t2_129 q_t2_131 q_s_26 q_t1_1 wX4_computeWithNumber) rfl rfl rfl hX4_computeWithNumber ⟨Nat.le_of_ble_eq_true rfl, Nat.le_of_ble_eq_true rfl⟩) ⟨kM_blind NW_blind, va_recv hK hP (ci := 2) (q0 := 0) rfl rfl, kM_pre NW_warm hP hK hD hN⟩ rfl rfl hl.1 rfl (lv_room (Nat.le_of_ble_eq_true rfl)) dX4_execute_173 ⟨Nat.zero_le _, Nat.zero_le _⟩) hD hS hA (fun r u H locs hw hP hD hS => ?_)
    obtain ⟨rfl, rfl⟩ := hw
    exact W.zret (v := bi (fX4_computeWithNumber p0 x).1) hx hb hr (bi_nar _) (fun t ht hW => ⟨⟨bi (fX4_computeWithNumber p0 x).1, ((fX4_computeWithNumber p0 x).2), rfl, ⟨(by unfold fX4_execute; rw [if_neg c_4_3, if_neg c_4_15, if_pos c_4_19] <;> rfl), (by unfold fX4_execute; rw [if_neg c_4_3, if_neg c_4_15, if_pos c_4_19] <;> rfl)⟩, hpT ht hP⟩, hS.F ht⟩) hS.2.2 dX4_execute_176
  by_cases c_4_23 : (fX1_op p0) = (23 : Int32)
  · refine lv_lookup (off := 110) (tgt := 114) hx hb dX4_execute_4 (by decide) (by rw [c_4_23]; decide) (by decide) ?_
    refine lv_aload_n hx hb dX4_execute_114 rfl (lv_at hl 0 rfl) ?_
    refine lv_iload_n hx hb dX4_execute_115 rfl (lv_at hl 1 rfl) ?_
    refine lv_aload_n hx hb dX4_execute_116 rfl (lv_at hl 0 rfl) ?_
    refine va_get (D := (dC, dI)) (ci := 2) (v := .int (g_pc x)) (C := RX4) (T := TX4) (N := 7) hx hb hB iX4 hown hK hP 0 rfl rfl 3 (by decide) (hB _ q_t1_73) (fun _ h9 => h9) rfl dX4_execute_117 ?_
    refine lv_iload_n hx hb dX4_execute_120 rfl (lv_at hl 1 rfl) ?_
    refine k_ri (va_runSN (As := [.int p0]) (rest := [.int (g_pc x), .int p0, .ref aH]) ⟨hx, hb, hml, hown, hB⟩ (mX1_numberU l p0) ⟨va_cnB 1 hB (good_in wX1_numberU) rfl rfl rfl (hN _ (List.mem_of_getElem? (i := 14) rfl)) (hB _ q_t1_10) hX1_numberU.2 ⟨Nat.le_of_ble_eq_true rfl, Nat.le_of_ble_eq_true rfl⟩, hB _ q_t2_31, trivial⟩ ⟨fun _ _ _ _ q => q, fun U _ _ => ⟨rfl, trivial⟩⟩ rfl rfl hl.1 rfl (lv_room (Nat.le_of_ble_eq_true rfl)) dX4_execute_121 ⟨Nat.zero_le _, Nat.zero_le _⟩) ?_
    refine lv_iadd hx hb dX4_execute_124 ?_
    refine k_mi (w := wD aH aM aW aC aR iW iR) wD_ad (va_runV (As := [.int p0, .int ((g_pc x) + (fX1_numberU p0))]) (rest := []) ⟨hx, hb, hml, hown, hB⟩ (mX4_goOnWith l dC dI aH aM aW aC aR iW iR s.heap.size x p0 ((g_pc x) + (fX1_numberU p0))) (cwV 2 hB (gV q_t2_33 q_t2_35 q_s_13 q_t1_1 wX4_goOnWith) rfl rfl rfl hX4_goOnWith ⟨Nat.le_of_ble_eq_true rfl, Nat.le_of_ble_eq_true rfl⟩) ⟨kM_blind NW_blind, va_recv hK hP (ci := 2) (q0 := 0) rfl rfl, kM_pre NW_warm hP hK hD hN⟩ rfl rfl hl.1 rfl (lv_room (Nat.le_of_ble_eq_true rfl)) dX4_execute_125 ⟨Nat.zero_le _, Nat.zero_le _⟩) hD hS hA (fun r u H locs hw hP hD hS => ?_)
    obtain ⟨rfl, rfl⟩ := hw
    exact W.zret (v := bi (fX4_goOnWith p0 ((g_pc x) + (fX1_numberU p0)) x).1) hx hb hr (bi_nar _) (fun t ht hW => ⟨⟨bi (fX4_goOnWith p0 ((g_pc x) + (fX1_numberU p0)) x).1, ((fX4_goOnWith p0 ((g_pc x) + (fX1_numberU p0)) x).2), rfl, ⟨(by unfold fX4_execute; rw [if_neg c_4_3, if_neg c_4_15, if_neg c_4_19, if_pos c_4_23] <;> rfl), (by unfold fX4_execute; rw [if_neg c_4_3, if_neg c_4_15, if_neg c_4_19, if_pos c_4_23] <;> rfl)⟩, hpT ht hP⟩, hS.F ht⟩) hS.2.2 dX4_execute_128
  by_cases c_4_35 : (fX1_op p0) = (35 : Int32)
  · refine lv_lookup (off := 161) (tgt := 165) hx hb dX4_execute_4 (by decide) (by rw [c_4_35]; decide) (by decide) ?_
    refine lv_aload_n hx hb dX4_execute_165 rfl (lv_at hl 0 rfl) ?_
    refine lv_iload_n hx hb dX4_execute_166 rfl (lv_at hl 1 rfl) ?_
    refine k_mi (w := wD aH aM aW aC aR iW iR) wD_ad (va_runV (As := [.int p0]) (rest := []) ⟨hx, hb, hml, hown, hB⟩ (mX4_store l dC dI aH aM aW aC aR iW iR s.heap.size x p0) (cwV 1 hB (gV q_t2_113 q_t2_115 q_s_24 q_t1_1 wX4_store) rfl rfl rfl hX4_store ⟨Nat.le_of_ble_eq_true rfl, Nat.le_of_ble_eq_true rfl⟩) ⟨kM_blind NW_blind, va_recv hK hP (ci := 2) (q0 := 0) rfl rfl, kM_pre NW_warm hP hK hD hN⟩ rfl rfl hl.1 rfl (lv_room (Nat.le_of_ble_eq_true rfl)) dX4_execute_167 ⟨Nat.zero_le _, Nat.zero_le _⟩) hD hS hA (fun r u H locs hw hP hD hS => ?_)
    obtain ⟨rfl, rfl⟩ := hw
    exact W.zret (v := bi (fX4_store p0 x).1) hx hb hr (bi_nar _) (fun t ht hW => ⟨⟨bi (fX4_store p0 x).1, ((fX4_store p0 x).2), rfl, ⟨(by unfold fX4_execute; rw [if_neg c_4_3, if_neg c_4_15, if_neg c_4_19, if_neg c_4_23, if_pos c_4_35] <;> rfl), (by unfold fX4_execute; rw [if_neg c_4_3, if_neg c_4_15, if_neg c_4_19, if_neg c_4_23, if_pos c_4_35] <;> rfl)⟩, hpT ht hP⟩, hS.F ht⟩) hS.2.2 dX4_execute_170
  by_cases c_4_51 : (fX1_op p0) = (51 : Int32)
  · refine lv_lookup (off := 173) (tgt := 177) hx hb dX4_execute_4 (by decide) (by rw [c_4_51]; decide) (by decide) ?_
    refine lv_aload_n hx hb dX4_execute_177 rfl (lv_at hl 0 rfl) ?_
    refine lv_iload_n hx hb dX4_execute_178 rfl (lv_at hl 1 rfl) ?_
    refine k_mi (w := wD aH aM aW aC aR iW iR) wD_ad (va_runV (As := [.int p0]) (rest := []) ⟨hx, hb, hml, hown, hB⟩ (mX4_computeWithRegister l dC dI aH aM aW aC aR iW iR s.heap.size x p0) (cwV 1 hB (gV q_t2_139 q_t2_141 q_s_27 q_t1_1 wX4_computeWithRegister) rfl rfl rfl hX4_computeWithRegister ⟨Nat.le_of_ble_eq_true rfl, Nat.le_of_ble_eq_true rfl⟩) ⟨kM_blind NW_blind, va_recv hK hP (ci := 2) (q0 := 0) rfl rfl, kM_pre NW_warm hP hK hD hN⟩ rfl rfl hl.1 rfl (lv_room (Nat.le_of_ble_eq_true rfl)) dX4_execute_179 ⟨Nat.zero_le _, Nat.zero_le _⟩) hD hS hA (fun r u H locs hw hP hD hS => ?_)
    obtain ⟨rfl, rfl⟩ := hw
    exact W.zret (v := bi (fX4_computeWithRegister p0 x).1) hx hb hr (bi_nar _) (fun t ht hW => ⟨⟨bi (fX4_computeWithRegister p0 x).1, ((fX4_computeWithRegister p0 x).2), rfl, ⟨(by unfold fX4_execute; rw [if_neg c_4_3, if_neg c_4_15, if_neg c_4_19, if_neg c_4_23, if_neg c_4_35, if_pos c_4_51] <;> rfl), (by unfold fX4_execute; rw [if_neg c_4_3, if_neg c_4_15, if_neg c_4_19, if_neg c_4_23, if_neg c_4_35, if_pos c_4_51] <;> rfl)⟩, hpT ht hP⟩, hS.F ht⟩) hS.2.2 dX4_execute_182
  by_cases c_4_55 : (fX1_op p0) = (55 : Int32)
  · refine lv_lookup (off := 100) (tgt := 104) hx hb dX4_execute_4 (by decide) (by rw [c_4_55]; decide) (by decide) ?_
    refine lv_aload_n hx hb dX4_execute_104 rfl (lv_at hl 0 rfl) ?_
    refine lv_iload_n hx hb dX4_execute_105 rfl (lv_at hl 1 rfl) ?_
    refine lv_iload_n hx hb dX4_execute_106 rfl (lv_at hl 1 rfl) ?_
    refine k_ri (va_runSN (As := [.int p0]) (rest := [.int p0, .ref aH]) ⟨hx, hb, hml, hown, hB⟩ (mX1_numberU l p0) ⟨va_cnB 1 hB (good_in wX1_numberU) rfl rfl rfl (hN _ (List.mem_of_getElem? (i := 14) rfl)) (hB _ q_t1_10) hX1_numberU.2 ⟨Nat.le_of_ble_eq_true rfl, Nat.le_of_ble_eq_true rfl⟩, hB _ q_t2_31, trivial⟩ ⟨fun _ _ _ _ q => q, fun U _ _ => ⟨rfl, trivial⟩⟩ rfl rfl hl.1 rfl (lv_room (Nat.le_of_ble_eq_true rfl)) dX4_execute_107 ⟨Nat.zero_le _, Nat.zero_le _⟩) ?_
    refine k_mi (w := wD aH aM aW aC aR iW iR) wD_ad (va_runV (As := [.int p0, .int (fX1_numberU p0)]) (rest := []) ⟨hx, hb, hml, hown, hB⟩ (mX4_goOnWith l dC dI aH aM aW aC aR iW iR s.heap.size x p0 (fX1_numberU p0)) (cwV 2 hB (gV q_t2_33 q_t2_35 q_s_13 q_t1_1 wX4_goOnWith) rfl rfl rfl hX4_goOnWith ⟨Nat.le_of_ble_eq_true rfl, Nat.le_of_ble_eq_true rfl⟩) ⟨kM_blind NW_blind, va_recv hK hP (ci := 2) (q0 := 0) rfl rfl, kM_pre NW_warm hP hK hD hN⟩ rfl rfl hl.1 rfl (lv_room (Nat.le_of_ble_eq_true rfl)) dX4_execute_110 ⟨Nat.zero_le _, Nat.zero_le _⟩) hD hS hA (fun r u H locs hw hP hD hS => ?_)
    obtain ⟨rfl, rfl⟩ := hw
    exact W.zret (v := bi (fX4_goOnWith p0 (fX1_numberU p0) x).1) hx hb hr (bi_nar _) (fun t ht hW => ⟨⟨bi (fX4_goOnWith p0 (fX1_numberU p0) x).1, ((fX4_goOnWith p0 (fX1_numberU p0) x).2), rfl, ⟨(by unfold fX4_execute; rw [if_neg c_4_3, if_neg c_4_15, if_neg c_4_19, if_neg c_4_23, if_neg c_4_35, if_neg c_4_51, if_pos c_4_55] <;> rfl), (by unfold fX4_execute; rw [if_neg c_4_3, if_neg c_4_15, if_neg c_4_19, if_neg c_4_23, if_neg c_4_35, if_neg c_4_51, if_pos c_4_55] <;> rfl)⟩, hpT ht hP⟩, hS.F ht⟩) hS.2.2 dX4_execute_113
  by_cases c_4_99 : (fX1_op p0) = (99 : Int32)
  · refine lv_lookup (off := 149) (tgt := 153) hx hb dX4_execute_4 (by decide) (by rw [c_4_99]; decide) (by decide) ?_
    refine lv_aload_n hx hb dX4_execute_153 rfl (lv_at hl 0 rfl) ?_
    refine lv_iload_n hx hb dX4_execute_154 rfl (lv_at hl 1 rfl) ?_
    refine k_mi (w := wD aH aM aW aC aR iW iR) wD_ad (va_runV (As := [.int p0]) (rest := []) ⟨hx, hb, hml, hown, hB⟩ (mX4_branch l dC dI aH aM aW aC aR iW iR s.heap.size x p0) (cwV 1 hB (gV q_t2_76 q_t2_78 q_s_20 q_t1_1 wX4_branch) rfl rfl rfl hX4_branch ⟨Nat.le_of_ble_eq_true rfl, Nat.le_of_ble_eq_true rfl⟩) ⟨kM_blind NW_blind, va_recv hK hP (ci := 2) (q0 := 0) rfl rfl, kM_pre NW_warm hP hK hD hN⟩ rfl rfl hl.1 rfl (lv_room (Nat.le_of_ble_eq_true rfl)) dX4_execute_155 ⟨Nat.zero_le _, Nat.zero_le _⟩) hD hS hA (fun r u H locs hw hP hD hS => ?_)
    obtain ⟨rfl, rfl⟩ := hw
    exact W.zret (v := bi (fX4_branch p0 x).1) hx hb hr (bi_nar _) (fun t ht hW => ⟨⟨bi (fX4_branch p0 x).1, ((fX4_branch p0 x).2), rfl, ⟨(by unfold fX4_execute; rw [if_neg c_4_3, if_neg c_4_15, if_neg c_4_19, if_neg c_4_23, if_neg c_4_35, if_neg c_4_51, if_neg c_4_55, if_pos c_4_99] <;> rfl), (by unfold fX4_execute; rw [if_neg c_4_3, if_neg c_4_15, if_neg c_4_19, if_neg c_4_23, if_neg c_4_35, if_neg c_4_51, if_neg c_4_55, if_pos c_4_99] <;> rfl)⟩, hpT ht hP⟩, hS.F ht⟩) hS.2.2 dX4_execute_158
  by_cases c_4_103 : (fX1_op p0) = (103 : Int32)
  · refine lv_lookup (off := 143) (tgt := 147) hx hb dX4_execute_4 (by decide) (by rw [c_4_103]; decide) (by decide) ?_
    refine lv_aload_n hx hb dX4_execute_147 rfl (lv_at hl 0 rfl) ?_
    refine lv_iload_n hx hb dX4_execute_148 rfl (lv_at hl 1 rfl) ?_
    refine k_mi (w := wD aH aM aW aC aR iW iR) wD_ad (va_runV (As := [.int p0]) (rest := []) ⟨hx, hb, hml, hown, hB⟩ (mX4_jumpByRegister l dC dI aH aM aW aC aR iW iR s.heap.size x p0) (cwV 1 hB (gV q_t2_51 q_t2_53 q_s_16 q_t1_1 wX4_jumpByRegister) rfl rfl rfl hX4_jumpByRegister ⟨Nat.le_of_ble_eq_true rfl, Nat.le_of_ble_eq_true rfl⟩) ⟨kM_blind NW_blind, va_recv hK hP (ci := 2) (q0 := 0) rfl rfl, kM_pre NW_warm hP hK hD hN⟩ rfl rfl hl.1 rfl (lv_room (Nat.le_of_ble_eq_true rfl)) dX4_execute_149 ⟨Nat.zero_le _, Nat.zero_le _⟩) hD hS hA (fun r u H locs hw hP hD hS => ?_)
    obtain ⟨rfl, rfl⟩ := hw
    exact W.zret (v := bi (fX4_jumpByRegister p0 x).1) hx hb hr (bi_nar _) (fun t ht hW => ⟨⟨bi (fX4_jumpByRegister p0 x).1, ((fX4_jumpByRegister p0 x).2), rfl, ⟨(by unfold fX4_execute; rw [if_neg c_4_3, if_neg c_4_15, if_neg c_4_19, if_neg c_4_23, if_neg c_4_35, if_neg c_4_51, if_neg c_4_55, if_neg c_4_99, if_pos c_4_103] <;> rfl), (by unfold fX4_execute; rw [if_neg c_4_3, if_neg c_4_15, if_neg c_4_19, if_neg c_4_23, if_neg c_4_35, if_neg c_4_51, if_neg c_4_55, if_neg c_4_99, if_pos c_4_103] <;> rfl)⟩, hpT ht hP⟩, hS.F ht⟩) hS.2.2 dX4_execute_152
  by_cases c_4_111 : (fX1_op p0) = (111 : Int32)
  · refine lv_lookup (off := 125) (tgt := 129) hx hb dX4_execute_4 (by decide) (by rw [c_4_111]; decide) (by decide) ?_
    refine lv_aload_n hx hb dX4_execute_129 rfl (lv_at hl 0 rfl) ?_
    refine lv_iload_n hx hb dX4_execute_130 rfl (lv_at hl 1 rfl) ?_
    refine k_ri (va_runSN (As := [.int p0]) (rest := [.ref aH]) ⟨hx, hb, hml, hown, hB⟩ (mX1_d l p0) ⟨va_cnB 1 hB (good_in wX1_d) rfl rfl rfl (hN _ (List.mem_of_getElem? (i := 15) rfl)) (hB _ q_t1_10) hX1_d.2 ⟨Nat.le_of_ble_eq_true rfl, Nat.le_of_ble_eq_true rfl⟩, hB _ q_t2_38, trivial⟩ ⟨fun _ _ _ _ q => q, fun U _ _ => ⟨rfl, trivial⟩⟩ rfl rfl hl.1 rfl (lv_room (Nat.le_of_ble_eq_true rfl)) dX4_execute_131 ⟨Nat.zero_le _, Nat.zero_le _⟩) ?_
    refine lv_aload_n hx hb dX4_execute_134 rfl (lv_at hl 0 rfl) ?_
    refine va_get (D := (dC, dI)) (ci := 2) (v := .int (g_pc x)) (C := RX4) (T := TX4) (N := 7) hx hb hB iX4 hown hK hP 0 rfl rfl 3 (by decide) (hB _ q_t1_73) (fun _ h9 => h9) rfl dX4_execute_135 ?_
    refine lv_iload_n hx hb dX4_execute_138 rfl (lv_at hl 1 rfl) ?_
    refine k_ri (va_runSN (As := [.int p0]) (rest := [.int (g_pc x), .int (fX1_d p0), .ref aH]) ⟨hx, hb, hml, hown, hB⟩ (mX1_numberJ l p0) ⟨va_cnB 1 hB (good_in wX1_numberJ) rfl rfl rfl (hN _ (List.mem_of_getElem? (i := 16) rfl)) (hB _ q_t1_10) hX1_numberJ.2 ⟨Nat.le_of_ble_eq_true rfl, Nat.le_of_ble_eq_true rfl⟩, hB _ q_t2_45, trivial⟩ ⟨fun _ _ _ _ q => q, fun U _ _ => ⟨rfl, trivial⟩⟩ rfl rfl hl.1 rfl (lv_room (Nat.le_of_ble_eq_true rfl)) dX4_execute_139 ⟨Nat.zero_le _, Nat.zero_le _⟩) ?_
    refine lv_iadd hx hb dX4_execute_142 ?_
    refine k_mi (w := wD aH aM aW aC aR iW iR) wD_ad (va_runV (As := [.int (fX1_d p0), .int ((g_pc x) + (fX1_numberJ p0))]) (rest := []) ⟨hx, hb, hml, hown, hB⟩ (mX4_jump l dC dI aH aM aW aC aR iW iR s.heap.size x (fX1_d p0) ((g_pc x) + (fX1_numberJ p0))) (cwV 2 hB (gV q_t2_47 q_t2_49 q_s_15 q_t1_1 wX4_jump) rfl rfl rfl hX4_jump ⟨Nat.le_of_ble_eq_true rfl, Nat.le_of_ble_eq_true rfl⟩) ⟨kM_blind NW_blind, va_recv hK hP (ci := 2) (q0 := 0) rfl rfl, kM_pre NW_warm hP hK hD hN⟩ rfl rfl hl.1 rfl (lv_room (Nat.le_of_ble_eq_true rfl)) dX4_execute_143 ⟨Nat.zero_le _, Nat.zero_le _⟩) hD hS hA (fun r u H locs hw hP hD hS => ?_)
    obtain ⟨rfl, rfl⟩ := hw
    exact W.zret (v := bi (fX4_jump (fX1_d p0) ((g_pc x) + (fX1_numberJ p0)) x).1) hx hb hr (bi_nar _) (fun t ht hW => ⟨⟨bi (fX4_jump (fX1_d p0) ((g_pc x) + (fX1_numberJ p0)) x).1, ((fX4_jump (fX1_d p0) ((g_pc x) + (fX1_numberJ p0)) x).2), rfl, ⟨(by unfold fX4_execute; rw [if_neg c_4_3, if_neg c_4_15, if_neg c_4_19, if_neg c_4_23, if_neg c_4_35, if_neg c_4_51, if_neg c_4_55, if_neg c_4_99, if_neg c_4_103, if_pos c_4_111] <;> rfl), (by unfold fX4_execute; rw [if_neg c_4_3, if_neg c_4_15, if_neg c_4_19, if_neg c_4_23, if_neg c_4_35, if_neg c_4_51, if_neg c_4_55, if_neg c_4_99, if_neg c_4_103, if_pos c_4_111] <;> rfl)⟩, hpT ht hP⟩, hS.F ht⟩) hS.2.2 dX4_execute_146
  by_cases c_4_115 : (fX1_op p0) = (115 : Int32)
  · refine lv_lookup (off := 184) (tgt := 188) hx hb dX4_execute_4 (by decide) (by rw [c_4_115]; decide) (by decide) ?_
    refine lv_iload_n hx hb dX4_execute_188 rfl (lv_at hl 1 rfl) ?_
    refine k_ri (va_runSN (As := [.int p0]) (rest := []) ⟨hx, hb, hml, hown, hB⟩ (mX1_f l p0) ⟨va_cnB 1 hB (good_in wX1_f) rfl rfl rfl (hN _ (List.mem_of_getElem? (i := 17) rfl)) (hB _ q_t1_10) hX1_f.2 ⟨Nat.le_of_ble_eq_true rfl, Nat.le_of_ble_eq_true rfl⟩, hB _ q_t2_56, trivial⟩ ⟨fun _ _ _ _ q => q, fun U _ _ => ⟨rfl, trivial⟩⟩ rfl rfl hl.1 rfl (lv_room (Nat.le_of_ble_eq_true rfl)) dX4_execute_189 ⟨Nat.zero_le _, Nat.zero_le _⟩) ?_
    refine lv_if_ne (tgt := 203) hx hb dX4_execute_192 (by decide) (fun c_192 => ?_) (fun c_192 => ?_)
    · refine lv_aload_n hx hb dX4_execute_203 rfl (lv_at hl 0 rfl) ?_
      refine lv_iload_n hx hb dX4_execute_204 rfl (lv_at hl 1 rfl) ?_
      refine k_mi (w := wD aH aM aW aC aR iW iR) wD_ad (va_runV (As := [.int p0]) (rest := []) ⟨hx, hb, hml, hown, hB⟩ (mX4_exchangeControl l dC dI aH aM aW aC aR iW iR s.heap.size x p0) (cwV 1 hB (gV q_t2_160 q_t2_162 q_s_30 q_t1_1 wX4_exchangeControl) rfl rfl rfl hX4_exchangeControl ⟨Nat.le_of_ble_eq_true rfl, Nat.le_of_ble_eq_true rfl⟩) ⟨kM_blind NW_blind, va_recv hK hP (ci := 2) (q0 := 0) rfl rfl, kM_pre NW_warm hP hK hD hN⟩ rfl rfl hl.1 rfl (lv_room (Nat.le_of_ble_eq_true rfl)) dX4_execute_205 ⟨Nat.zero_le _, Nat.zero_le _⟩) hD hS hA (fun r u H locs hw hP hD hS => ?_)
      obtain ⟨rfl, rfl⟩ := hw
      exact W.zret (v := bi (fX4_exchangeControl p0 x).1) hx hb hr (bi_nar _) (fun t ht hW => ⟨⟨bi (fX4_exchangeControl p0 x).1, ((fX4_exchangeControl p0 x).2), rfl, ⟨(by unfold fX4_execute; rw [if_neg c_4_3, if_neg c_4_15, if_neg c_4_19, if_neg c_4_23, if_neg c_4_35, if_neg c_4_51, if_neg c_4_55, if_neg c_4_99, if_neg c_4_103, if_neg c_4_111, if_pos c_4_115, if_neg c_192] <;> rfl), (by unfold fX4_execute; rw [if_neg c_4_3, if_neg c_4_15, if_neg c_4_19, if_neg c_4_23, if_neg c_4_35, if_neg c_4_51, if_neg c_4_55, if_neg c_4_99, if_neg c_4_103, if_neg c_4_111, if_pos c_4_115, if_neg c_192] <;> rfl)⟩, hpT ht hP⟩, hS.F ht⟩) hS.2.2 dX4_execute_208
    · refine lv_aload_n hx hb dX4_execute_195 rfl (lv_at hl 0 rfl) ?_
      refine lv_iload_n hx hb dX4_execute_196 rfl (lv_at hl 1 rfl) ?_
      refine k_mi (w := wD aH aM aW aC aR iW iR) wD_ad (va_runV (As := [.int p0]) (rest := []) ⟨hx, hb, hml, hown, hB⟩ (mX4_callSystem l dC dI aH aM aW aC aR iW iR s.heap.size x p0) (cwV 1 hB (gV q_t2_152 q_t2_154 q_s_28 q_t1_1 wX4_callSystem) rfl rfl rfl hX4_callSystem ⟨Nat.le_of_ble_eq_true rfl, Nat.le_of_ble_eq_true rfl⟩) ⟨kM_blind NW_blind, va_recv hK hP (ci := 2) (q0 := 0) rfl rfl, kM_pre NW_warm hP hK hD hN⟩ rfl rfl hl.1 rfl (lv_room (Nat.le_of_ble_eq_true rfl)) dX4_execute_197 ⟨Nat.zero_le _, Nat.zero_le _⟩) hD hS hA (fun r u H locs hw hP hD hS => ?_)
      obtain ⟨rfl, rfl⟩ := hw
      refine lv_goto (tgt := 208) hx hb dX4_execute_200 (by decide) ?_
      exact W.zret (v := bi (fX4_callSystem p0 x).1) hx hb hr (bi_nar _) (fun t ht hW => ⟨⟨bi (fX4_callSystem p0 x).1, ((fX4_callSystem p0 x).2), rfl, ⟨(by unfold fX4_execute; rw [if_neg c_4_3, if_neg c_4_15, if_neg c_4_19, if_neg c_4_23, if_neg c_4_35, if_neg c_4_51, if_neg c_4_55, if_neg c_4_99, if_neg c_4_103, if_neg c_4_111, if_pos c_4_115, if_pos c_192] <;> rfl), (by unfold fX4_execute; rw [if_neg c_4_3, if_neg c_4_15, if_neg c_4_19, if_neg c_4_23, if_neg c_4_35, if_neg c_4_51, if_neg c_4_55, if_neg c_4_99, if_neg c_4_103, if_neg c_4_111, if_pos c_4_115, if_pos c_192] <;> rfl)⟩, hpT ht hP⟩, hS.F ht⟩) hS.2.2 dX4_execute_208
  refine lv_lookup (off := 205) (tgt := 209) hx hb dX4_execute_4 (by decide) ((lv_osw c_4_3 (by decide)).trans ((lv_osw c_4_15 (by decide)).trans ((lv_osw c_4_19 (by decide)).trans ((lv_osw c_4_23 (by decide)).trans ((lv_osw c_4_35 (by decide)).trans ((lv_osw c_4_51 (by decide)).trans ((lv_osw c_4_55 (by decide)).trans ((lv_osw c_4_99 (by decide)).trans ((lv_osw c_4_103 (by decide)).trans ((lv_osw c_4_111 (by decide)).trans ((lv_osw c_4_115 (by decide)).trans rfl))))))))))) (by decide) ?_
  refine lv_aload_n hx hb dX4_execute_209 rfl (lv_at hl 0 rfl) ?_
  refine lv_iload_n hx hb dX4_execute_210 rfl (lv_at hl 1 rfl) ?_
  refine k_mi (w := wD aH aM aW aC aR iW iR) wD_ad (va_runV (As := [.int p0]) (rest := []) ⟨hx, hb, hml, hown, hB⟩ (mX4_unknown l dC dI aH aM aW aC aR iW iR s.heap.size x p0) (cwV 1 hB (gV q_t2_58 q_t2_60 q_s_17 q_t1_1 wX4_unknown) rfl rfl rfl hX4_unknown ⟨Nat.le_of_ble_eq_true rfl, Nat.le_of_ble_eq_true rfl⟩) ⟨kM_blind NW_blind, va_recv hK hP (ci := 2) (q0 := 0) rfl rfl, kM_pre NW_warm hP hK hD hN⟩ rfl rfl hl.1 rfl (lv_room (Nat.le_of_ble_eq_true rfl)) dX4_execute_211 ⟨Nat.zero_le _, Nat.zero_le _⟩) hD hS hA (fun r u H locs hw hP hD hS => ?_)
  obtain ⟨rfl, rfl⟩ := hw
  exact W.zret (v := bi (fX4_unknown p0 x).1) hx hb hr (bi_nar _) (fun t ht hW => ⟨⟨bi (fX4_unknown p0 x).1, ((fX4_unknown p0 x).2), rfl, ⟨(by unfold fX4_execute; rw [if_neg c_4_3, if_neg c_4_15, if_neg c_4_19, if_neg c_4_23, if_neg c_4_35, if_neg c_4_51, if_neg c_4_55, if_neg c_4_99, if_neg c_4_103, if_neg c_4_111, if_neg c_4_115] <;> rfl), (by unfold fX4_execute; rw [if_neg c_4_3, if_neg c_4_15, if_neg c_4_19, if_neg c_4_23, if_neg c_4_35, if_neg c_4_51, if_neg c_4_55, if_neg c_4_99, if_neg c_4_103, if_neg c_4_111, if_neg c_4_115] <;> rfl)⟩, hpT ht hP⟩, hS.F ht⟩) hS.2.2 dX4_execute_214
def fX4_step (x : St) : St := if (bi (fX2_isInterrupted (s_steps x ((g_steps x) + (1 : Int32))))) = 0 then
    if (bi (fX3_holds (g_pc x))) = 0 then
      (fX4_trap (1 : Int32) (g_pc x) (s_steps x ((g_steps x) + (1 : Int32)))).2
    else
      if (bi (fX4_execute (fX3_readWord (g_pc x) (s_steps x ((g_steps x) + (1 : Int32)))) (s_steps x ((g_steps x) + (1 : Int32)))).1) = 0 then
        (fX4_execute (fX3_readWord (g_pc x) (s_steps x ((g_steps x) + (1 : Int32)))) (s_steps x ((g_steps x) + (1 : Int32)))).2
      else
        s_done ((fX4_execute (fX3_readWord (g_pc x) (s_steps x ((g_steps x) + (1 : Int32)))) (s_steps x ((g_steps x) + (1 : Int32)))).2) ((g_done ((fX4_execute (fX3_readWord (g_pc x) (s_steps x ((g_steps x) + (1 : Int32)))) (s_steps x ((g_steps x) + (1 : Int32)))).2)) + (1 : Int32))
  else
    (fX4_trap (-2147483637 : Int32) (0 : Int32) (s_steps x ((g_steps x) + (1 : Int32)))).2
set_option maxHeartbeats 4000000 in
set_option maxRecDepth 100000 in
theorem mX4_step (l : Launch) (dC : Nat → ClassId) (dI : Nat → Nat → Nat) (aH aM aW aC aR iW iR : Nat) (sz : Nat) (x : St) : Met l yX4_step wsX4_step ({ frames := 5, cells := 0, slots := 0, locals := 114 }) (va_Pc [.ref aH] (kM (dC, dI) [(iW, .int), (iR, .int)] NW (wD aH aM aW aC aR iW iR x) sz)) (va_Qv (fun u => u = fX4_step x) (fun u t => va_P (dC, dI) vwCl (wD aH aM aW aC aR iW iR u) t.heap) (va_A (wD aH aM aW aC aR iW iR x) sz)) 0 0 (va_A (wD aH aM aW aC aR iW iR x) sz) := by
  refine Met.ofW (cc := cX4_step) (maxL := 1) (ret := none) (by decide) rfl ?_
  intro p e s m args below meth c s₁ B hml hv
  obtain ⟨rfl, hsz, hD0, hP, hK, hN⟩ := hv
  have hx := B.exec
  have hb := B.bytes
  have hr := B.returns
  have hB := fun (w : Cond) (h : w ∈ BIG) => atoms_spec (ws := wsX4_step) B.pre w (List.mem_cons_of_mem _ h)
  have hown : s.vm.findClass RX4 = some m.cls := findClass_of_methodNamed B.named
  have hlocks := B.notSynchronized
  subst hsz
  have hD := hD0.self (sz := s.heap.size)
  generalize hAe : va_A (wD aH aM aW aC aR iW iR x) s.heap.size = A at hD ⊢
  have hA : ∀ q : Nat, s.heap.size ≤ q → A q := fun q h => by rw [← hAe]; exact Or.inr h
  have hS : va_S A s.heap s.heap [] := va_S.rf
  have hl := lv_entry ([.ref aH]) (n := 1) (Nat.le_of_ble_eq_true rfl)
  rw [lg_entry_eq]
  generalize (lg_sl ([.ref aH]) ++ List.replicate (1 - (lg_sl ([.ref aH])).length) Slot.unset).toArray = ls at hl ⊢
  have hl : lv_has ls 1 [(0, .ref aH)] := hl
  refine lv_aload_n hx hb dX4_step_0 rfl (lv_at hl 0 rfl) ?_
  refine lv_dup hx hb dX4_step_1 rfl ?_
  refine va_get (D := (dC, dI)) (ci := 2) (v := .int (g_steps x)) (C := RX4) (T := TX4) (N := 7) hx hb hB iX4 hown hK hP 0 rfl rfl 5 (by decide) (hB _ q_t1_75) (fun _ h9 => h9) rfl dX4_step_2 ?_
  refine lv_iconst (v := 1) hx hb dX4_step_5 (by decide) ?_
  refine lv_iadd hx hb dX4_step_6 ?_
  refine va_put (D := (dC, dI)) (ci := 2) (v := .int ((g_steps x) + (1 : Int32))) (ty := .int) (C := RX4) (T := TX4) (N := 7) hx hb hB iX4 tyX4 tyX4_ok nmX4 hown hK hP hD hS 0 rfl rfl 5 (by decide) (hB _ q_t1_75) (fun _ h9 => h9) rfl (by decide +kernel) rfl rfl (Nat.le_of_ble_eq_true rfl) dX4_step_7 (fun H locs hP hD hS => ?_)
  have hP : va_P (dC, dI) vwCl (wD aH aM aW aC aR iW iR (s_steps x ((g_steps x) + (1 : Int32)))) H := hP
  have hD : va_D A (wD aH aM aW aC aR iW iR (s_steps x ((g_steps x) + (1 : Int32)))) := hD
  refine lv_aload_n hx hb dX4_step_10 rfl (lv_at hl 0 rfl) ?_
  refine va_get (D := (dC, dI)) (ci := 2) (v := .ref aC) (C := RX4) (T := TX4) (N := 7) hx hb hB iX4 hown hK hP 0 rfl rfl 1 (by decide) (hB _ q_t1_71) (fun _ h9 => h9) rfl dX4_step_11 ?_
  refine k_ri (va_runVN (As := []) (rest := []) ⟨hx, hb, hml, hown, hB⟩ (mX2_isInterrupted l dC dI aH aM aW aC aR iW iR (s_steps x ((g_steps x) + (1 : Int32)))) ⟨va_cnB 0 hB (good_in wX2_isInterrupted) rfl rfl rfl (hN _ (List.mem_of_getElem? (i := 9) rfl)) (hB _ q_t1_3) hX2_isInterrupted.2 ⟨Nat.le_of_ble_eq_true rfl, Nat.le_of_ble_eq_true rfl⟩, hB _ q_t2_7, hB _ q_s_8⟩ ⟨kP_blind NW_blind, va_recv hK hP (ci := 0) (q0 := 3) rfl rfl, kP_pre NW_warm hP hK hN⟩ rfl rfl hl.1 rfl (lv_room (Nat.le_of_ble_eq_true rfl)) dX4_step_14 ⟨Nat.zero_le _, Nat.zero_le _⟩) ?_
  refine lv_if_eq (tgt := 31) hx hb dX4_step_17 (by decide) (fun c_17 => ?_) (fun c_17 => ?_)
  · refine lv_aload_n hx hb dX4_step_31 rfl (lv_at hl 0 rfl) ?_
    refine va_get (D := (dC, dI)) (ci := 2) (v := .int (g_pc x)) (C := RX4) (T := TX4) (N := 7) hx hb hB iX4 hown hK hP 0 rfl rfl 3 (by decide) (hB _ q_t1_73) (fun _ h9 => h9) rfl dX4_step_32 ?_
    refine k_ri (va_runSN (As := [.int (g_pc x)]) (rest := []) ⟨hx, hb, hml, hown, hB⟩ (mX3_holds l (g_pc x)) ⟨va_cnB 1 hB (good_in wX3_holds) rfl rfl rfl (hN _ (List.mem_of_getElem? (i := 11) rfl)) (hB _ q_t1_2) hX3_holds.2 ⟨Nat.le_of_ble_eq_true rfl, Nat.le_of_ble_eq_true rfl⟩, hB _ q_t1_100, trivial⟩ ⟨fun _ _ _ _ q => q, fun U _ _ => ⟨rfl, trivial⟩⟩ rfl rfl hl.1 rfl (lv_room (Nat.le_of_ble_eq_true rfl)) dX4_step_35 ⟨Nat.zero_le _, Nat.zero_le _⟩) ?_
    refine lv_if_ne (tgt := 54) hx hb dX4_step_38 (by decide) (fun c_38 => ?_) (fun c_38 => ?_)
    · refine lv_aload_n hx hb dX4_step_54 rfl (lv_at hl 0 rfl) ?_
      refine lv_aload_n hx hb dX4_step_55 rfl (lv_at hl 0 rfl) ?_
      refine va_get (D := (dC, dI)) (ci := 2) (v := .ref aM) (C := RX4) (T := TX4) (N := 7) hx hb hB iX4 hown hK hP 0 rfl rfl 0 (by decide) (hB _ q_t1_70) (fun _ h9 => h9) rfl dX4_step_56 ?_
      refine lv_aload_n hx hb dX4_step_59 rfl (lv_at hl 0 rfl) ?_
      refine va_get (D := (dC, dI)) (ci := 2) (v := .int (g_pc x)) (C := RX4) (T := TX4) (N := 7) hx hb hB iX4 hown hK hP 0 rfl rfl 3 (by decide) (hB _ q_t1_73) (fun _ h9 => h9) rfl dX4_step_60 ?_
      refine k_ri (va_runVN (As := [.int (g_pc x)]) (rest := [.ref aH]) ⟨hx, hb, hml, hown, hB⟩ (mX3_readWord l dC dI aH aM aW aC aR iW iR (s_steps x ((g_steps x) + (1 : Int32))) (g_pc x)) ⟨va_cnB 1 hB (good_in wX3_readWord) rfl rfl rfl (hN _ (List.mem_of_getElem? (i := 12) rfl)) (hB _ q_t1_2) hX3_readWord.2 ⟨Nat.le_of_ble_eq_true rfl, Nat.le_of_ble_eq_true rfl⟩, hB _ q_t2_21, hB _ q_s_11⟩ ⟨kP_blind NW_blind, va_recv hK hP (ci := 1) (q0 := 1) rfl rfl, kP_pre NW_warm hP hK hN⟩ rfl rfl hl.1 rfl (lv_room (Nat.le_of_ble_eq_true rfl)) dX4_step_63 ⟨Nat.zero_le _, Nat.zero_le _⟩) ?_
      refine k_mi (w := wD aH aM aW aC aR iW iR) wD_ad (va_runV (As := [.int (fX3_readWord (g_pc x) (s_steps x ((g_steps x) + (1 : Int32))))]) (rest := []) ⟨hx, hb, hml, hown, hB⟩ (mX4_execute l dC dI aH aM aW aC aR iW iR H.size (s_steps x ((g_steps x) + (1 : Int32))) (fX3_readWord (g_pc x) (s_steps x ((g_steps x) + (1 : Int32))))) (cwV 1 hB (gV q_t2_23 q_t2_25 q_s_12 q_t1_1 wX4_execute) rfl rfl rfl hX4_execute ⟨Nat.le_of_ble_eq_true rfl, Nat.le_of_ble_eq_true rfl⟩) ⟨kM_blind NW_blind, va_recv hK hP (ci := 2) (q0 := 0) rfl rfl, kM_pre NW_warm hP hK hD hN⟩ rfl rfl hl.1 rfl (lv_room (Nat.le_of_ble_eq_true rfl)) dX4_step_66 ⟨Nat.zero_le _, Nat.zero_le _⟩) hD hS hA (fun r u H locs hw hP hD hS => ?_)
      obtain ⟨rfl, rfl⟩ := hw
      refine lv_if_eq (tgt := 85) hx hb dX4_step_69 (by decide) (fun c_69 => ?_) (fun c_69 => ?_)
      · exact W.vret hx hb hr (fun t ht hW => ⟨⟨((fX4_execute (fX3_readWord (g_pc x) (s_steps x ((g_steps x) + (1 : Int32)))) (s_steps x ((g_steps x) + (1 : Int32)))).2), rfl, (by unfold fX4_step; rw [if_pos c_17, if_neg c_38, if_pos c_69] <;> rfl), hpT ht hP⟩, hS.F ht⟩) hS.2.2 dX4_step_85
      · refine lv_aload_n hx hb dX4_step_72 rfl (lv_at hl 0 rfl) ?_
        refine va_get (D := (dC, dI)) (ci := 2) (v := .ref aC) (C := RX4) (T := TX4) (N := 7) hx hb hB iX4 hown hK hP 0 rfl rfl 1 (by decide) (hB _ q_t1_71) (fun _ h9 => h9) rfl dX4_step_73 ?_
        refine lv_dup hx hb dX4_step_76 rfl ?_
        refine va_getN (D := (dC, dI)) (ci := 0) (v := .int (g_done ((fX4_execute (fX3_readWord (g_pc x) (s_steps x ((g_steps x) + (1 : Int32)))) (s_steps x ((g_steps x) + (1 : Int32)))).2))) (C := RX2) (T := TX2) (N := 9) hx hb hB iX2 hown hK hP 3 rfl rfl 7 (by decide) (va_Nw.use rfl (hN _ (List.mem_of_getElem? (i := 3) rfl))) (fun _ h9 => h9) rfl dX4_step_77 ?_
        refine lv_iconst (v := 1) hx hb dX4_step_80 (by decide) ?_
        refine lv_iadd hx hb dX4_step_81 ?_
        refine va_putN (D := (dC, dI)) (ci := 0) (v := .int ((g_done ((fX4_execute (fX3_readWord (g_pc x) (s_steps x ((g_steps x) + (1 : Int32)))) (s_steps x ((g_steps x) + (1 : Int32)))).2)) + (1 : Int32))) (ty := .int) (C := RX2) (T := TX2) (N := 9) hx hb hB iX2 tyX2 tyX2_ok nmX2 hown hK hP hD hS 3 rfl rfl 7 (by decide) (va_Nw.use rfl (hN _ (List.mem_of_getElem? (i := 3) rfl))) (fun _ h9 => h9) rfl (by decide +kernel) rfl rfl (Nat.le_of_ble_eq_true rfl) dX4_step_82 (fun H locs hP hD hS => ?_)
        have hP : va_P (dC, dI) vwCl (wD aH aM aW aC aR iW iR (s_done ((fX4_execute (fX3_readWord (g_pc x) (s_steps x ((g_steps x) + (1 : Int32)))) (s_steps x ((g_steps x) + (1 : Int32)))).2) ((g_done ((fX4_execute (fX3_readWord (g_pc x) (s_steps x ((g_steps x) + (1 : Int32)))) (s_steps x ((g_steps x) + (1 : Int32)))).2)) + (1 : Int32)))) H := hP
        have hD : va_D A (wD aH aM aW aC aR iW iR (s_done ((fX4_execute (fX3_readWord (g_pc x) (s_steps x ((g_steps x) + (1 : Int32)))) (s_steps x ((g_steps x) + (1 : Int32)))).2) ((g_done ((fX4_execute (fX3_readWord (g_pc x) (s_steps x ((g_steps x) + (1 : Int32)))) (s_steps x ((g_steps x) + (1 : Int32)))).2)) + (1 : Int32)))) := hD
        exact W.vret hx hb hr (fun t ht hW => ⟨⟨(s_done ((fX4_execute (fX3_readWord (g_pc x) (s_steps x ((g_steps x) + (1 : Int32)))) (s_steps x ((g_steps x) + (1 : Int32)))).2) ((g_done ((fX4_execute (fX3_readWord (g_pc x) (s_steps x ((g_steps x) + (1 : Int32)))) (s_steps x ((g_steps x) + (1 : Int32)))).2)) + (1 : Int32))), rfl, (by unfold fX4_step; rw [if_pos c_17, if_neg c_38, if_neg c_69] <;> rfl), hpT ht hP⟩, hS.F ht⟩) hS.2.2 dX4_step_85
    · refine lv_aload_n hx hb dX4_step_41 rfl (lv_at hl 0 rfl) ?_
      refine lv_iconst (v := 1) hx hb dX4_step_42 (by decide) ?_
      refine lv_aload_n hx hb dX4_step_43 rfl (lv_at hl 0 rfl) ?_
      refine va_get (D := (dC, dI)) (ci := 2) (v := .int (g_pc x)) (C := RX4) (T := TX4) (N := 7) hx hb hB iX4 hown hK hP 0 rfl rfl 3 (by decide) (hB _ q_t1_73) (fun _ h9 => h9) rfl dX4_step_44 ?_
      refine k_mi (w := wD aH aM aW aC aR iW iR) wD_ad (va_runV (As := [.int (1 : Int32), .int (g_pc x)]) (rest := []) ⟨hx, hb, hml, hown, hB⟩ (mX4_trap l dC dI aH aM aW aC aR iW iR H.size (s_steps x ((g_steps x) + (1 : Int32))) (1 : Int32) (g_pc x)) (cwV 2 hB (gV q_t2_10 q_t2_12 q_s_9 q_t1_1 wX4_trap) rfl rfl rfl hX4_trap ⟨Nat.le_of_ble_eq_true rfl, Nat.le_of_ble_eq_true rfl⟩) ⟨kM_blind NW_blind, va_recv hK hP (ci := 2) (q0 := 0) rfl rfl, kM_pre NW_warm hP hK hD hN⟩ rfl rfl hl.1 rfl (lv_room (Nat.le_of_ble_eq_true rfl)) dX4_step_47 ⟨Nat.zero_le _, Nat.zero_le _⟩) hD hS hA (fun r u H locs hw hP hD hS => ?_)
      obtain ⟨rfl, rfl⟩ := hw
      refine lv_pop hx hb dX4_step_50 rfl ?_
      refine lv_goto (tgt := 85) hx hb dX4_step_51 (by decide) ?_
      exact W.vret hx hb hr (fun t ht hW => ⟨⟨((fX4_trap (1 : Int32) (g_pc x) (s_steps x ((g_steps x) + (1 : Int32)))).2), rfl, (by unfold fX4_step; rw [if_pos c_17, if_pos c_38] <;> rfl), hpT ht hP⟩, hS.F ht⟩) hS.2.2 dX4_step_85
  · refine lv_aload_n hx hb dX4_step_20 rfl (lv_at hl 0 rfl) ?_
    refine lv_ldc (v := -2147483637) hx hb hown (hB _ q_t2_9) dX4_step_21 ?_
    refine lv_iconst (v := 0) hx hb dX4_step_23 (by decide) ?_
    refine k_mi (w := wD aH aM aW aC aR iW iR) wD_ad (va_runV (As := [.int (-2147483637 : Int32), .int (0 : Int32)]) (rest := []) ⟨hx, hb, hml, hown, hB⟩ (mX4_trap l dC dI aH aM aW aC aR iW iR H.size (s_steps x ((g_steps x) + (1 : Int32))) (-2147483637 : Int32) (0 : Int32)) (cwV 2 hB (gV q_t2_10 q_t2_12 q_s_9 q_t1_1 wX4_trap) rfl rfl rfl hX4_trap ⟨Nat.le_of_ble_eq_true rfl, Nat.le_of_ble_eq_true rfl⟩) ⟨kM_blind NW_blind, va_recv hK hP (ci := 2) (q0 := 0) rfl rfl, kM_pre NW_warm hP hK hD hN⟩ rfl rfl hl.1 rfl (lv_room (Nat.le_of_ble_eq_true rfl)) dX4_step_24 ⟨Nat.zero_le _, Nat.zero_le _⟩) hD hS hA (fun r u H locs hw hP hD hS => ?_)
    obtain ⟨rfl, rfl⟩ := hw
    refine lv_pop hx hb dX4_step_27 rfl ?_
    refine lv_goto (tgt := 85) hx hb dX4_step_28 (by decide) ?_
    exact W.vret hx hb hr (fun t ht hW => ⟨⟨((fX4_trap (-2147483637 : Int32) (0 : Int32) (s_steps x ((g_steps x) + (1 : Int32)))).2), rfl, (by unfold fX4_step; rw [if_neg c_17] <;> rfl), hpT ht hP⟩, hS.F ht⟩) hS.2.2 dX4_step_85
