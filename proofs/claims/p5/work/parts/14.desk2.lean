def fX4_load (p0 : Int32) (x : St) : Bool × St := if (fX1_f p0) = (3 : Int32) then
    ((fX4_unknown p0 x).1, (fX4_unknown p0 x).2)
  else
    if (fX1_f p0) ≤ (5 : Int32) then
      if (bi (fX3_isBy ((fX4_valueA p0 x) + (fX1_numberI p0)) ((fX1_f p0) &&& (3 : Int32)))) = 0 then
        ((fX4_trap (4 : Int32) ((fX4_valueA p0 x) + (fX1_numberI p0)) x).1, (fX4_trap (4 : Int32) ((fX4_valueA p0 x) + (fX1_numberI p0)) x).2)
      else
        if (bi (fX3_holds ((fX4_valueA p0 x) + (fX1_numberI p0)))) = 0 then
          ((fX4_trap (5 : Int32) ((fX4_valueA p0 x) + (fX1_numberI p0)) x).1, (fX4_trap (5 : Int32) ((fX4_valueA p0 x) + (fX1_numberI p0)) x).2)
        else
          ((fX4_goOnWith p0 (fX3_readPart ((fX4_valueA p0 x) + (fX1_numberI p0)) (fX1_f p0) x) x).1, (fX4_goOnWith p0 (fX3_readPart ((fX4_valueA p0 x) + (fX1_numberI p0)) (fX1_f p0) x) x).2)
    else
      ((fX4_unknown p0 x).1, (fX4_unknown p0 x).2)
set_option maxHeartbeats 4000000 in
set_option maxRecDepth 100000 in
theorem mX4_load (l : Launch) (dC : Nat → ClassId) (dI : Nat → Nat → Nat) (aH aM aW aC aR iW iR : Nat) (sz : Nat) (x : St) (p0 : Int32) : Met l yX4_load wsX4_load ({ frames := 3, cells := 0, slots := 0, locals := 66 }) (va_Pc [.ref aH, .int p0] (kM (dC, dI) [(iW, .int), (iR, .int)] NW (wD aH aM aW aC aR iW iR x) sz)) (va_Qi (fun r u => r = bi (fX4_load p0 x).1 ∧ u = (fX4_load p0 x).2) (fun u t => va_P (dC, dI) vwCl (wD aH aM aW aC aR iW iR u) t.heap) (va_A (wD aH aM aW aC aR iW iR x) sz)) 0 0 (va_A (wD aH aM aW aC aR iW iR x) sz) := by
  refine Met.ofW (cc := cX4_load) (maxL := 4) (ret := (some .boolean)) (by decide) rfl ?_
  intro p e s m args below meth c s₁ B hml hv
  obtain ⟨rfl, hsz, hD0, hP, hK, hN⟩ := hv
  have hx := B.exec
  have hb := B.bytes
  have hr := B.returns
  have hB := fun (w : Cond) (h : w ∈ BIG) => atoms_spec (ws := wsX4_load) B.pre w (List.mem_cons_of_mem _ h)
  have hown : s.vm.findClass RX4 = some m.cls := findClass_of_methodNamed B.named
  have hlocks := B.notSynchronized
  subst hsz
  have hD := hD0.self (sz := s.heap.size)
  generalize hAe : va_A (wD aH aM aW aC aR iW iR x) s.heap.size = A at hD ⊢
  have hA : ∀ q : Nat, s.heap.size ≤ q → A q := fun q h => by rw [← hAe]; exact Or.inr h
  have hS : va_S A s.heap s.heap [] := va_S.rf
  have hl := lv_entry ([.ref aH, .int p0]) (n := 4) (Nat.le_of_ble_eq_true rfl)
  rw [lg_entry_eq]
  generalize (lg_sl ([.ref aH, .int p0]) ++ List.replicate (4 - (lg_sl ([.ref aH, .int p0])).length) Slot.unset).toArray = ls at hl ⊢
  have hl : lv_has ls 4 [(0, .ref aH), (1, .int p0)] := hl
  refine lv_iload_n hx hb dX4_load_0 rfl (lv_at hl 1 rfl) ?_
  refine k_ri (va_runSN (As := [.int p0]) (rest := []) ⟨hx, hb, hml, hown, hB⟩ (mX1_f l p0) ⟨va_cnB 1 hB (good_in wX1_f) rfl rfl rfl (hN _ (List.mem_of_getElem? (i := 17) rfl)) (hB _ q_t1_10) hX1_f.2 ⟨Nat.le_of_ble_eq_true rfl, Nat.le_of_ble_eq_true rfl⟩, hB _ q_t2_56, trivial⟩ ⟨fun _ _ _ _ q => q, fun U _ _ => ⟨rfl, trivial⟩⟩ rfl rfl hl.1 rfl (lv_room (Nat.le_of_ble_eq_true rfl)) dX4_load_1 ⟨Nat.zero_le _, Nat.zero_le _⟩) ?_
  refine lv_istore_n (lv' := [(2, .int (fX1_f p0)), (0, .ref aH), (1, .int p0)]) hx hb dX4_load_4 rfl hl (by decide) rfl (fun ls hl => ?_)
  refine lv_iload_n hx hb dX4_load_5 rfl (lv_at hl 0 rfl) ?_
  refine lv_iconst (v := 3) hx hb dX4_load_6 (by decide) ?_
  refine lv_icmp_eq (tgt := 15) hx hb dX4_load_7 (by decide) (fun c_7 => ?_) (fun c_7 => ?_)
  · refine lv_aload_n hx hb dX4_load_15 rfl (lv_at hl 1 rfl) ?_
    refine lv_iload_n hx hb dX4_load_16 rfl (lv_at hl 2 rfl) ?_
    refine k_mi (w := wD aH aM aW aC aR iW iR) wD_ad (va_runV (As := [.int p0]) (rest := []) ⟨hx, hb, hml, hown, hB⟩ (mX4_unknown l dC dI aH aM aW aC aR iW iR s.heap.size x p0) (cwV 1 hB (gV q_t2_58 q_t2_60 q_s_17 q_t1_1 wX4_unknown) rfl rfl rfl hX4_unknown ⟨Nat.le_of_ble_eq_true rfl, Nat.le_of_ble_eq_true rfl⟩) ⟨kM_blind NW_blind, va_recv hK hP (ci := 2) (q0 := 0) rfl rfl, kM_pre NW_warm hP hK hD hN⟩ rfl rfl hl.1 rfl (lv_room (Nat.le_of_ble_eq_true rfl)) dX4_load_17 ⟨Nat.zero_le _, Nat.zero_le _⟩) hD hS hA (fun r u H locs hw hP hD hS => ?_)
    obtain ⟨rfl, rfl⟩ := hw
    exact W.zret (v := bi (fX4_unknown p0 x).1) hx hb hr (bi_nar _) (fun t ht hW => ⟨⟨bi (fX4_unknown p0 x).1, ((fX4_unknown p0 x).2), rfl, ⟨(by unfold fX4_load; rw [if_pos c_7] <;> rfl), (by unfold fX4_load; rw [if_pos c_7] <;> rfl)⟩, hpT ht hP⟩, hS.F ht⟩) hS.2.2 dX4_load_20
  · refine lv_iload_n hx hb dX4_load_10 rfl (lv_at hl 0 rfl) ?_
    refine lv_iconst (v := 5) hx hb dX4_load_11 (by decide) ?_
    refine lv_icmp_le (tgt := 21) hx hb dX4_load_12 (by decide) (fun c_12 => ?_) (fun c_12 => ?_)
    · refine lv_aload_n hx hb dX4_load_21 rfl (lv_at hl 1 rfl) ?_
      refine lv_iload_n hx hb dX4_load_22 rfl (lv_at hl 2 rfl) ?_
      refine k_ri (va_runV (As := [.int p0]) (rest := []) ⟨hx, hb, hml, hown, hB⟩ (mX4_valueA l dC dI aH aM aW aC aR iW iR x p0) (cwV 1 hB (gV q_t2_62 q_t2_64 q_s_18 q_t1_1 wX4_valueA) rfl rfl rfl hX4_valueA ⟨Nat.le_of_ble_eq_true rfl, Nat.le_of_ble_eq_true rfl⟩) ⟨kP_blind NW_blind, va_recv hK hP (ci := 2) (q0 := 0) rfl rfl, kP_pre NW_warm hP hK hN⟩ rfl rfl hl.1 rfl (lv_room (Nat.le_of_ble_eq_true rfl)) dX4_load_23 ⟨Nat.zero_le _, Nat.zero_le _⟩) ?_
      refine lv_iload_n hx hb dX4_load_26 rfl (lv_at hl 2 rfl) ?_
      refine k_ri (va_runSN (As := [.int p0]) (rest := [.int (fX4_valueA p0 x)]) ⟨hx, hb, hml, hown, hB⟩ (mX1_numberI l p0) ⟨va_cnB 1 hB (good_in wX1_numberI) rfl rfl rfl (hN _ (List.mem_of_getElem? (i := 19) rfl)) (hB _ q_t1_10) hX1_numberI.2 ⟨Nat.le_of_ble_eq_true rfl, Nat.le_of_ble_eq_true rfl⟩, hB _ q_t2_74, trivial⟩ ⟨fun _ _ _ _ q => q, fun U _ _ => ⟨rfl, trivial⟩⟩ rfl rfl hl.1 rfl (lv_room (Nat.le_of_ble_eq_true rfl)) dX4_load_27 ⟨Nat.zero_le _, Nat.zero_le _⟩) ?_
      refine lv_iadd hx hb dX4_load_30 ?_
      refine lv_istore_n (lv' := [(3, .int ((fX4_valueA p0 x) + (fX1_numberI p0))), (2, .int (fX1_f p0)), (0, .ref aH), (1, .int p0)]) hx hb dX4_load_31 rfl hl (by decide) rfl (fun ls hl => ?_)
      refine lv_iload_n hx hb dX4_load_32 rfl (lv_at hl 0 rfl) ?_
      refine lv_iload_n hx hb dX4_load_33 rfl (lv_at hl 1 rfl) ?_
      refine lv_iconst (v := 3) hx hb dX4_load_34 (by decide) ?_
      refine lv_iand hx hb dX4_load_35 ?_
      refine k_ri (va_runSN (As := [.int ((fX4_valueA p0 x) + (fX1_numberI p0)), .int ((fX1_f p0) &&& (3 : Int32))]) (rest := []) ⟨hx, hb, hml, hown, hB⟩ (mX3_isBy l ((fX4_valueA p0 x) + (fX1_numberI p0)) ((fX1_f p0) &&& (3 : Int32))) ⟨va_cnB 2 hB (good_in wX3_isBy) rfl rfl rfl (hN _ (List.mem_of_getElem? (i := 23) rfl)) (hB _ q_t1_2) hX3_isBy.2 ⟨Nat.le_of_ble_eq_true rfl, Nat.le_of_ble_eq_true rfl⟩, hB _ q_t2_102, trivial⟩ ⟨fun _ _ _ _ q => q, fun U _ _ => ⟨rfl, trivial⟩⟩ rfl rfl hl.1 rfl (lv_room (Nat.le_of_ble_eq_true rfl)) dX4_load_36 ⟨Nat.zero_le _, Nat.zero_le _⟩) ?_
      refine lv_if_ne (tgt := 49) hx hb dX4_load_39 (by decide) (fun c_39 => ?_) (fun c_39 => ?_)
      · refine lv_iload_n hx hb dX4_load_49 rfl (lv_at hl 0 rfl) ?_
        refine k_ri (va_runSN (As := [.int ((fX4_valueA p0 x) + (fX1_numberI p0))]) (rest := []) ⟨hx, hb, hml, hown, hB⟩ (mX3_holds l ((fX4_valueA p0 x) + (fX1_numberI p0))) ⟨va_cnB 1 hB (good_in wX3_holds) rfl rfl rfl (hN _ (List.mem_of_getElem? (i := 11) rfl)) (hB _ q_t1_2) hX3_holds.2 ⟨Nat.le_of_ble_eq_true rfl, Nat.le_of_ble_eq_true rfl⟩, hB _ q_t1_100, trivial⟩ ⟨fun _ _ _ _ q => q, fun U _ _ => ⟨rfl, trivial⟩⟩ rfl rfl hl.1 rfl (lv_room (Nat.le_of_ble_eq_true rfl)) dX4_load_50 ⟨Nat.zero_le _, Nat.zero_le _⟩) ?_
        refine lv_if_ne (tgt := 63) hx hb dX4_load_53 (by decide) (fun c_53 => ?_) (fun c_53 => ?_)
        · refine lv_aload_n hx hb dX4_load_63 rfl (lv_at hl 2 rfl) ?_
          refine lv_iload_n hx hb dX4_load_64 rfl (lv_at hl 3 rfl) ?_
          refine lv_aload_n hx hb dX4_load_65 rfl (lv_at hl 2 rfl) ?_
          refine va_get (D := (dC, dI)) (ci := 2) (v := .ref aM) (C := RX4) (T := TX4) (N := 7) hx hb hB iX4 hown hK hP 0 rfl rfl 0 (by decide) (hB _ q_t1_70) (fun _ h9 => h9) rfl dX4_load_66 ?_
          refine lv_iload_n hx hb dX4_load_69 rfl (lv_at hl 0 rfl) ?_
          refine lv_iload_n hx hb dX4_load_70 rfl (lv_at hl 1 rfl) ?_
          refine k_ri (va_runVN (As := [.int ((fX4_valueA p0 x) + (fX1_numberI p0)), .int (fX1_f p0)]) (rest := [.int p0, .ref aH]) ⟨hx, hb, hml, hown, hB⟩ (mX3_readPart l dC dI aH aM aW aC aR iW iR x ((fX4_valueA p0 x) + (fX1_numberI p0)) (fX1_f p0)) ⟨va_cnB 2 hB (good_in wX3_readPart) rfl rfl rfl (hN _ (List.mem_of_getElem? (i := 24) rfl)) (hB _ q_t1_2) hX3_readPart.2 ⟨Nat.le_of_ble_eq_true rfl, Nat.le_of_ble_eq_true rfl⟩, hB _ q_t2_106, hB _ q_s_23⟩ ⟨kP_blind NW_blind, va_recv hK hP (ci := 1) (q0 := 1) rfl rfl, kP_pre NW_warm hP hK hN⟩ rfl rfl hl.1 rfl (lv_room (Nat.le_of_ble_eq_true rfl)) dX4_load_71 ⟨Nat.zero_le _, Nat.zero_le _⟩) ?_
          refine k_mi (w := wD aH aM aW aC aR iW iR) wD_ad (va_runV (As := [.int p0, .int (fX3_readPart ((fX4_valueA p0 x) + (fX1_numberI p0)) (fX1_f p0) x)]) (rest := []) ⟨hx, hb, hml, hown, hB⟩ (mX4_goOnWith l dC dI aH aM aW aC aR iW iR s.heap.size x p0 (fX3_readPart ((fX4_valueA p0 x) + (fX1_numberI p0)) (fX1_f p0) x)) (cwV 2 hB (gV q_t2_33 q_t2_35 q_s_13 q_t1_1 wX4_goOnWith) rfl rfl rfl hX4_goOnWith ⟨Nat.le_of_ble_eq_true rfl, Nat.le_of_ble_eq_true rfl⟩) ⟨kM_blind NW_blind, va_recv hK hP (ci := 2) (q0 := 0) rfl rfl, kM_pre NW_warm hP hK hD hN⟩ rfl rfl hl.1 rfl (lv_room (Nat.le_of_ble_eq_true rfl)) dX4_load_74 ⟨Nat.zero_le _, Nat.zero_le _⟩) hD hS hA (fun r u H locs hw hP hD hS => ?_)
          obtain ⟨rfl, rfl⟩ := hw
          exact W.zret (v := bi (fX4_goOnWith p0 (fX3_readPart ((fX4_valueA p0 x) + (fX1_numberI p0)) (fX1_f p0) x) x).1) hx hb hr (bi_nar _) (fun t ht hW => ⟨⟨bi (fX4_goOnWith p0 (fX3_readPart ((fX4_valueA p0 x) + (fX1_numberI p0)) (fX1_f p0) x) x).1, ((fX4_goOnWith p0 (fX3_readPart ((fX4_valueA p0 x) + (fX1_numberI p0)) (fX1_f p0) x) x).2), rfl, ⟨(by unfold fX4_load; rw [if_neg c_7, if_pos c_12, if_neg c_39, if_neg c_53] <;> rfl), (by unfold fX4_load; rw [if_neg c_7, if_pos c_12, if_neg c_39, if_neg c_53] <;> rfl)⟩, hpT ht hP⟩, hS.F ht⟩) hS.2.2 dX4_load_77
        · refine lv_aload_n hx hb dX4_load_56 rfl (lv_at hl 2 rfl) ?_
          refine lv_iconst (v := 5) hx hb dX4_load_57 (by decide) ?_
          refine lv_iload_n hx hb dX4_load_58 rfl (lv_at hl 0 rfl) ?_
          refine k_mi (w := wD aH aM aW aC aR iW iR) wD_ad (va_runV (As := [.int (5 : Int32), .int ((fX4_valueA p0 x) + (fX1_numberI p0))]) (rest := []) ⟨hx, hb, hml, hown, hB⟩ (mX4_trap l dC dI aH aM aW aC aR iW iR s.heap.size x (5 : Int32) ((fX4_valueA p0 x) + (fX1_numberI p0))) (cwV 2 hB (gV q_t2_10 q_t2_12 q_s_9 q_t1_1 wX4_trap) rfl rfl rfl hX4_trap ⟨Nat.le_of_ble_eq_true rfl, Nat.le_of_ble_eq_true rfl⟩) ⟨kM_blind NW_blind, va_recv hK hP (ci := 2) (q0 := 0) rfl rfl, kM_pre NW_warm hP hK hD hN⟩ rfl rfl hl.1 rfl (lv_room (Nat.le_of_ble_eq_true rfl)) dX4_load_59 ⟨Nat.zero_le _, Nat.zero_le _⟩) hD hS hA (fun r u H locs hw hP hD hS => ?_)
          obtain ⟨rfl, rfl⟩ := hw
          exact W.zret (v := bi (fX4_trap (5 : Int32) ((fX4_valueA p0 x) + (fX1_numberI p0)) x).1) hx hb hr (bi_nar _) (fun t ht hW => ⟨⟨bi (fX4_trap (5 : Int32) ((fX4_valueA p0 x) + (fX1_numberI p0)) x).1, ((fX4_trap (5 : Int32) ((fX4_valueA p0 x) + (fX1_numberI p0)) x).2), rfl, ⟨(by unfold fX4_load; rw [if_neg c_7, if_pos c_12, if_neg c_39, if_pos c_53] <;> rfl), (by unfold fX4_load; rw [if_neg c_7, if_pos c_12, if_neg c_39, if_pos c_53] <;> rfl)⟩, hpT ht hP⟩, hS.F ht⟩) hS.2.2 dX4_load_62
      · refine lv_aload_n hx hb dX4_load_42 rfl (lv_at hl 2 rfl) ?_
        refine lv_iconst (v := 4) hx hb dX4_load_43 (by decide) ?_
        refine lv_iload_n hx hb dX4_load_44 rfl (lv_at hl 0 rfl) ?_
        refine k_mi (w := wD aH aM aW aC aR iW iR) wD_ad (va_runV (As := [.int (4 : Int32), .int ((fX4_valueA p0 x) + (fX1_numberI p0))]) (rest := []) ⟨hx, hb, hml, hown, hB⟩ (mX4_trap l dC dI aH aM aW aC aR iW iR s.heap.size x (4 : Int32) ((fX4_valueA p0 x) + (fX1_numberI p0))) (cwV 2 hB (gV q_t2_10 q_t2_12 q_s_9 q_t1_1 wX4_trap) rfl rfl rfl hX4_trap ⟨Nat.le_of_ble_eq_true rfl, Nat.le_of_ble_eq_true rfl⟩) ⟨kM_blind NW_blind, va_recv hK hP (ci := 2) (q0 := 0) rfl rfl, kM_pre NW_warm hP hK hD hN⟩ rfl rfl hl.1 rfl (lv_room (Nat.le_of_ble_eq_true rfl)) dX4_load_45 ⟨Nat.zero_le _, Nat.zero_le _⟩) hD hS hA (fun r u H locs hw hP hD hS => ?_)
        obtain ⟨rfl, rfl⟩ := hw
        exact W.zret (v := bi (fX4_trap (4 : Int32) ((fX4_valueA p0 x) + (fX1_numberI p0)) x).1) hx hb hr (bi_nar _) (fun t ht hW => ⟨⟨bi (fX4_trap (4 : Int32) ((fX4_valueA p0 x) + (fX1_numberI p0)) x).1, ((fX4_trap (4 : Int32) ((fX4_valueA p0 x) + (fX1_numberI p0)) x).2), rfl, ⟨(by unfold fX4_load; rw [if_neg c_7, if_pos c_12, if_pos c_39] <;> rfl), (by unfold fX4_load; rw [if_neg c_7, if_pos c_12, if_pos c_39] <;> rfl)⟩, hpT ht hP⟩, hS.F ht⟩) hS.2.2 dX4_load_48
    · refine lv_aload_n hx hb dX4_load_15 rfl (lv_at hl 1 rfl) ?_
      refine lv_iload_n hx hb dX4_load_16 rfl (lv_at hl 2 rfl) ?_
      refine k_mi (w := wD aH aM aW aC aR iW iR) wD_ad (va_runV (As := [.int p0]) (rest := []) ⟨hx, hb, hml, hown, hB⟩ (mX4_unknown l dC dI aH aM aW aC aR iW iR s.heap.size x p0) (cwV 1 hB (gV q_t2_58 q_t2_60 q_s_17 q_t1_1 wX4_unknown) rfl rfl rfl hX4_unknown ⟨Nat.le_of_ble_eq_true rfl, Nat.le_of_ble_eq_true rfl⟩) ⟨kM_blind NW_blind, va_recv hK hP (ci := 2) (q0 := 0) rfl rfl, kM_pre NW_warm hP hK hD hN⟩ rfl rfl hl.1 rfl (lv_room (Nat.le_of_ble_eq_true rfl)) dX4_load_17 ⟨Nat.zero_le _, Nat.zero_le _⟩) hD hS hA (fun r u H locs hw hP hD hS => ?_)
      obtain ⟨rfl, rfl⟩ := hw
      exact W.zret (v := bi (fX4_unknown p0 x).1) hx hb hr (bi_nar _) (fun t ht hW => ⟨⟨bi (fX4_unknown p0 x).1, ((fX4_unknown p0 x).2), rfl, ⟨(by unfold fX4_load; rw [if_neg c_7, if_neg c_12] <;> rfl), (by unfold fX4_load; rw [if_neg c_7, if_neg c_12] <;> rfl)⟩, hpT ht hP⟩, hS.F ht⟩) hS.2.2 dX4_load_20
def fX4_store (p0 : Int32) (x : St) : Bool × St := if (fX1_f p0) ≤ (2 : Int32) then
    if (bi (fX3_isBy ((fX4_valueA p0 x) + (fX1_numberS p0)) (fX1_f p0))) = 0 then
      ((fX4_trap (6 : Int32) ((fX4_valueA p0 x) + (fX1_numberS p0)) x).1, (fX4_trap (6 : Int32) ((fX4_valueA p0 x) + (fX1_numberS p0)) x).2)
    else
      if (bi (fX3_holds ((fX4_valueA p0 x) + (fX1_numberS p0)))) = 0 then
        ((fX4_trap (7 : Int32) ((fX4_valueA p0 x) + (fX1_numberS p0)) x).1, (fX4_trap (7 : Int32) ((fX4_valueA p0 x) + (fX1_numberS p0)) x).2)
      else
        ((fX4_goOn (fX3_writePart ((fX4_valueA p0 x) + (fX1_numberS p0)) (fX1_f p0) (fX4_valueB p0 x) x)).1, (fX4_goOn (fX3_writePart ((fX4_valueA p0 x) + (fX1_numberS p0)) (fX1_f p0) (fX4_valueB p0 x) x)).2)
  else
    ((fX4_unknown p0 x).1, (fX4_unknown p0 x).2)
set_option maxHeartbeats 4000000 in
set_option maxRecDepth 100000 in
theorem mX4_store (l : Launch) (dC : Nat → ClassId) (dI : Nat → Nat → Nat) (aH aM aW aC aR iW iR : Nat) (sz : Nat) (x : St) (p0 : Int32) : Met l yX4_store wsX4_store ({ frames := 3, cells := 0, slots := 0, locals := 66 }) (va_Pc [.ref aH, .int p0] (kM (dC, dI) [(iW, .int), (iR, .int)] NW (wD aH aM aW aC aR iW iR x) sz)) (va_Qi (fun r u => r = bi (fX4_store p0 x).1 ∧ u = (fX4_store p0 x).2) (fun u t => va_P (dC, dI) vwCl (wD aH aM aW aC aR iW iR u) t.heap) (va_A (wD aH aM aW aC aR iW iR x) sz)) 0 0 (va_A (wD aH aM aW aC aR iW iR x) sz) := by
  refine Met.ofW (cc := cX4_store) (maxL := 4) (ret := (some .boolean)) (by decide) rfl ?_
  intro p e s m args below meth c s₁ B hml hv
  obtain ⟨rfl, hsz, hD0, hP, hK, hN⟩ := hv
  have hx := B.exec
  have hb := B.bytes
  have hr := B.returns
  have hB := fun (w : Cond) (h : w ∈ BIG) => atoms_spec (ws := wsX4_store) B.pre w (List.mem_cons_of_mem _ h)
  have hown : s.vm.findClass RX4 = some m.cls := findClass_of_methodNamed B.named
  have hlocks := B.notSynchronized
  subst hsz
  have hD := hD0.self (sz := s.heap.size)
  generalize hAe : va_A (wD aH aM aW aC aR iW iR x) s.heap.size = A at hD ⊢
  have hA : ∀ q : Nat, s.heap.size ≤ q → A q := fun q h => by rw [← hAe]; exact Or.inr h
  have hS : va_S A s.heap s.heap [] := va_S.rf
  have hl := lv_entry ([.ref aH, .int p0]) (n := 4) (Nat.le_of_ble_eq_true rfl)
  rw [lg_entry_eq]
  generalize (lg_sl ([.ref aH, .int p0]) ++ List.replicate (4 - (lg_sl ([.ref aH, .int p0])).length) Slot.unset).toArray = ls at hl ⊢
  have hl : lv_has ls 4 [(0, .ref aH), (1, .int p0)] := hl
  refine lv_iload_n hx hb dX4_store_0 rfl (lv_at hl 1 rfl) ?_
  refine k_ri (va_runSN (As := [.int p0]) (rest := []) ⟨hx, hb, hml, hown, hB⟩ (mX1_f l p0) ⟨va_cnB 1 hB (good_in wX1_f) rfl rfl rfl (hN _ (List.mem_of_getElem? (i := 17) rfl)) (hB _ q_t1_10) hX1_f.2 ⟨Nat.le_of_ble_eq_true rfl, Nat.le_of_ble_eq_true rfl⟩, hB _ q_t2_56, trivial⟩ ⟨fun _ _ _ _ q => q, fun U _ _ => ⟨rfl, trivial⟩⟩ rfl rfl hl.1 rfl (lv_room (Nat.le_of_ble_eq_true rfl)) dX4_store_1 ⟨Nat.zero_le _, Nat.zero_le _⟩) ?_
  refine lv_istore_n (lv' := [(2, .int (fX1_f p0)), (0, .ref aH), (1, .int p0)]) hx hb dX4_store_4 rfl hl (by decide) rfl (fun ls hl => ?_)
  refine lv_iload_n hx hb dX4_store_5 rfl (lv_at hl 0 rfl) ?_
  refine lv_iconst (v := 2) hx hb dX4_store_6 (by decide) ?_
  refine lv_icmp_le (tgt := 16) hx hb dX4_store_7 (by decide) (fun c_7 => ?_) (fun c_7 => ?_)
  · refine lv_aload_n hx hb dX4_store_16 rfl (lv_at hl 1 rfl) ?_
    refine lv_iload_n hx hb dX4_store_17 rfl (lv_at hl 2 rfl) ?_
    refine k_ri (va_runV (As := [.int p0]) (rest := []) ⟨hx, hb, hml, hown, hB⟩ (mX4_valueA l dC dI aH aM aW aC aR iW iR x p0) (cwV 1 hB (gV q_t2_62 q_t2_64 q_s_18 q_t1_1 wX4_valueA) rfl rfl rfl hX4_valueA ⟨Nat.le_of_ble_eq_true rfl, Nat.le_of_ble_eq_true rfl⟩) ⟨kP_blind NW_blind, va_recv hK hP (ci := 2) (q0 := 0) rfl rfl, kP_pre NW_warm hP hK hN⟩ rfl rfl hl.1 rfl (lv_room (Nat.le_of_ble_eq_true rfl)) dX4_store_18 ⟨Nat.zero_le _, Nat.zero_le _⟩) ?_
    refine lv_iload_n hx hb dX4_store_21 rfl (lv_at hl 2 rfl) ?_
    refine k_ri (va_runSN (As := [.int p0]) (rest := [.int (fX4_valueA p0 x)]) ⟨hx, hb, hml, hown, hB⟩ (mX1_numberS l p0) ⟨va_cnB 1 hB (good_in wX1_numberS) rfl rfl rfl (hN _ (List.mem_of_getElem? (i := 25) rfl)) (hB _ q_t1_10) hX1_numberS.2 ⟨Nat.le_of_ble_eq_true rfl, Nat.le_of_ble_eq_true rfl⟩, hB _ q_t2_118, trivial⟩ ⟨fun _ _ _ _ q => q, fun U _ _ => ⟨rfl, trivial⟩⟩ rfl rfl hl.1 rfl (lv_room (Nat.le_of_ble_eq_true rfl)) dX4_store_22 ⟨Nat.zero_le _, Nat.zero_le _⟩) ?_
    refine lv_iadd hx hb dX4_store_25 ?_
    refine lv_istore_n (lv' := [(3, .int ((fX4_valueA p0 x) + (fX1_numberS p0))), (2, .int (fX1_f p0)), (0, .ref aH), (1, .int p0)]) hx hb dX4_store_26 rfl hl (by decide) rfl (fun ls hl => ?_)
    refine lv_iload_n hx hb dX4_store_27 rfl (lv_at hl 0 rfl) ?_
    refine lv_iload_n hx hb dX4_store_28 rfl (lv_at hl 1 rfl) ?_
    refine k_ri (va_runSN (As := [.int ((fX4_valueA p0 x) + (fX1_numberS p0)), .int (fX1_f p0)]) (rest := []) ⟨hx, hb, hml, hown, hB⟩ (mX3_isBy l ((fX4_valueA p0 x) + (fX1_numberS p0)) (fX1_f p0)) ⟨va_cnB 2 hB (good_in wX3_isBy) rfl rfl rfl (hN _ (List.mem_of_getElem? (i := 23) rfl)) (hB _ q_t1_2) hX3_isBy.2 ⟨Nat.le_of_ble_eq_true rfl, Nat.le_of_ble_eq_true rfl⟩, hB _ q_t2_102, trivial⟩ ⟨fun _ _ _ _ q => q, fun U _ _ => ⟨rfl, trivial⟩⟩ rfl rfl hl.1 rfl (lv_room (Nat.le_of_ble_eq_true rfl)) dX4_store_29 ⟨Nat.zero_le _, Nat.zero_le _⟩) ?_
    refine lv_if_ne (tgt := 43) hx hb dX4_store_32 (by decide) (fun c_32 => ?_) (fun c_32 => ?_)
    · refine lv_iload_n hx hb dX4_store_43 rfl (lv_at hl 0 rfl) ?_
      refine k_ri (va_runSN (As := [.int ((fX4_valueA p0 x) + (fX1_numberS p0))]) (rest := []) ⟨hx, hb, hml, hown, hB⟩ (mX3_holds l ((fX4_valueA p0 x) + (fX1_numberS p0))) ⟨va_cnB 1 hB (good_in wX3_holds) rfl rfl rfl (hN _ (List.mem_of_getElem? (i := 11) rfl)) (hB _ q_t1_2) hX3_holds.2 ⟨Nat.le_of_ble_eq_true rfl, Nat.le_of_ble_eq_true rfl⟩, hB _ q_t1_100, trivial⟩ ⟨fun _ _ _ _ q => q, fun U _ _ => ⟨rfl, trivial⟩⟩ rfl rfl hl.1 rfl (lv_room (Nat.le_of_ble_eq_true rfl)) dX4_store_44 ⟨Nat.zero_le _, Nat.zero_le _⟩) ?_
      refine lv_if_ne (tgt := 58) hx hb dX4_store_47 (by decide) (fun c_47 => ?_) (fun c_47 => ?_)
      · refine lv_aload_n hx hb dX4_store_58 rfl (lv_at hl 2 rfl) ?_
        refine va_get (D := (dC, dI)) (ci := 2) (v := .ref aM) (C := RX4) (T := TX4) (N := 7) hx hb hB iX4 hown hK hP 0 rfl rfl 0 (by decide) (hB _ q_t1_70) (fun _ h9 => h9) rfl dX4_store_59 ?_
        refine lv_iload_n hx hb dX4_store_62 rfl (lv_at hl 0 rfl) ?_
        refine lv_iload_n hx hb dX4_store_63 rfl (lv_at hl 1 rfl) ?_
        refine lv_aload_n hx hb dX4_store_64 rfl (lv_at hl 2 rfl) ?_
        refine lv_iload_n hx hb dX4_store_65 rfl (lv_at hl 3 rfl) ?_
        refine k_ri (va_runV (As := [.int p0]) (rest := [.int (fX1_f p0), .int ((fX4_valueA p0 x) + (fX1_numberS p0)), .ref aM]) ⟨hx, hb, hml, hown, hB⟩ (mX4_valueB l dC dI aH aM aW aC aR iW iR x p0) (cwV 1 hB (gV q_t2_80 q_t2_82 q_s_21 q_t1_1 wX4_valueB) rfl rfl rfl hX4_valueB ⟨Nat.le_of_ble_eq_true rfl, Nat.le_of_ble_eq_true rfl⟩) ⟨kP_blind NW_blind, va_recv hK hP (ci := 2) (q0 := 0) rfl rfl, kP_pre NW_warm hP hK hN⟩ rfl rfl hl.1 rfl (lv_room (Nat.le_of_ble_eq_true rfl)) dX4_store_66 ⟨Nat.zero_le _, Nat.zero_le _⟩) ?_
        refine k_mv (w := wD aH aM aW aC aR iW iR) wD_ad (va_runVN (As := [.int ((fX4_valueA p0 x) + (fX1_numberS p0)), .int (fX1_f p0), .int (fX4_valueB p0 x)]) (rest := []) ⟨hx, hb, hml, hown, hB⟩ (mX3_writePart l dC dI aH aM aW aC aR iW iR s.heap.size x ((fX4_valueA p0 x) + (fX1_numberS p0)) (fX1_f p0) (fX4_valueB p0 x)) ⟨va_cnB 3 hB (good_in wX3_writePart) rfl rfl rfl (hN _ (List.mem_of_getElem? (i := 26) rfl)) (hB _ q_t1_2) hX3_writePart.2 ⟨Nat.le_of_ble_eq_true rfl, Nat.le_of_ble_eq_true rfl⟩, hB _ q_t2_123, hB _ q_s_25⟩ ⟨kM_blind NW_blind, va_recv hK hP (ci := 1) (q0 := 1) rfl rfl, kM_pre NW_warm hP hK hD hN⟩ rfl rfl hl.1 rfl (lv_room (Nat.le_of_ble_eq_true rfl)) dX4_store_69 ⟨Nat.zero_le _, Nat.zero_le _⟩) hD hS hA (fun u H locs hw hP hD hS => ?_)
        obtain rfl := hw
        refine lv_aload_n hx hb dX4_store_72 rfl (lv_at hl 2 rfl) ?_
        refine k_mi (w := wD aH aM aW aC aR iW iR) wD_ad (va_runV (As := []) (rest := []) ⟨hx, hb, hml, hown, hB⟩ (mX4_goOn l dC dI aH aM aW aC aR iW iR H.size (fX3_writePart ((fX4_valueA p0 x) + (fX1_numberS p0)) (fX1_f p0) (fX4_valueB p0 x) x)) (cwV 0 hB (gV q_t2_40 q_t2_42 q_s_14 q_t1_1 wX4_goOn) rfl rfl rfl hX4_goOn ⟨Nat.le_of_ble_eq_true rfl, Nat.le_of_ble_eq_true rfl⟩) ⟨kM_blind NW_blind, va_recv hK hP (ci := 2) (q0 := 0) rfl rfl, kM_pre NW_warm hP hK hD hN⟩ rfl rfl hl.1 rfl (lv_room (Nat.le_of_ble_eq_true rfl)) dX4_store_73 ⟨Nat.zero_le _, Nat.zero_le _⟩) hD hS hA (fun r u H locs hw hP hD hS => ?_)
        obtain ⟨rfl, rfl⟩ := hw
        exact W.zret (v := bi (fX4_goOn (fX3_writePart ((fX4_valueA p0 x) + (fX1_numberS p0)) (fX1_f p0) (fX4_valueB p0 x) x)).1) hx hb hr (bi_nar _) (fun t ht hW => ⟨⟨bi (fX4_goOn (fX3_writePart ((fX4_valueA p0 x) + (fX1_numberS p0)) (fX1_f p0) (fX4_valueB p0 x) x)).1, ((fX4_goOn (fX3_writePart ((fX4_valueA p0 x) + (fX1_numberS p0)) (fX1_f p0) (fX4_valueB p0 x) x)).2), rfl, ⟨(by unfold fX4_store; rw [if_pos c_7, if_neg c_32, if_neg c_47] <;> rfl), (by unfold fX4_store; rw [if_pos c_7, if_neg c_32, if_neg c_47] <;> rfl)⟩, hpT ht hP⟩, hS.F ht⟩) hS.2.2 dX4_store_76
      · refine lv_aload_n hx hb dX4_store_50 rfl (lv_at hl 2 rfl) ?_
        refine lv_bipush (v := 7) hx hb dX4_store_51 (by decide) ?_
        refine lv_iload_n hx hb dX4_store_53 rfl (lv_at hl 0 rfl) ?_
        refine k_mi (w := wD aH aM aW aC aR iW iR) wD_ad (va_runV (As := [.int (7 : Int32), .int ((fX4_valueA p0 x) + (fX1_numberS p0))]) (rest := []) ⟨hx, hb, hml, hown, hB⟩ (mX4_trap l dC dI aH aM aW aC aR iW iR s.heap.size x (7 : Int32) ((fX4_valueA p0 x) + (fX1_numberS p0))) (cwV 2 hB (gV q_t2_10 q_t2_12 q_s_9 q_t1_1 wX4_trap) rfl rfl rfl hX4_trap ⟨Nat.le_of_ble_eq_true rfl, Nat.le_of_ble_eq_true rfl⟩) ⟨kM_blind NW_blind, va_recv hK hP (ci := 2) (q0 := 0) rfl rfl, kM_pre NW_warm hP hK hD hN⟩ rfl rfl hl.1 rfl (lv_room (Nat.le_of_ble_eq_true rfl)) dX4_store_54 ⟨Nat.zero_le _, Nat.zero_le _⟩) hD hS hA (fun r u H locs hw hP hD hS => ?_)
        obtain ⟨rfl, rfl⟩ := hw
        exact W.zret (v := bi (fX4_trap (7 : Int32) ((fX4_valueA p0 x) + (fX1_numberS p0)) x).1) hx hb hr (bi_nar _) (fun t ht hW => ⟨⟨bi (fX4_trap (7 : Int32) ((fX4_valueA p0 x) + (fX1_numberS p0)) x).1, ((fX4_trap (7 : Int32) ((fX4_valueA p0 x) + (fX1_numberS p0)) x).2), rfl, ⟨(by unfold fX4_store; rw [if_pos c_7, if_neg c_32, if_pos c_47] <;> rfl), (by unfold fX4_store; rw [if_pos c_7, if_neg c_32, if_pos c_47] <;> rfl)⟩, hpT ht hP⟩, hS.F ht⟩) hS.2.2 dX4_store_57
    · refine lv_aload_n hx hb dX4_store_35 rfl (lv_at hl 2 rfl) ?_
      refine lv_bipush (v := 6) hx hb dX4_store_36 (by decide) ?_
      refine lv_iload_n hx hb dX4_store_38 rfl (lv_at hl 0 rfl) ?_
      refine k_mi (w := wD aH aM aW aC aR iW iR) wD_ad (va_runV (As := [.int (6 : Int32), .int ((fX4_valueA p0 x) + (fX1_numberS p0))]) (rest := []) ⟨hx, hb, hml, hown, hB⟩ (mX4_trap l dC dI aH aM aW aC aR iW iR s.heap.size x (6 : Int32) ((fX4_valueA p0 x) + (fX1_numberS p0))) (cwV 2 hB (gV q_t2_10 q_t2_12 q_s_9 q_t1_1 wX4_trap) rfl rfl rfl hX4_trap ⟨Nat.le_of_ble_eq_true rfl, Nat.le_of_ble_eq_true rfl⟩) ⟨kM_blind NW_blind, va_recv hK hP (ci := 2) (q0 := 0) rfl rfl, kM_pre NW_warm hP hK hD hN⟩ rfl rfl hl.1 rfl (lv_room (Nat.le_of_ble_eq_true rfl)) dX4_store_39 ⟨Nat.zero_le _, Nat.zero_le _⟩) hD hS hA (fun r u H locs hw hP hD hS => ?_)
      obtain ⟨rfl, rfl⟩ := hw
      exact W.zret (v := bi (fX4_trap (6 : Int32) ((fX4_valueA p0 x) + (fX1_numberS p0)) x).1) hx hb hr (bi_nar _) (fun t ht hW => ⟨⟨bi (fX4_trap (6 : Int32) ((fX4_valueA p0 x) + (fX1_numberS p0)) x).1, ((fX4_trap (6 : Int32) ((fX4_valueA p0 x) + (fX1_numberS p0)) x).2), rfl, ⟨(by unfold fX4_store; rw [if_pos c_7, if_pos c_32] <;> rfl), (by unfold fX4_store; rw [if_pos c_7, if_pos c_32] <;> rfl)⟩, hpT ht hP⟩, hS.F ht⟩) hS.2.2 dX4_store_42
  · refine lv_aload_n hx hb dX4_store_10 rfl (lv_at hl 1 rfl) ?_
    refine lv_iload_n hx hb dX4_store_11 rfl (lv_at hl 2 rfl) ?_
    refine k_mi (w := wD aH aM aW aC aR iW iR) wD_ad (va_runV (As := [.int p0]) (rest := []) ⟨hx, hb, hml, hown, hB⟩ (mX4_unknown l dC dI aH aM aW aC aR iW iR s.heap.size x p0) (cwV 1 hB (gV q_t2_58 q_t2_60 q_s_17 q_t1_1 wX4_unknown) rfl rfl rfl hX4_unknown ⟨Nat.le_of_ble_eq_true rfl, Nat.le_of_ble_eq_true rfl⟩) ⟨kM_blind NW_blind, va_recv hK hP (ci := 2) (q0 := 0) rfl rfl, kM_pre NW_warm hP hK hD hN⟩ rfl rfl hl.1 rfl (lv_room (Nat.le_of_ble_eq_true rfl)) dX4_store_12 ⟨Nat.zero_le _, Nat.zero_le _⟩) hD hS hA (fun r u H locs hw hP hD hS => ?_)
    obtain ⟨rfl, rfl⟩ := hw
    exact W.zret (v := bi (fX4_unknown p0 x).1) hx hb hr (bi_nar _) (fun t ht hW => ⟨⟨bi (fX4_unknown p0 x).1, ((fX4_unknown p0 x).2), rfl, ⟨(by unfold fX4_store; rw [if_neg c_7] <;> rfl), (by unfold fX4_store; rw [if_neg c_7] <;> rfl)⟩, hpT ht hP⟩, hS.F ht⟩) hS.2.2 dX4_store_15
def fX4_callSystem (p0 : Int32) (x : St) : Bool × St := if p0 = (115 : Int32) then
    ((fX4_trap (11 : Int32) (0 : Int32) x).1, (fX4_trap (11 : Int32) (0 : Int32) x).2)
  else
    if p0 = (1048691 : Int32) then
      ((fX4_trap (3 : Int32) (g_pc x) x).1, (fX4_trap (3 : Int32) (g_pc x) x).2)
    else
      if p0 = (807403635 : Int32) then
        (true, s_pc ((fX2_leaveTrap x).2) ((fX2_leaveTrap x).1))
      else
        ((fX4_unknown p0 x).1, (fX4_unknown p0 x).2)
set_option maxHeartbeats 4000000 in
set_option maxRecDepth 100000 in
theorem mX4_callSystem (l : Launch) (dC : Nat → ClassId) (dI : Nat → Nat → Nat) (aH aM aW aC aR iW iR : Nat) (sz : Nat) (x : St) (p0 : Int32) : Met l yX4_callSystem wsX4_callSystem ({ frames := 3, cells := 0, slots := 0, locals := 66 }) (va_Pc [.ref aH, .int p0] (kM (dC, dI) [(iW, .int), (iR, .int)] NW (wD aH aM aW aC aR iW iR x) sz)) (va_Qi (fun r u => r = bi (fX4_callSystem p0 x).1 ∧ u = (fX4_callSystem p0 x).2) (fun u t => va_P (dC, dI) vwCl (wD aH aM aW aC aR iW iR u) t.heap) (va_A (wD aH aM aW aC aR iW iR x) sz)) 0 0 (va_A (wD aH aM aW aC aR iW iR x) sz) := by
  refine Met.ofW (cc := cX4_callSystem) (maxL := 2) (ret := (some .boolean)) (by decide) rfl ?_
  intro p e s m args below meth c s₁ B hml hv
  obtain ⟨rfl, hsz, hD0, hP, hK, hN⟩ := hv
  have hx := B.exec
  have hb := B.bytes
  have hr := B.returns
  have hB := fun (w : Cond) (h : w ∈ BIG) => atoms_spec (ws := wsX4_callSystem) B.pre w (List.mem_cons_of_mem _ h)
  have hown : s.vm.findClass RX4 = some m.cls := findClass_of_methodNamed B.named
  have hlocks := B.notSynchronized
  subst hsz
  have hD := hD0.self (sz := s.heap.size)
  generalize hAe : va_A (wD aH aM aW aC aR iW iR x) s.heap.size = A at hD ⊢
  have hA : ∀ q : Nat, s.heap.size ≤ q → A q := fun q h => by rw [← hAe]; exact Or.inr h
  have hS : va_S A s.heap s.heap [] := va_S.rf
  have hl := lv_entry ([.ref aH, .int p0]) (n := 2) (Nat.le_of_ble_eq_true rfl)
  rw [lg_entry_eq]
  generalize (lg_sl ([.ref aH, .int p0]) ++ List.replicate (2 - (lg_sl ([.ref aH, .int p0])).length) Slot.unset).toArray = ls at hl ⊢
  have hl : lv_has ls 2 [(0, .ref aH), (1, .int p0)] := hl
  refine lv_iload_n hx hb dX4_callSystem_0 rfl (lv_at hl 1 rfl) ?_
  by_cases c_1_115 : p0 = (115 : Int32)
  · refine lv_lookup (off := 35) (tgt := 36) hx hb dX4_callSystem_1 (by decide) (by rw [c_1_115]; decide) (by decide) ?_
    refine lv_aload_n hx hb dX4_callSystem_36 rfl (lv_at hl 0 rfl) ?_
    refine lv_bipush (v := 11) hx hb dX4_callSystem_37 (by decide) ?_
    refine lv_iconst (v := 0) hx hb dX4_callSystem_39 (by decide) ?_
    refine k_mi (w := wD aH aM aW aC aR iW iR) wD_ad (va_runV (As := [.int (11 : Int32), .int (0 : Int32)]) (rest := []) ⟨hx, hb, hml, hown, hB⟩ (mX4_trap l dC dI aH aM aW aC aR iW iR s.heap.size x (11 : Int32) (0 : Int32)) (cwV 2 hB (gV q_t2_10 q_t2_12 q_s_9 q_t1_1 wX4_trap) rfl rfl rfl hX4_trap ⟨Nat.le_of_ble_eq_true rfl, Nat.le_of_ble_eq_true rfl⟩) ⟨kM_blind NW_blind, va_recv hK hP (ci := 2) (q0 := 0) rfl rfl, kM_pre NW_warm hP hK hD hN⟩ rfl rfl hl.1 rfl (lv_room (Nat.le_of_ble_eq_true rfl)) dX4_callSystem_40 ⟨Nat.zero_le _, Nat.zero_le _⟩) hD hS hA (fun r u H locs hw hP hD hS => ?_)
    obtain ⟨rfl, rfl⟩ := hw
    exact W.zret (v := bi (fX4_trap (11 : Int32) (0 : Int32) x).1) hx hb hr (bi_nar _) (fun t ht hW => ⟨⟨bi (fX4_trap (11 : Int32) (0 : Int32) x).1, ((fX4_trap (11 : Int32) (0 : Int32) x).2), rfl, ⟨(by unfold fX4_callSystem; rw [if_pos c_1_115] <;> rfl), (by unfold fX4_callSystem; rw [if_pos c_1_115] <;> rfl)⟩, hpT ht hP⟩, hS.F ht⟩) hS.2.2 dX4_callSystem_43
  by_cases c_1_1048691 : p0 = (1048691 : Int32)
  · refine lv_lookup (off := 43) (tgt := 44) hx hb dX4_callSystem_1 (by decide) (by rw [c_1_1048691]; decide) (by decide) ?_
    refine lv_aload_n hx hb dX4_callSystem_44 rfl (lv_at hl 0 rfl) ?_
    refine lv_iconst (v := 3) hx hb dX4_callSystem_45 (by decide) ?_
    refine lv_aload_n hx hb dX4_callSystem_46 rfl (lv_at hl 0 rfl) ?_
    refine va_get (D := (dC, dI)) (ci := 2) (v := .int (g_pc x)) (C := RX4) (T := TX4) (N := 7) hx hb hB iX4 hown hK hP 0 rfl rfl 3 (by decide) (hB _ q_t1_73) (fun _ h9 => h9) rfl dX4_callSystem_47 ?_
    refine k_mi (w := wD aH aM aW aC aR iW iR) wD_ad (va_runV (As := [.int (3 : Int32), .int (g_pc x)]) (rest := []) ⟨hx, hb, hml, hown, hB⟩ (mX4_trap l dC dI aH aM aW aC aR iW iR s.heap.size x (3 : Int32) (g_pc x)) (cwV 2 hB (gV q_t2_10 q_t2_12 q_s_9 q_t1_1 wX4_trap) rfl rfl rfl hX4_trap ⟨Nat.le_of_ble_eq_true rfl, Nat.le_of_ble_eq_true rfl⟩) ⟨kM_blind NW_blind, va_recv hK hP (ci := 2) (q0 := 0) rfl rfl, kM_pre NW_warm hP hK hD hN⟩ rfl rfl hl.1 rfl (lv_room (Nat.le_of_ble_eq_true rfl)) dX4_callSystem_50 ⟨Nat.zero_le _, Nat.zero_le _⟩) hD hS hA (fun r u H locs hw hP hD hS => ?_)
    obtain ⟨rfl, rfl⟩ := hw
    exact W.zret (v := bi (fX4_trap (3 : Int32) (g_pc x) x).1) hx hb hr (bi_nar _) (fun t ht hW => ⟨⟨bi (fX4_trap (3 : Int32) (g_pc x) x).1, ((fX4_trap (3 : Int32) (g_pc x) x).2), rfl, ⟨(by unfold fX4_callSystem; rw [if_neg c_1_115, if_pos c_1_1048691] <;> rfl), (by unfold fX4_callSystem; rw [if_neg c_1_115, if_pos c_1_1048691] <;> rfl)⟩, hpT ht hP⟩, hS.F ht⟩) hS.2.2 dX4_callSystem_53
  by_cases c_1_807403635 : p0 = (807403635 : Int32)
  · refine lv_lookup (off := 53) (tgt := 54) hx hb dX4_callSystem_1 (by decide) (by rw [c_1_807403635]; decide) (by decide) ?_
    refine lv_aload_n hx hb dX4_callSystem_54 rfl (lv_at hl 0 rfl) ?_
    refine lv_aload_n hx hb dX4_callSystem_55 rfl (lv_at hl 0 rfl) ?_
    refine va_get (D := (dC, dI)) (ci := 2) (v := .ref aC) (C := RX4) (T := TX4) (N := 7) hx hb hB iX4 hown hK hP 0 rfl rfl 1 (by decide) (hB _ q_t1_71) (fun _ h9 => h9) rfl dX4_callSystem_56 ?_
    refine k_mi (w := wD aH aM aW aC aR iW iR) wD_ad (va_runVN (As := []) (rest := [.ref aH]) ⟨hx, hb, hml, hown, hB⟩ (mX2_leaveTrap l dC dI aH aM aW aC aR iW iR s.heap.size x) ⟨va_cnB 0 hB (good_in wX2_leaveTrap) rfl rfl rfl (hN _ (List.mem_of_getElem? (i := 30) rfl)) (hB _ q_t1_3) hX2_leaveTrap.2 ⟨Nat.le_of_ble_eq_true rfl, Nat.le_of_ble_eq_true rfl⟩, hB _ q_t2_158, hB _ q_s_29⟩ ⟨kM_blind NW_blind, va_recv hK hP (ci := 0) (q0 := 3) rfl rfl, kM_pre NW_warm hP hK hD hN⟩ rfl rfl hl.1 rfl (lv_room (Nat.le_of_ble_eq_true rfl)) dX4_callSystem_59 ⟨Nat.zero_le _, Nat.zero_le _⟩) hD hS hA (fun r u H locs hw hP hD hS => ?_)
    obtain ⟨rfl, rfl⟩ := hw
    refine va_put (D := (dC, dI)) (ci := 2) (v := .int ((fX2_leaveTrap x).1)) (ty := .int) (C := RX4) (T := TX4) (N := 7) hx hb hB iX4 tyX4 tyX4_ok nmX4 hown hK hP hD hS 0 rfl rfl 3 (by decide) (hB _ q_t1_73) (fun _ h9 => h9) rfl (by decide +kernel) rfl rfl (Nat.le_of_ble_eq_true rfl) dX4_callSystem_62 (fun H locs hP hD hS => ?_)
    have hP : va_P (dC, dI) vwCl (wD aH aM aW aC aR iW iR (s_pc ((fX2_leaveTrap x).2) ((fX2_leaveTrap x).1))) H := hP
    have hD : va_D A (wD aH aM aW aC aR iW iR (s_pc ((fX2_leaveTrap x).2) ((fX2_leaveTrap x).1))) := hD
    refine lv_iconst (v := 1) hx hb dX4_callSystem_65 (by decide) ?_
    exact W.zret (v := (1 : Int32)) hx hb hr rfl (fun t ht hW => ⟨⟨(1 : Int32), (s_pc ((fX2_leaveTrap x).2) ((fX2_leaveTrap x).1)), rfl, ⟨(by unfold fX4_callSystem; rw [if_neg c_1_115, if_neg c_1_1048691, if_pos c_1_807403635] <;> rfl), (by unfold fX4_callSystem; rw [if_neg c_1_115, if_neg c_1_1048691, if_pos c_1_807403635] <;> rfl)⟩, hpT ht hP⟩, hS.F ht⟩) hS.2.2 dX4_callSystem_66
  refine lv_lookup (off := 66) (tgt := 67) hx hb dX4_callSystem_1 (by decide) ((lv_osw c_1_115 (by decide)).trans ((lv_osw c_1_1048691 (by decide)).trans ((lv_osw c_1_807403635 (by decide)).trans rfl))) (by decide) ?_
  refine lv_aload_n hx hb dX4_callSystem_67 rfl (lv_at hl 0 rfl) ?_
  refine lv_iload_n hx hb dX4_callSystem_68 rfl (lv_at hl 1 rfl) ?_
  refine k_mi (w := wD aH aM aW aC aR iW iR) wD_ad (va_runV (As := [.int p0]) (rest := []) ⟨hx, hb, hml, hown, hB⟩ (mX4_unknown l dC dI aH aM aW aC aR iW iR s.heap.size x p0) (cwV 1 hB (gV q_t2_58 q_t2_60 q_s_17 q_t1_1 wX4_unknown) rfl rfl rfl hX4_unknown ⟨Nat.le_of_ble_eq_true rfl, Nat.le_of_ble_eq_true rfl⟩) ⟨kM_blind NW_blind, va_recv hK hP (ci := 2) (q0 := 0) rfl rfl, kM_pre NW_warm hP hK hD hN⟩ rfl rfl hl.1 rfl (lv_room (Nat.le_of_ble_eq_true rfl)) dX4_callSystem_69 ⟨Nat.zero_le _, Nat.zero_le _⟩) hD hS hA (fun r u H locs hw hP hD hS => ?_)
  obtain ⟨rfl, rfl⟩ := hw
  exact W.zret (v := bi (fX4_unknown p0 x).1) hx hb hr (bi_nar _) (fun t ht hW => ⟨⟨bi (fX4_unknown p0 x).1, ((fX4_unknown p0 x).2), rfl, ⟨(by unfold fX4_callSystem; rw [if_neg c_1_115, if_neg c_1_1048691, if_neg c_1_807403635] <;> rfl), (by unfold fX4_callSystem; rw [if_neg c_1_115, if_neg c_1_1048691, if_neg c_1_807403635] <;> rfl)⟩, hpT ht hP⟩, hS.F ht⟩) hS.2.2 dX4_callSystem_72
