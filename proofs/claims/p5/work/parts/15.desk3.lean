def fX4_computeWithNumber (p0 : Int32) (x : St) : Bool × St := if (fX1_f p0) = (1 : Int32) then
    if (fX1_s p0) = 0 then
      ((fX4_goOnWith p0 (fX0_basic (fX1_f p0) (fX4_valueA p0 x) (fX1_b p0)) x).1, (fX4_goOnWith p0 (fX0_basic (fX1_f p0) (fX4_valueA p0 x) (fX1_b p0)) x).2)
    else
      if (fX1_s p0) = (32 : Int32) then
        if (fX1_f p0) = (5 : Int32) then
          ((fX4_goOnWith p0 ((fX4_valueA p0 x) >>> ((fX1_b p0) &&& 31)) x).1, (fX4_goOnWith p0 ((fX4_valueA p0 x) >>> ((fX1_b p0) &&& 31)) x).2)
        else
          ((fX4_unknown p0 x).1, (fX4_unknown p0 x).2)
      else
        ((fX4_unknown p0 x).1, (fX4_unknown p0 x).2)
  else
    if (fX1_f p0) = (5 : Int32) then
      if (fX1_s p0) = 0 then
        ((fX4_goOnWith p0 (fX0_basic (fX1_f p0) (fX4_valueA p0 x) (fX1_b p0)) x).1, (fX4_goOnWith p0 (fX0_basic (fX1_f p0) (fX4_valueA p0 x) (fX1_b p0)) x).2)
      else
        if (fX1_s p0) = (32 : Int32) then
          ((fX4_goOnWith p0 ((fX4_valueA p0 x) >>> ((fX1_b p0) &&& 31)) x).1, (fX4_goOnWith p0 ((fX4_valueA p0 x) >>> ((fX1_b p0) &&& 31)) x).2)
        else
          ((fX4_unknown p0 x).1, (fX4_unknown p0 x).2)
    else
      ((fX4_goOnWith p0 (fX0_basic (fX1_f p0) (fX4_valueA p0 x) (fX1_numberI p0)) x).1, (fX4_goOnWith p0 (fX0_basic (fX1_f p0) (fX4_valueA p0 x) (fX1_numberI p0)) x).2)
set_option maxHeartbeats 4000000 in
set_option maxRecDepth 100000 in
theorem mX4_computeWithNumber (l : Launch) (dC : Nat → ClassId) (dI : Nat → Nat → Nat) (aH aM aW aC aR iW iR : Nat) (sz : Nat) (x : St) (p0 : Int32) : Met l yX4_computeWithNumber wsX4_computeWithNumber ({ frames := 3, cells := 0, slots := 0, locals := 66 }) (va_Pc [.ref aH, .int p0] (kM (dC, dI) [(iW, .int), (iR, .int)] NW (wD aH aM aW aC aR iW iR x) sz)) (va_Qi (fun r u => r = bi (fX4_computeWithNumber p0 x).1 ∧ u = (fX4_computeWithNumber p0 x).2) (fun u t => va_P (dC, dI) vwCl (wD aH aM aW aC aR iW iR u) t.heap) (va_A (wD aH aM aW aC aR iW iR x) sz)) 0 0 (va_A (wD aH aM aW aC aR iW iR x) sz) := by
  refine Met.ofW (cc := cX4_computeWithNumber) (maxL := 4) (ret := (some .boolean)) (by decide) rfl ?_
  intro p e s m args below meth c s₁ B hml hv
  obtain ⟨rfl, hsz, hD0, hP, hK, hN⟩ := hv
  have hx := B.exec
  have hb := B.bytes
  have hr := B.returns
  have hB := fun (w : Cond) (h : w ∈ BIG) => atoms_spec (ws := wsX4_computeWithNumber) B.pre w (List.mem_cons_of_mem _ h)
  have hown : s.vm.findClass RX4 = some m.cls := findClass_of_methodNamed B.named
  have hlocks := B.notSynchronized
  subst hsz
  have hD := hD0.self (sz := s.heap.size)
  generalize hAe : va_A (wD aH aM aW aC aR iW iR x) s.heap.size = A at hD ⊢
  have hA : ∀ q : Nat, s.heap.size ≤ q → A q := fun q h => by rw [← hAe]; exact Or.inr h
  have hS : va_S A s.heap s.heap [] := va_S.rf
  have hl := lv_entry ([.ref aH, .int p0]) (n := 4) (Nat.le_of_ble_eq_true rfl)
  rw [lg_entry_eq]
  generalize (lg_sl ([.ref aH, .int p0]) ++ List.replicate (4 - (lg_sl ([.ref aH, .int p0])).length) Slot.unset).toArray = ls at hl ⊢
  have hl : lv_has ls 4 [(0, .ref aH), (1, .int p0)] := hl
  refine lv_iload_n hx hb dX4_computeWithNumber_0 rfl (lv_at hl 1 rfl) ?_
  refine k_ri (va_runSN (As := [.int p0]) (rest := []) ⟨hx, hb, hml, hown, hB⟩ (mX1_f l p0) ⟨va_cnB 1 hB (good_in wX1_f) rfl rfl rfl (hN _ (List.mem_of_getElem? (i := 17) rfl)) (hB _ q_t1_10) hX1_f.2 ⟨Nat.le_of_ble_eq_true rfl, Nat.le_of_ble_eq_true rfl⟩, hB _ q_t2_56, trivial⟩ ⟨fun _ _ _ _ q => q, fun U _ _ => ⟨rfl, trivial⟩⟩ rfl rfl hl.1 rfl (lv_room (Nat.le_of_ble_eq_true rfl)) dX4_computeWithNumber_1 ⟨Nat.zero_le _, Nat.zero_le _⟩) ?_
  refine lv_istore_n (lv' := [(2, .int (fX1_f p0)), (0, .ref aH), (1, .int p0)]) hx hb dX4_computeWithNumber_4 rfl hl (by decide) rfl (fun ls hl => ?_)
  refine lv_iload_n hx hb dX4_computeWithNumber_5 rfl (lv_at hl 2 rfl) ?_
  refine k_ri (va_runSN (As := [.int p0]) (rest := []) ⟨hx, hb, hml, hown, hB⟩ (mX1_s l p0) ⟨va_cnB 1 hB (good_in wX1_s) rfl rfl rfl (hN _ (List.mem_of_getElem? (i := 27) rfl)) (hB _ q_t1_10) hX1_s.2 ⟨Nat.le_of_ble_eq_true rfl, Nat.le_of_ble_eq_true rfl⟩, hB _ q_t2_134, trivial⟩ ⟨fun _ _ _ _ q => q, fun U _ _ => ⟨rfl, trivial⟩⟩ rfl rfl hl.1 rfl (lv_room (Nat.le_of_ble_eq_true rfl)) dX4_computeWithNumber_6 ⟨Nat.zero_le _, Nat.zero_le _⟩) ?_
  refine lv_istore_n (lv' := [(3, .int (fX1_s p0)), (2, .int (fX1_f p0)), (0, .ref aH), (1, .int p0)]) hx hb dX4_computeWithNumber_9 rfl hl (by decide) rfl (fun ls hl => ?_)
  refine lv_iload_n hx hb dX4_computeWithNumber_10 rfl (lv_at hl 1 rfl) ?_
  refine lv_iconst (v := 1) hx hb dX4_computeWithNumber_11 (by decide) ?_
  refine lv_icmp_eq (tgt := 39) hx hb dX4_computeWithNumber_12 (by decide) (fun c_12 => ?_) (fun c_12 => ?_)
  · refine lv_iload_n hx hb dX4_computeWithNumber_39 rfl (lv_at hl 0 rfl) ?_
    refine lv_if_ne (tgt := 62) hx hb dX4_computeWithNumber_40 (by decide) (fun c_40 => ?_) (fun c_40 => ?_)
    · refine lv_iload_n hx hb dX4_computeWithNumber_62 rfl (lv_at hl 0 rfl) ?_
      refine lv_bipush (v := 32) hx hb dX4_computeWithNumber_63 (by decide) ?_
      refine lv_icmp_ne (tgt := 89) hx hb dX4_computeWithNumber_65 (by decide) (fun c_65 => ?_) (fun c_65 => ?_)
      · refine lv_aload_n hx hb dX4_computeWithNumber_89 rfl (lv_at hl 2 rfl) ?_
        refine lv_iload_n hx hb dX4_computeWithNumber_90 rfl (lv_at hl 3 rfl) ?_
        refine k_mi (w := wD aH aM aW aC aR iW iR) wD_ad (va_runV (As := [.int p0]) (rest := []) ⟨hx, hb, hml, hown, hB⟩ (mX4_unknown l dC dI aH aM aW aC aR iW iR s.heap.size x p0) (cwV 1 hB (gV q_t2_58 q_t2_60 q_s_17 q_t1_1 wX4_unknown) rfl rfl rfl hX4_unknown ⟨Nat.le_of_ble_eq_true rfl, Nat.le_of_ble_eq_true rfl⟩) ⟨kM_blind NW_blind, va_recv hK hP (ci := 2) (q0 := 0) rfl rfl, kM_pre NW_warm hP hK hD hN⟩ rfl rfl hl.1 rfl (lv_room (Nat.le_of_ble_eq_true rfl)) dX4_computeWithNumber_91 ⟨Nat.zero_le _, Nat.zero_le _⟩) hD hS hA (fun r u H locs hw hP hD hS => ?_)
        obtain ⟨rfl, rfl⟩ := hw
        exact W.zret (v := bi (fX4_unknown p0 x).1) hx hb hr (bi_nar _) (fun t ht hW => ⟨⟨bi (fX4_unknown p0 x).1, ((fX4_unknown p0 x).2), rfl, ⟨(by unfold fX4_computeWithNumber; rw [if_pos c_12, if_neg c_40, if_neg c_65] <;> rfl), (by unfold fX4_computeWithNumber; rw [if_pos c_12, if_neg c_40, if_neg c_65] <;> rfl)⟩, hpT ht hP⟩, hS.F ht⟩) hS.2.2 dX4_computeWithNumber_94
      · refine lv_iload_n hx hb dX4_computeWithNumber_68 rfl (lv_at hl 1 rfl) ?_
        refine lv_iconst (v := 5) hx hb dX4_computeWithNumber_69 (by decide) ?_
        refine lv_icmp_ne (tgt := 89) hx hb dX4_computeWithNumber_70 (by decide) (fun c_70 => ?_) (fun c_70 => ?_)
        · refine lv_aload_n hx hb dX4_computeWithNumber_89 rfl (lv_at hl 2 rfl) ?_
          refine lv_iload_n hx hb dX4_computeWithNumber_90 rfl (lv_at hl 3 rfl) ?_
          refine k_mi (w := wD aH aM aW aC aR iW iR) wD_ad (va_runV (As := [.int p0]) (rest := []) ⟨hx, hb, hml, hown, hB⟩ (mX4_unknown l dC dI aH aM aW aC aR iW iR s.heap.size x p0) (cwV 1 hB (gV q_t2_58 q_t2_60 q_s_17 q_t1_1 wX4_unknown) rfl rfl rfl hX4_unknown ⟨Nat.le_of_ble_eq_true rfl, Nat.le_of_ble_eq_true rfl⟩) ⟨kM_blind NW_blind, va_recv hK hP (ci := 2) (q0 := 0) rfl rfl, kM_pre NW_warm hP hK hD hN⟩ rfl rfl hl.1 rfl (lv_room (Nat.le_of_ble_eq_true rfl)) dX4_computeWithNumber_91 ⟨Nat.zero_le _, Nat.zero_le _⟩) hD hS hA (fun r u H locs hw hP hD hS => ?_)
          obtain ⟨rfl, rfl⟩ := hw
          exact W.zret (v := bi (fX4_unknown p0 x).1) hx hb hr (bi_nar _) (fun t ht hW => ⟨⟨bi (fX4_unknown p0 x).1, ((fX4_unknown p0 x).2), rfl, ⟨(by unfold fX4_computeWithNumber; rw [if_pos c_12, if_neg c_40, if_pos c_65, if_neg c_70] <;> rfl), (by unfold fX4_computeWithNumber; rw [if_pos c_12, if_neg c_40, if_pos c_65, if_neg c_70] <;> rfl)⟩, hpT ht hP⟩, hS.F ht⟩) hS.2.2 dX4_computeWithNumber_94
        · refine lv_aload_n hx hb dX4_computeWithNumber_73 rfl (lv_at hl 2 rfl) ?_
          refine lv_iload_n hx hb dX4_computeWithNumber_74 rfl (lv_at hl 3 rfl) ?_
          refine lv_aload_n hx hb dX4_computeWithNumber_75 rfl (lv_at hl 2 rfl) ?_
          refine lv_iload_n hx hb dX4_computeWithNumber_76 rfl (lv_at hl 3 rfl) ?_
          refine k_ri (va_runV (As := [.int p0]) (rest := [.int p0, .ref aH]) ⟨hx, hb, hml, hown, hB⟩ (mX4_valueA l dC dI aH aM aW aC aR iW iR x p0) (cwV 1 hB (gV q_t2_62 q_t2_64 q_s_18 q_t1_1 wX4_valueA) rfl rfl rfl hX4_valueA ⟨Nat.le_of_ble_eq_true rfl, Nat.le_of_ble_eq_true rfl⟩) ⟨kP_blind NW_blind, va_recv hK hP (ci := 2) (q0 := 0) rfl rfl, kP_pre NW_warm hP hK hN⟩ rfl rfl hl.1 rfl (lv_room (Nat.le_of_ble_eq_true rfl)) dX4_computeWithNumber_77 ⟨Nat.zero_le _, Nat.zero_le _⟩) ?_
          refine lv_iload_n hx hb dX4_computeWithNumber_80 rfl (lv_at hl 3 rfl) ?_
          refine k_ri (va_runSN (As := [.int p0]) (rest := [.int (fX4_valueA p0 x), .int p0, .ref aH]) ⟨hx, hb, hml, hown, hB⟩ (mX1_b l p0) ⟨va_cnB 1 hB (good_in wX1_b) rfl rfl rfl (hN _ (List.mem_of_getElem? (i := 20) rfl)) (hB _ q_t1_10) hX1_b.2 ⟨Nat.le_of_ble_eq_true rfl, Nat.le_of_ble_eq_true rfl⟩, hB _ q_t2_85, trivial⟩ ⟨fun _ _ _ _ q => q, fun U _ _ => ⟨rfl, trivial⟩⟩ rfl rfl hl.1 rfl (lv_room (Nat.le_of_ble_eq_true rfl)) dX4_computeWithNumber_81 ⟨Nat.zero_le _, Nat.zero_le _⟩) ?_
          refine lv_ishr hx hb dX4_computeWithNumber_84 ?_
          refine k_mi (w := wD aH aM aW aC aR iW iR) wD_ad (va_runV (As := [.int p0, .int ((fX4_valueA p0 x) >>> ((fX1_b p0) &&& 31))]) (rest := []) ⟨hx, hb, hml, hown, hB⟩ (mX4_goOnWith l dC dI aH aM aW aC aR iW iR s.heap.size x p0 ((fX4_valueA p0 x) >>> ((fX1_b p0) &&& 31))) (cwV 2 hB (gV q_t2_33 q_t2_35 q_s_13 q_t1_1 wX4_goOnWith) rfl rfl rfl hX4_goOnWith ⟨Nat.le_of_ble_eq_true rfl, Nat.le_of_ble_eq_true rfl⟩) ⟨kM_blind NW_blind, va_recv hK hP (ci := 2) (q0 := 0) rfl rfl, kM_pre NW_warm hP hK hD hN⟩ rfl rfl hl.1 rfl (lv_room (Nat.le_of_ble_eq_true rfl)) dX4_computeWithNumber_85 ⟨Nat.zero_le _, Nat.zero_le _⟩) hD hS hA (fun r u H locs hw hP hD hS => ?_)
          obtain ⟨rfl, rfl⟩ := hw
          exact W.zret (v := bi (fX4_goOnWith p0 ((fX4_valueA p0 x) >>> ((fX1_b p0) &&& 31)) x).1) hx hb hr (bi_nar _) (fun t ht hW => ⟨⟨bi (fX4_goOnWith p0 ((fX4_valueA p0 x) >>> ((fX1_b p0) &&& 31)) x).1, ((fX4_goOnWith p0 ((fX4_valueA p0 x) >>> ((fX1_b p0) &&& 31)) x).2), rfl, ⟨(by unfold fX4_computeWithNumber; rw [if_pos c_12, if_neg c_40, if_pos c_65, if_pos c_70] <;> rfl), (by unfold fX4_computeWithNumber; rw [if_pos c_12, if_neg c_40, if_pos c_65, if_pos c_70] <;> rfl)⟩, hpT ht hP⟩, hS.F ht⟩) hS.2.2 dX4_computeWithNumber_88
    · refine lv_aload_n hx hb dX4_computeWithNumber_43 rfl (lv_at hl 2 rfl) ?_
      refine lv_iload_n hx hb dX4_computeWithNumber_44 rfl (lv_at hl 3 rfl) ?_
      refine lv_iload_n hx hb dX4_computeWithNumber_45 rfl (lv_at hl 1 rfl) ?_
      refine lv_aload_n hx hb dX4_computeWithNumber_46 rfl (lv_at hl 2 rfl) ?_
      refine lv_iload_n hx hb dX4_computeWithNumber_47 rfl (lv_at hl 3 rfl) ?_
      refine k_ri (va_runV (As := [.int p0]) (rest := [.int (fX1_f p0), .int p0, .ref aH]) ⟨hx, hb, hml, hown, hB⟩ (mX4_valueA l dC dI aH aM aW aC aR iW iR x p0) (cwV 1 hB (gV q_t2_62 q_t2_64 q_s_18 q_t1_1 wX4_valueA) rfl rfl rfl hX4_valueA ⟨Nat.le_of_ble_eq_true rfl, Nat.le_of_ble_eq_true rfl⟩) ⟨kP_blind NW_blind, va_recv hK hP (ci := 2) (q0 := 0) rfl rfl, kP_pre NW_warm hP hK hN⟩ rfl rfl hl.1 rfl (lv_room (Nat.le_of_ble_eq_true rfl)) dX4_computeWithNumber_48 ⟨Nat.zero_le _, Nat.zero_le _⟩) ?_
      refine lv_iload_n hx hb dX4_computeWithNumber_51 rfl (lv_at hl 3 rfl) ?_
      refine k_ri (va_runSN (As := [.int p0]) (rest := [.int (fX4_valueA p0 x), .int (fX1_f p0), .int p0, .ref aH]) ⟨hx, hb, hml, hown, hB⟩ (mX1_b l p0) ⟨va_cnB 1 hB (good_in wX1_b) rfl rfl rfl (hN _ (List.mem_of_getElem? (i := 20) rfl)) (hB _ q_t1_10) hX1_b.2 ⟨Nat.le_of_ble_eq_true rfl, Nat.le_of_ble_eq_true rfl⟩, hB _ q_t2_85, trivial⟩ ⟨fun _ _ _ _ q => q, fun U _ _ => ⟨rfl, trivial⟩⟩ rfl rfl hl.1 rfl (lv_room (Nat.le_of_ble_eq_true rfl)) dX4_computeWithNumber_52 ⟨Nat.zero_le _, Nat.zero_le _⟩) ?_
      refine k_ri (va_runSN (As := [.int (fX1_f p0), .int (fX4_valueA p0 x), .int (fX1_b p0)]) (rest := [.int p0, .ref aH]) ⟨hx, hb, hml, hown, hB⟩ (mX0_basic l (fX1_f p0) (fX4_valueA p0 x) (fX1_b p0)) ⟨va_cnB 3 hB (good_in wX0_basic) rfl rfl rfl (hN _ (List.mem_of_getElem? (i := 28) rfl)) (hB _ q_t1_11) hX0_basic.2 ⟨Nat.le_of_ble_eq_true rfl, Nat.le_of_ble_eq_true rfl⟩, hB _ q_t2_137, trivial⟩ ⟨fun _ _ _ _ q => q, fun U _ _ => ⟨rfl, trivial⟩⟩ rfl rfl hl.1 rfl (lv_room (Nat.le_of_ble_eq_true rfl)) dX4_computeWithNumber_55 ⟨Nat.zero_le _, Nat.zero_le _⟩) ?_
      refine k_mi (w := wD aH aM aW aC aR iW iR) wD_ad (va_runV (As := [.int p0, .int (fX0_basic (fX1_f p0) (fX4_valueA p0 x) (fX1_b p0))]) (rest := []) ⟨hx, hb, hml, hown, hB⟩ (mX4_goOnWith l dC dI aH aM aW aC aR iW iR s.heap.size x p0 (fX0_basic (fX1_f p0) (fX4_valueA p0 x) (fX1_b p0))) (cwV 2 hB (gV q_t2_33 q_t2_35 q_s_13 q_t1_1 wX4_goOnWith) rfl rfl rfl hX4_goOnWith ⟨Nat.le_of_ble_eq_true rfl, Nat.le_of_ble_eq_true rfl⟩) ⟨kM_blind NW_blind, va_recv hK hP (ci := 2) (q0 := 0) rfl rfl, kM_pre NW_warm hP hK hD hN⟩ rfl rfl hl.1 rfl (lv_room (Nat.le_of_ble_eq_true rfl)) dX4_computeWithNumber_58 ⟨Nat.zero_le _, Nat.zero_le _⟩) hD hS hA (fun r u H locs hw hP hD hS => ?_)
      obtain ⟨rfl, rfl⟩ := hw
      exact W.zret (v := bi (fX4_goOnWith p0 (fX0_basic (fX1_f p0) (fX4_valueA p0 x) (fX1_b p0)) x).1) hx hb hr (bi_nar _) (fun t ht hW => ⟨⟨bi (fX4_goOnWith p0 (fX0_basic (fX1_f p0) (fX4_valueA p0 x) (fX1_b p0)) x).1, ((fX4_goOnWith p0 (fX0_basic (fX1_f p0) (fX4_valueA p0 x) (fX1_b p0)) x).2), rfl, ⟨(by unfold fX4_computeWithNumber; rw [if_pos c_12, if_pos c_40] <;> rfl), (by unfold fX4_computeWithNumber; rw [if_pos c_12, if_pos c_40] <;> rfl)⟩, hpT ht hP⟩, hS.F ht⟩) hS.2.2 dX4_computeWithNumber_61
  · refine lv_iload_n hx hb dX4_computeWithNumber_15 rfl (lv_at hl 1 rfl) ?_
    refine lv_iconst (v := 5) hx hb dX4_computeWithNumber_16 (by decide) ?_
    refine lv_icmp_eq (tgt := 39) hx hb dX4_computeWithNumber_17 (by decide) (fun c_17 => ?_) (fun c_17 => ?_)
    · refine lv_iload_n hx hb dX4_computeWithNumber_39 rfl (lv_at hl 0 rfl) ?_
      refine lv_if_ne (tgt := 62) hx hb dX4_computeWithNumber_40 (by decide) (fun c_40 => ?_) (fun c_40 => ?_)
      · refine lv_iload_n hx hb dX4_computeWithNumber_62 rfl (lv_at hl 0 rfl) ?_
        refine lv_bipush (v := 32) hx hb dX4_computeWithNumber_63 (by decide) ?_
        refine lv_icmp_ne (tgt := 89) hx hb dX4_computeWithNumber_65 (by decide) (fun c_65 => ?_) (fun c_65 => ?_)
        · refine lv_aload_n hx hb dX4_computeWithNumber_89 rfl (lv_at hl 2 rfl) ?_
          refine lv_iload_n hx hb dX4_computeWithNumber_90 rfl (lv_at hl 3 rfl) ?_
          refine k_mi (w := wD aH aM aW aC aR iW iR) wD_ad (va_runV (As := [.int p0]) (rest := []) ⟨hx, hb, hml, hown, hB⟩ (mX4_unknown l dC dI aH aM aW aC aR iW iR s.heap.size x p0) (cwV 1 hB (gV q_t2_58 q_t2_60 q_s_17 q_t1_1 wX4_unknown) rfl rfl rfl hX4_unknown ⟨Nat.le_of_ble_eq_true rfl, Nat.le_of_ble_eq_true rfl⟩) ⟨kM_blind NW_blind, va_recv hK hP (ci := 2) (q0 := 0) rfl rfl, kM_pre NW_warm hP hK hD hN⟩ rfl rfl hl.1 rfl (lv_room (Nat.le_of_ble_eq_true rfl)) dX4_computeWithNumber_91 ⟨Nat.zero_le _, Nat.zero_le _⟩) hD hS hA (fun r u H locs hw hP hD hS => ?_)
          obtain ⟨rfl, rfl⟩ := hw
          exact W.zret (v := bi (fX4_unknown p0 x).1) hx hb hr (bi_nar _) (fun t ht hW => ⟨⟨bi (fX4_unknown p0 x).1, ((fX4_unknown p0 x).2), rfl, ⟨(by unfold fX4_computeWithNumber; rw [if_neg c_12, if_pos c_17, if_neg c_40, if_neg c_65] <;> rfl), (by unfold fX4_computeWithNumber; rw [if_neg c_12, if_pos c_17, if_neg c_40, if_neg c_65] <;> rfl)⟩, hpT ht hP⟩, hS.F ht⟩) hS.2.2 dX4_computeWithNumber_94
        · refine lv_iload_n hx hb dX4_computeWithNumber_68 rfl (lv_at hl 1 rfl) ?_
          refine lv_iconst (v := 5) hx hb dX4_computeWithNumber_69 (by decide) ?_
          refine lv_icmp_ne (tgt := 89) hx hb dX4_computeWithNumber_70 (by decide) (fun h9 => absurd c_17 h9) (fun _ => ?_)
          refine lv_aload_n hx hb dX4_computeWithNumber_73 rfl (lv_at hl 2 rfl) ?_
          refine lv_iload_n hx hb dX4_computeWithNumber_74 rfl (lv_at hl 3 rfl) ?_
          refine lv_aload_n hx hb dX4_computeWithNumber_75 rfl (lv_at hl 2 rfl) ?_
          refine lv_iload_n hx hb dX4_computeWithNumber_76 rfl (lv_at hl 3 rfl) ?_
          refine k_ri (va_runV (As := [.int p0]) (rest := [.int p0, .ref aH]) ⟨hx, hb, hml, hown, hB⟩ (mX4_valueA l dC dI aH aM aW aC aR iW iR x p0) (cwV 1 hB (gV q_t2_62 q_t2_64 q_s_18 q_t1_1 wX4_valueA) rfl rfl rfl hX4_valueA ⟨Nat.le_of_ble_eq_true rfl, Nat.le_of_ble_eq_true rfl⟩) ⟨kP_blind NW_blind, va_recv hK hP (ci := 2) (q0 := 0) rfl rfl, kP_pre NW_warm hP hK hN⟩ rfl rfl hl.1 rfl (lv_room (Nat.le_of_ble_eq_true rfl)) dX4_computeWithNumber_77 ⟨Nat.zero_le _, Nat.zero_le _⟩) ?_
          refine lv_iload_n hx hb dX4_computeWithNumber_80 rfl (lv_at hl 3 rfl) ?_
          refine k_ri (va_runSN (As := [.int p0]) (rest := [.int (fX4_valueA p0 x), .int p0, .ref aH]) ⟨hx, hb, hml, hown, hB⟩ (mX1_b l p0) ⟨va_cnB 1 hB (good_in wX1_b) rfl rfl rfl (hN _ (List.mem_of_getElem? (i := 20) rfl)) (hB _ q_t1_10) hX1_b.2 ⟨Nat.le_of_ble_eq_true rfl, Nat.le_of_ble_eq_true rfl⟩, hB _ q_t2_85, trivial⟩ ⟨fun _ _ _ _ q => q, fun U _ _ => ⟨rfl, trivial⟩⟩ rfl rfl hl.1 rfl (lv_room (Nat.le_of_ble_eq_true rfl)) dX4_computeWithNumber_81 ⟨Nat.zero_le _, Nat.zero_le _⟩) ?_
          refine lv_ishr hx hb dX4_computeWithNumber_84 ?_
          refine k_mi (w := wD aH aM aW aC aR iW iR) wD_ad (va_runV (As := [.int p0, .int ((fX4_valueA p0 x) >>> ((fX1_b p0) &&& 31))]) (rest := []) ⟨hx, hb, hml, hown, hB⟩ (mX4_goOnWith l dC dI aH aM aW aC aR iW iR s.heap.size x p0 ((fX4_valueA p0 x) >>> ((fX1_b p0) &&& 31))) (cwV 2 hB (gV q_t2_33 q_t2_35 q_s_13 q_t1_1 wX4_goOnWith) rfl rfl rfl hX4_goOnWith ⟨Nat.le_of_ble_eq_true rfl, Nat.le_of_ble_eq_true rfl⟩) ⟨kM_blind NW_blind, va_recv hK hP (ci := 2) (q0 := 0) rfl rfl, kM_pre NW_warm hP hK hD hN⟩ rfl rfl hl.1 rfl (lv_room (Nat.le_of_ble_eq_true rfl)) dX4_computeWithNumber_85 ⟨Nat.zero_le _, Nat.zero_le _⟩) hD hS hA (fun r u H locs hw hP hD hS => ?_)
          obtain ⟨rfl, rfl⟩ := hw
          exact W.zret (v := bi (fX4_goOnWith p0 ((fX4_valueA p0 x) >>> ((fX1_b p0) &&& 31)) x).1) hx hb hr (bi_nar _) (fun t ht hW => ⟨⟨bi (fX4_goOnWith p0 ((fX4_valueA p0 x) >>> ((fX1_b p0) &&& 31)) x).1, ((fX4_goOnWith p0 ((fX4_valueA p0 x) >>> ((fX1_b p0) &&& 31)) x).2), rfl, ⟨(by unfold fX4_computeWithNumber; rw [if_neg c_12, if_pos c_17, if_neg c_40, if_pos c_65] <;> rfl), (by unfold fX4_computeWithNumber; rw [if_neg c_12, if_pos c_17, if_neg c_40, if_pos c_65] <;> rfl)⟩, hpT ht hP⟩, hS.F ht⟩) hS.2.2 dX4_computeWithNumber_88
      · refine lv_aload_n hx hb dX4_computeWithNumber_43 rfl (lv_at hl 2 rfl) ?_
        refine lv_iload_n hx hb dX4_computeWithNumber_44 rfl (lv_at hl 3 rfl) ?_
        refine lv_iload_n hx hb dX4_computeWithNumber_45 rfl (lv_at hl 1 rfl) ?_
        refine lv_aload_n hx hb dX4_computeWithNumber_46 rfl (lv_at hl 2 rfl) ?_
        refine lv_iload_n hx hb dX4_computeWithNumber_47 rfl (lv_at hl 3 rfl) ?_
        refine k_ri (va_runV (As := [.int p0]) (rest := [.int (fX1_f p0), .int p0, .ref aH]) ⟨hx, hb, hml, hown, hB⟩ (mX4_valueA l dC dI aH aM aW aC aR iW iR x p0) (cwV 1 hB (gV q_t2_62 q_t2_64 q_s_18 q_t1_1 wX4_valueA) rfl rfl rfl hX4_valueA ⟨Nat.le_of_ble_eq_true rfl, Nat.le_of_ble_eq_true rfl⟩) ⟨kP_blind NW_blind, va_recv hK hP (ci := 2) (q0 := 0) rfl rfl, kP_pre NW_warm hP hK hN⟩ rfl rfl hl.1 rfl (lv_room (Nat.le_of_ble_eq_true rfl)) dX4_computeWithNumber_48 ⟨Nat.zero_le _, Nat.zero_le _⟩) ?_
        refine lv_iload_n hx hb dX4_computeWithNumber_51 rfl (lv_at hl 3 rfl) ?_
        refine k_ri (va_runSN (As := [.int p0]) (rest := [.int (fX4_valueA p0 x), .int (fX1_f p0), .int p0, .ref aH]) ⟨hx, hb, hml, hown, hB⟩ (mX1_b l p0) ⟨va_cnB 1 hB (good_in wX1_b) rfl rfl rfl (hN _ (List.mem_of_getElem? (i := 20) rfl)) (hB _ q_t1_10) hX1_b.2 ⟨Nat.le_of_ble_eq_true rfl, Nat.le_of_ble_eq_true rfl⟩, hB _ q_t2_85, trivial⟩ ⟨fun _ _ _ _ q => q, fun U _ _ => ⟨rfl, trivial⟩⟩ rfl rfl hl.1 rfl (lv_room (Nat.le_of_ble_eq_true rfl)) dX4_computeWithNumber_52 ⟨Nat.zero_le _, Nat.zero_le _⟩) ?_
        refine k_ri (va_runSN (As := [.int (fX1_f p0), .int (fX4_valueA p0 x), .int (fX1_b p0)]) (rest := [.int p0, .ref aH]) ⟨hx, hb, hml, hown, hB⟩ (mX0_basic l (fX1_f p0) (fX4_valueA p0 x) (fX1_b p0)) ⟨va_cnB 3 hB (good_in wX0_basic) rfl rfl rfl (hN _ (List.mem_of_getElem? (i := 28) rfl)) (hB _ q_t1_11) hX0_basic.2 ⟨Nat.le_of_ble_eq_true rfl, Nat.le_of_ble_eq_true rfl⟩, hB _ q_t2_137, trivial⟩ ⟨fun _ _ _ _ q => q, fun U _ _ => ⟨rfl, trivial⟩⟩ rfl rfl hl.1 rfl (lv_room (Nat.le_of_ble_eq_true rfl)) dX4_computeWithNumber_55 ⟨Nat.zero_le _, Nat.zero_le _⟩) ?_
        refine k_mi (w := wD aH aM aW aC aR iW iR) wD_ad (va_runV (As := [.int p0, .int (fX0_basic (fX1_f p0) (fX4_valueA p0 x) (fX1_b p0))]) (rest := []) ⟨hx, hb, hml, hown, hB⟩ (mX4_goOnWith l dC dI aH aM aW aC aR iW iR s.heap.size x p0 (fX0_basic (fX1_f p0) (fX4_valueA p0 x) (fX1_b p0))) (cwV 2 hB (gV q_t2_33 q_t2_35 q_s_13 q_t1_1 wX4_goOnWith) rfl rfl rfl hX4_goOnWith ⟨Nat.le_of_ble_eq_true rfl, Nat.le_of_ble_eq_true rfl⟩) ⟨kM_blind NW_blind, va_recv hK hP (ci := 2) (q0 := 0) rfl rfl, kM_pre NW_warm hP hK hD hN⟩ rfl rfl hl.1 rfl (lv_room (Nat.le_of_ble_eq_true rfl)) dX4_computeWithNumber_58 ⟨Nat.zero_le _, Nat.zero_le _⟩) hD hS hA (fun r u H locs hw hP hD hS => ?_)
        obtain ⟨rfl, rfl⟩ := hw
        exact W.zret (v := bi (fX4_goOnWith p0 (fX0_basic (fX1_f p0) (fX4_valueA p0 x) (fX1_b p0)) x).1) hx hb hr (bi_nar _) (fun t ht hW => ⟨⟨bi (fX4_goOnWith p0 (fX0_basic (fX1_f p0) (fX4_valueA p0 x) (fX1_b p0)) x).1, ((fX4_goOnWith p0 (fX0_basic (fX1_f p0) (fX4_valueA p0 x) (fX1_b p0)) x).2), rfl, ⟨(by unfold fX4_computeWithNumber; rw [if_neg c_12, if_pos c_17, if_pos c_40] <;> rfl), (by unfold fX4_computeWithNumber; rw [if_neg c_12, if_pos c_17, if_pos c_40] <;> rfl)⟩, hpT ht hP⟩, hS.F ht⟩) hS.2.2 dX4_computeWithNumber_61
    · refine lv_aload_n hx hb dX4_computeWithNumber_20 rfl (lv_at hl 2 rfl) ?_
      refine lv_iload_n hx hb dX4_computeWithNumber_21 rfl (lv_at hl 3 rfl) ?_
      refine lv_iload_n hx hb dX4_computeWithNumber_22 rfl (lv_at hl 1 rfl) ?_
      refine lv_aload_n hx hb dX4_computeWithNumber_23 rfl (lv_at hl 2 rfl) ?_
      refine lv_iload_n hx hb dX4_computeWithNumber_24 rfl (lv_at hl 3 rfl) ?_
      refine k_ri (va_runV (As := [.int p0]) (rest := [.int (fX1_f p0), .int p0, .ref aH]) ⟨hx, hb, hml, hown, hB⟩ (mX4_valueA l dC dI aH aM aW aC aR iW iR x p0) (cwV 1 hB (gV q_t2_62 q_t2_64 q_s_18 q_t1_1 wX4_valueA) rfl rfl rfl hX4_valueA ⟨Nat.le_of_ble_eq_true rfl, Nat.le_of_ble_eq_true rfl⟩) ⟨kP_blind NW_blind, va_recv hK hP (ci := 2) (q0 := 0) rfl rfl, kP_pre NW_warm hP hK hN⟩ rfl rfl hl.1 rfl (lv_room (Nat.le_of_ble_eq_true rfl)) dX4_computeWithNumber_25 ⟨Nat.zero_le _, Nat.zero_le _⟩) ?_
      refine lv_iload_n hx hb dX4_computeWithNumber_28 rfl (lv_at hl 3 rfl) ?_
      refine k_ri (va_runSN (As := [.int p0]) (rest := [.int (fX4_valueA p0 x), .int (fX1_f p0), .int p0, .ref aH]) ⟨hx, hb, hml, hown, hB⟩ (mX1_numberI l p0) ⟨va_cnB 1 hB (good_in wX1_numberI) rfl rfl rfl (hN _ (List.mem_of_getElem? (i := 19) rfl)) (hB _ q_t1_10) hX1_numberI.2 ⟨Nat.le_of_ble_eq_true rfl, Nat.le_of_ble_eq_true rfl⟩, hB _ q_t2_74, trivial⟩ ⟨fun _ _ _ _ q => q, fun U _ _ => ⟨rfl, trivial⟩⟩ rfl rfl hl.1 rfl (lv_room (Nat.le_of_ble_eq_true rfl)) dX4_computeWithNumber_29 ⟨Nat.zero_le _, Nat.zero_le _⟩) ?_
      refine k_ri (va_runSN (As := [.int (fX1_f p0), .int (fX4_valueA p0 x), .int (fX1_numberI p0)]) (rest := [.int p0, .ref aH]) ⟨hx, hb, hml, hown, hB⟩ (mX0_basic l (fX1_f p0) (fX4_valueA p0 x) (fX1_numberI p0)) ⟨va_cnB 3 hB (good_in wX0_basic) rfl rfl rfl (hN _ (List.mem_of_getElem? (i := 28) rfl)) (hB _ q_t1_11) hX0_basic.2 ⟨Nat.le_of_ble_eq_true rfl, Nat.le_of_ble_eq_true rfl⟩, hB _ q_t2_137, trivial⟩ ⟨fun _ _ _ _ q => q, fun U _ _ => ⟨rfl, trivial⟩⟩ rfl rfl hl.1 rfl (lv_room (Nat.le_of_ble_eq_true rfl)) dX4_computeWithNumber_32 ⟨Nat.zero_le _, Nat.zero_le _⟩) ?_
      refine k_mi (w := wD aH aM aW aC aR iW iR) wD_ad (va_runV (As := [.int p0, .int (fX0_basic (fX1_f p0) (fX4_valueA p0 x) (fX1_numberI p0))]) (rest := []) ⟨hx, hb, hml, hown, hB⟩ (mX4_goOnWith l dC dI aH aM aW aC aR iW iR s.heap.size x p0 (fX0_basic (fX1_f p0) (fX4_valueA p0 x) (fX1_numberI p0))) (cwV 2 hB (gV q_t2_33 q_t2_35 q_s_13 q_t1_1 wX4_goOnWith) rfl rfl rfl hX4_goOnWith ⟨Nat.le_of_ble_eq_true rfl, Nat.le_of_ble_eq_true rfl⟩) ⟨kM_blind NW_blind, va_recv hK hP (ci := 2) (q0 := 0) rfl rfl, kM_pre NW_warm hP hK hD hN⟩ rfl rfl hl.1 rfl (lv_room (Nat.le_of_ble_eq_true rfl)) dX4_computeWithNumber_35 ⟨Nat.zero_le _, Nat.zero_le _⟩) hD hS hA (fun r u H locs hw hP hD hS => ?_)
      obtain ⟨rfl, rfl⟩ := hw
      exact W.zret (v := bi (fX4_goOnWith p0 (fX0_basic (fX1_f p0) (fX4_valueA p0 x) (fX1_numberI p0)) x).1) hx hb hr (bi_nar _) (fun t ht hW => ⟨⟨bi (fX4_goOnWith p0 (fX0_basic (fX1_f p0) (fX4_valueA p0 x) (fX1_numberI p0)) x).1, ((fX4_goOnWith p0 (fX0_basic (fX1_f p0) (fX4_valueA p0 x) (fX1_numberI p0)) x).2), rfl, ⟨(by unfold fX4_computeWithNumber; rw [if_neg c_12, if_neg c_17] <;> rfl), (by unfold fX4_computeWithNumber; rw [if_neg c_12, if_neg c_17] <;> rfl)⟩, hpT ht hP⟩, hS.F ht⟩) hS.2.2 dX4_computeWithNumber_38
def fX4_computeWithRegister (p0 : Int32) (x : St) : Bool × St := if (fX1_s p0) = 0 then
    ((fX4_goOnWith p0 (fX0_basic (fX1_f p0) (fX4_valueA p0 x) (fX4_valueB p0 x)) x).1, (fX4_goOnWith p0 (fX0_basic (fX1_f p0) (fX4_valueA p0 x) (fX4_valueB p0 x)) x).2)
  else
    if (fX1_s p0) = (1 : Int32) then
      ((fX4_goOnWith p0 (fX0_productOrQuotient (fX1_f p0) (fX4_valueA p0 x) (fX4_valueB p0 x)) x).1, (fX4_goOnWith p0 (fX0_productOrQuotient (fX1_f p0) (fX4_valueA p0 x) (fX4_valueB p0 x)) x).2)
    else
      if (fX1_s p0) = (32 : Int32) then
        if (fX1_f p0) = 0 then
          ((fX4_goOnWith p0 ((fX4_valueA p0 x) - (fX4_valueB p0 x)) x).1, (fX4_goOnWith p0 ((fX4_valueA p0 x) - (fX4_valueB p0 x)) x).2)
        else
          if (fX1_f p0) = (5 : Int32) then
            ((fX4_goOnWith p0 ((fX4_valueA p0 x) >>> (((fX4_valueB p0 x) &&& (31 : Int32)) &&& 31)) x).1, (fX4_goOnWith p0 ((fX4_valueA p0 x) >>> (((fX4_valueB p0 x) &&& (31 : Int32)) &&& 31)) x).2)
          else
            ((fX4_unknown p0 x).1, (fX4_unknown p0 x).2)
      else
        ((fX4_unknown p0 x).1, (fX4_unknown p0 x).2)
set_option maxHeartbeats 4000000 in
set_option maxRecDepth 100000 in
theorem mX4_computeWithRegister (l : Launch) (dC : Nat → ClassId) (dI : Nat → Nat → Nat) (aH aM aW aC aR iW iR : Nat) (sz : Nat) (x : St) (p0 : Int32) : Met l yX4_computeWithRegister wsX4_computeWithRegister ({ frames := 3, cells := 0, slots := 0, locals := 66 }) (va_Pc [.ref aH, .int p0] (kM (dC, dI) [(iW, .int), (iR, .int)] NW (wD aH aM aW aC aR iW iR x) sz)) (va_Qi (fun r u => r = bi (fX4_computeWithRegister p0 x).1 ∧ u = (fX4_computeWithRegister p0 x).2) (fun u t => va_P (dC, dI) vwCl (wD aH aM aW aC aR iW iR u) t.heap) (va_A (wD aH aM aW aC aR iW iR x) sz)) 0 0 (va_A (wD aH aM aW aC aR iW iR x) sz) := by
  refine Met.ofW (cc := cX4_computeWithRegister) (maxL := 4) (ret := (some .boolean)) (by decide) rfl ?_
  intro p e s m args below meth c s₁ B hml hv
  obtain ⟨rfl, hsz, hD0, hP, hK, hN⟩ := hv
  have hx := B.exec
  have hb := B.bytes
  have hr := B.returns
  have hB := fun (w : Cond) (h : w ∈ BIG) => atoms_spec (ws := wsX4_computeWithRegister) B.pre w (List.mem_cons_of_mem _ h)
  have hown : s.vm.findClass RX4 = some m.cls := findClass_of_methodNamed B.named
  have hlocks := B.notSynchronized
  subst hsz
  have hD := hD0.self (sz := s.heap.size)
  generalize hAe : va_A (wD aH aM aW aC aR iW iR x) s.heap.size = A at hD ⊢
  have hA : ∀ q : Nat, s.heap.size ≤ q → A q := fun q h => by rw [← hAe]; exact Or.inr h
  have hS : va_S A s.heap s.heap [] := va_S.rf
  have hl := lv_entry ([.ref aH, .int p0]) (n := 4) (Nat.le_of_ble_eq_true rfl)
  rw [lg_entry_eq]
  generalize (lg_sl ([.ref aH, .int p0]) ++ List.replicate (4 - (lg_sl ([.ref aH, .int p0])).length) Slot.unset).toArray = ls at hl ⊢
  have hl : lv_has ls 4 [(0, .ref aH), (1, .int p0)] := hl
  refine lv_iload_n hx hb dX4_computeWithRegister_0 rfl (lv_at hl 1 rfl) ?_
  refine k_ri (va_runSN (As := [.int p0]) (rest := []) ⟨hx, hb, hml, hown, hB⟩ (mX1_f l p0) ⟨va_cnB 1 hB (good_in wX1_f) rfl rfl rfl (hN _ (List.mem_of_getElem? (i := 17) rfl)) (hB _ q_t1_10) hX1_f.2 ⟨Nat.le_of_ble_eq_true rfl, Nat.le_of_ble_eq_true rfl⟩, hB _ q_t2_56, trivial⟩ ⟨fun _ _ _ _ q => q, fun U _ _ => ⟨rfl, trivial⟩⟩ rfl rfl hl.1 rfl (lv_room (Nat.le_of_ble_eq_true rfl)) dX4_computeWithRegister_1 ⟨Nat.zero_le _, Nat.zero_le _⟩) ?_
  refine lv_istore_n (lv' := [(2, .int (fX1_f p0)), (0, .ref aH), (1, .int p0)]) hx hb dX4_computeWithRegister_4 rfl hl (by decide) rfl (fun ls hl => ?_)
  refine lv_iload_n hx hb dX4_computeWithRegister_5 rfl (lv_at hl 2 rfl) ?_
  refine k_ri (va_runSN (As := [.int p0]) (rest := []) ⟨hx, hb, hml, hown, hB⟩ (mX1_s l p0) ⟨va_cnB 1 hB (good_in wX1_s) rfl rfl rfl (hN _ (List.mem_of_getElem? (i := 27) rfl)) (hB _ q_t1_10) hX1_s.2 ⟨Nat.le_of_ble_eq_true rfl, Nat.le_of_ble_eq_true rfl⟩, hB _ q_t2_134, trivial⟩ ⟨fun _ _ _ _ q => q, fun U _ _ => ⟨rfl, trivial⟩⟩ rfl rfl hl.1 rfl (lv_room (Nat.le_of_ble_eq_true rfl)) dX4_computeWithRegister_6 ⟨Nat.zero_le _, Nat.zero_le _⟩) ?_
  refine lv_istore_n (lv' := [(3, .int (fX1_s p0)), (2, .int (fX1_f p0)), (0, .ref aH), (1, .int p0)]) hx hb dX4_computeWithRegister_9 rfl hl (by decide) rfl (fun ls hl => ?_)
  refine lv_iload_n hx hb dX4_computeWithRegister_10 rfl (lv_at hl 0 rfl) ?_
  refine lv_if_ne (tgt := 34) hx hb dX4_computeWithRegister_11 (by decide) (fun c_11 => ?_) (fun c_11 => ?_)
  · refine lv_iload_n hx hb dX4_computeWithRegister_34 rfl (lv_at hl 0 rfl) ?_
    refine lv_iconst (v := 1) hx hb dX4_computeWithRegister_35 (by decide) ?_
    refine lv_icmp_ne (tgt := 59) hx hb dX4_computeWithRegister_36 (by decide) (fun c_36 => ?_) (fun c_36 => ?_)
    · refine lv_iload_n hx hb dX4_computeWithRegister_59 rfl (lv_at hl 0 rfl) ?_
      refine lv_bipush (v := 32) hx hb dX4_computeWithRegister_60 (by decide) ?_
      refine lv_icmp_ne (tgt := 86) hx hb dX4_computeWithRegister_62 (by decide) (fun c_62 => ?_) (fun c_62 => ?_)
      · refine lv_iload_n hx hb dX4_computeWithRegister_86 rfl (lv_at hl 0 rfl) ?_
        refine lv_bipush (v := 32) hx hb dX4_computeWithRegister_87 (by decide) ?_
        refine lv_icmp_ne (tgt := 117) hx hb dX4_computeWithRegister_89 (by decide) (fun _ => ?_) (fun h9 => absurd h9 c_62)
        refine lv_aload_n hx hb dX4_computeWithRegister_117 rfl (lv_at hl 2 rfl) ?_
        refine lv_iload_n hx hb dX4_computeWithRegister_118 rfl (lv_at hl 3 rfl) ?_
        refine k_mi (w := wD aH aM aW aC aR iW iR) wD_ad (va_runV (As := [.int p0]) (rest := []) ⟨hx, hb, hml, hown, hB⟩ (mX4_unknown l dC dI aH aM aW aC aR iW iR s.heap.size x p0) (cwV 1 hB (gV q_t2_58 q_t2_60 q_s_17 q_t1_1 wX4_unknown) rfl rfl rfl hX4_unknown ⟨Nat.le_of_ble_eq_true rfl, Nat.le_of_ble_eq_true rfl⟩) ⟨kM_blind NW_blind, va_recv hK hP (ci := 2) (q0 := 0) rfl rfl, kM_pre NW_warm hP hK hD hN⟩ rfl rfl hl.1 rfl (lv_room (Nat.le_of_ble_eq_true rfl)) dX4_computeWithRegister_119 ⟨Nat.zero_le _, Nat.zero_le _⟩) hD hS hA (fun r u H locs hw hP hD hS => ?_)
        obtain ⟨rfl, rfl⟩ := hw
        exact W.zret (v := bi (fX4_unknown p0 x).1) hx hb hr (bi_nar _) (fun t ht hW => ⟨⟨bi (fX4_unknown p0 x).1, ((fX4_unknown p0 x).2), rfl, ⟨(by unfold fX4_computeWithRegister; rw [if_neg c_11, if_neg c_36, if_neg c_62] <;> rfl), (by unfold fX4_computeWithRegister; rw [if_neg c_11, if_neg c_36, if_neg c_62] <;> rfl)⟩, hpT ht hP⟩, hS.F ht⟩) hS.2.2 dX4_computeWithRegister_122
      · refine lv_iload_n hx hb dX4_computeWithRegister_65 rfl (lv_at hl 1 rfl) ?_
        refine lv_if_ne (tgt := 86) hx hb dX4_computeWithRegister_66 (by decide) (fun c_66 => ?_) (fun c_66 => ?_)
        · refine lv_iload_n hx hb dX4_computeWithRegister_86 rfl (lv_at hl 0 rfl) ?_
          refine lv_bipush (v := 32) hx hb dX4_computeWithRegister_87 (by decide) ?_
          refine lv_icmp_ne (tgt := 117) hx hb dX4_computeWithRegister_89 (by decide) (fun h9 => absurd c_62 h9) (fun _ => ?_)
          refine lv_iload_n hx hb dX4_computeWithRegister_92 rfl (lv_at hl 1 rfl) ?_
          refine lv_iconst (v := 5) hx hb dX4_computeWithRegister_93 (by decide) ?_
          refine lv_icmp_ne (tgt := 117) hx hb dX4_computeWithRegister_94 (by decide) (fun c_94 => ?_) (fun c_94 => ?_)
          · refine lv_aload_n hx hb dX4_computeWithRegister_117 rfl (lv_at hl 2 rfl) ?_
            refine lv_iload_n hx hb dX4_computeWithRegister_118 rfl (lv_at hl 3 rfl) ?_
            refine k_mi (w := wD aH aM aW aC aR iW iR) wD_ad (va_runV (As := [.int p0]) (rest := []) ⟨hx, hb, hml, hown, hB⟩ (mX4_unknown l dC dI aH aM aW aC aR iW iR s.heap.size x p0) (cwV 1 hB (gV q_t2_58 q_t2_60 q_s_17 q_t1_1 wX4_unknown) rfl rfl rfl hX4_unknown ⟨Nat.le_of_ble_eq_true rfl, Nat.le_of_ble_eq_true rfl⟩) ⟨kM_blind NW_blind, va_recv hK hP (ci := 2) (q0 := 0) rfl rfl, kM_pre NW_warm hP hK hD hN⟩ rfl rfl hl.1 rfl (lv_room (Nat.le_of_ble_eq_true rfl)) dX4_computeWithRegister_119 ⟨Nat.zero_le _, Nat.zero_le _⟩) hD hS hA (fun r u H locs hw hP hD hS => ?_)
            obtain ⟨rfl, rfl⟩ := hw
            exact W.zret (v := bi (fX4_unknown p0 x).1) hx hb hr (bi_nar _) (fun t ht hW => ⟨⟨bi (fX4_unknown p0 x).1, ((fX4_unknown p0 x).2), rfl, ⟨(by unfold fX4_computeWithRegister; rw [if_neg c_11, if_neg c_36, if_pos c_62, if_neg c_66, if_neg c_94] <;> rfl), (by unfold fX4_computeWithRegister; rw [if_neg c_11, if_neg c_36, if_pos c_62, if_neg c_66, if_neg c_94] <;> rfl)⟩, hpT ht hP⟩, hS.F ht⟩) hS.2.2 dX4_computeWithRegister_122
          · refine lv_aload_n hx hb dX4_computeWithRegister_97 rfl (lv_at hl 2 rfl) ?_
            refine lv_iload_n hx hb dX4_computeWithRegister_98 rfl (lv_at hl 3 rfl) ?_
            refine lv_aload_n hx hb dX4_computeWithRegister_99 rfl (lv_at hl 2 rfl) ?_
            refine lv_iload_n hx hb dX4_computeWithRegister_100 rfl (lv_at hl 3 rfl) ?_
            refine k_ri (va_runV (As := [.int p0]) (rest := [.int p0, .ref aH]) ⟨hx, hb, hml, hown, hB⟩ (mX4_valueA l dC dI aH aM aW aC aR iW iR x p0) (cwV 1 hB (gV q_t2_62 q_t2_64 q_s_18 q_t1_1 wX4_valueA) rfl rfl rfl hX4_valueA ⟨Nat.le_of_ble_eq_true rfl, Nat.le_of_ble_eq_true rfl⟩) ⟨kP_blind NW_blind, va_recv hK hP (ci := 2) (q0 := 0) rfl rfl, kP_pre NW_warm hP hK hN⟩ rfl rfl hl.1 rfl (lv_room (Nat.le_of_ble_eq_true rfl)) dX4_computeWithRegister_101 ⟨Nat.zero_le _, Nat.zero_le _⟩) ?_
            refine lv_aload_n hx hb dX4_computeWithRegister_104 rfl (lv_at hl 2 rfl) ?_
            refine lv_iload_n hx hb dX4_computeWithRegister_105 rfl (lv_at hl 3 rfl) ?_
            refine k_ri (va_runV (As := [.int p0]) (rest := [.int (fX4_valueA p0 x), .int p0, .ref aH]) ⟨hx, hb, hml, hown, hB⟩ (mX4_valueB l dC dI aH aM aW aC aR iW iR x p0) (cwV 1 hB (gV q_t2_80 q_t2_82 q_s_21 q_t1_1 wX4_valueB) rfl rfl rfl hX4_valueB ⟨Nat.le_of_ble_eq_true rfl, Nat.le_of_ble_eq_true rfl⟩) ⟨kP_blind NW_blind, va_recv hK hP (ci := 2) (q0 := 0) rfl rfl, kP_pre NW_warm hP hK hN⟩ rfl rfl hl.1 rfl (lv_room (Nat.le_of_ble_eq_true rfl)) dX4_computeWithRegister_106 ⟨Nat.zero_le _, Nat.zero_le _⟩) ?_
            refine lv_bipush (v := 31) hx hb dX4_computeWithRegister_109 (by decide) ?_
            refine lv_iand hx hb dX4_computeWithRegister_111 ?_
            refine lv_ishr hx hb dX4_computeWithRegister_112 ?_
            refine k_mi (w := wD aH aM aW aC aR iW iR) wD_ad (va_runV (As := [.int p0, .int ((fX4_valueA p0 x) >>> (((fX4_valueB p0 x) &&& (31 : Int32)) &&& 31))]) (rest := []) ⟨hx, hb, hml, hown, hB⟩ (mX4_goOnWith l dC dI aH aM aW aC aR iW iR s.heap.size x p0 ((fX4_valueA p0 x) >>> (((fX4_valueB p0 x) &&& (31 : Int32)) &&& 31))) (cwV 2 hB (gV q_t2_33 q_t2_35 q_s_13 q_t1_1 wX4_goOnWith) rfl rfl rfl hX4_goOnWith ⟨Nat.le_of_ble_eq_true rfl, Nat.le_of_ble_eq_true rfl⟩) ⟨kM_blind NW_blind, va_recv hK hP (ci := 2) (q0 := 0) rfl rfl, kM_pre NW_warm hP hK hD hN⟩ rfl rfl hl.1 rfl (lv_room (Nat.le_of_ble_eq_true rfl)) dX4_computeWithRegister_113 ⟨Nat.zero_le _, Nat.zero_le _⟩) hD hS hA (fun r u H locs hw hP hD hS => ?_)
            obtain ⟨rfl, rfl⟩ := hw
            exact W.zret (v := bi (fX4_goOnWith p0 ((fX4_valueA p0 x) >>> (((fX4_valueB p0 x) &&& (31 : Int32)) &&& 31)) x).1) hx hb hr (bi_nar _) (fun t ht hW => ⟨⟨bi (fX4_goOnWith p0 ((fX4_valueA p0 x) >>> (((fX4_valueB p0 x) &&& (31 : Int32)) &&& 31)) x).1, ((fX4_goOnWith p0 ((fX4_valueA p0 x) >>> (((fX4_valueB p0 x) &&& (31 : Int32)) &&& 31)) x).2), rfl, ⟨(by unfold fX4_computeWithRegister; rw [if_neg c_11, if_neg c_36, if_pos c_62, if_neg c_66, if_pos c_94] <;> rfl), (by unfold fX4_computeWithRegister; rw [if_neg c_11, if_neg c_36, if_pos c_62, if_neg c_66, if_pos c_94] <;> rfl)⟩, hpT ht hP⟩, hS.F ht⟩) hS.2.2 dX4_computeWithRegister_116
        · refine lv_aload_n hx hb dX4_computeWithRegister_69 rfl (lv_at hl 2 rfl) ?_
          refine lv_iload_n hx hb dX4_computeWithRegister_70 rfl (lv_at hl 3 rfl) ?_
          refine lv_aload_n hx hb dX4_computeWithRegister_71 rfl (lv_at hl 2 rfl) ?_
          refine lv_iload_n hx hb dX4_computeWithRegister_72 rfl (lv_at hl 3 rfl) ?_
          refine k_ri (va_runV (As := [.int p0]) (rest := [.int p0, .ref aH]) ⟨hx, hb, hml, hown, hB⟩ (mX4_valueA l dC dI aH aM aW aC aR iW iR x p0) (cwV 1 hB (gV q_t2_62 q_t2_64 q_s_18 q_t1_1 wX4_valueA) rfl rfl rfl hX4_valueA ⟨Nat.le_of_ble_eq_true rfl, Nat.le_of_ble_eq_true rfl⟩) ⟨kP_blind NW_blind, va_recv hK hP (ci := 2) (q0 := 0) rfl rfl, kP_pre NW_warm hP hK hN⟩ rfl rfl hl.1 rfl (lv_room (Nat.le_of_ble_eq_true rfl)) dX4_computeWithRegister_73 ⟨Nat.zero_le _, Nat.zero_le _⟩) ?_
          refine lv_aload_n hx hb dX4_computeWithRegister_76 rfl (lv_at hl 2 rfl) ?_
          refine lv_iload_n hx hb dX4_computeWithRegister_77 rfl (lv_at hl 3 rfl) ?_
          refine k_ri (va_runV (As := [.int p0]) (rest := [.int (fX4_valueA p0 x), .int p0, .ref aH]) ⟨hx, hb, hml, hown, hB⟩ (mX4_valueB l dC dI aH aM aW aC aR iW iR x p0) (cwV 1 hB (gV q_t2_80 q_t2_82 q_s_21 q_t1_1 wX4_valueB) rfl rfl rfl hX4_valueB ⟨Nat.le_of_ble_eq_true rfl, Nat.le_of_ble_eq_true rfl⟩) ⟨kP_blind NW_blind, va_recv hK hP (ci := 2) (q0 := 0) rfl rfl, kP_pre NW_warm hP hK hN⟩ rfl rfl hl.1 rfl (lv_room (Nat.le_of_ble_eq_true rfl)) dX4_computeWithRegister_78 ⟨Nat.zero_le _, Nat.zero_le _⟩) ?_
          refine lv_isub hx hb dX4_computeWithRegister_81 ?_
          refine k_mi (w := wD aH aM aW aC aR iW iR) wD_ad (va_runV (As := [.int p0, .int ((fX4_valueA p0 x) - (fX4_valueB p0 x))]) (rest := []) ⟨hx, hb, hml, hown, hB⟩ (mX4_goOnWith l dC dI aH aM aW aC aR iW iR s.heap.size x p0 ((fX4_valueA p0 x) - (fX4_valueB p0 x))) (cwV 2 hB (gV q_t2_33 q_t2_35 q_s_13 q_t1_1 wX4_goOnWith) rfl rfl rfl hX4_goOnWith ⟨Nat.le_of_ble_eq_true rfl, Nat.le_of_ble_eq_true rfl⟩) ⟨kM_blind NW_blind, va_recv hK hP (ci := 2) (q0 := 0) rfl rfl, kM_pre NW_warm hP hK hD hN⟩ rfl rfl hl.1 rfl (lv_room (Nat.le_of_ble_eq_true rfl)) dX4_computeWithRegister_82 ⟨Nat.zero_le _, Nat.zero_le _⟩) hD hS hA (fun r u H locs hw hP hD hS => ?_)
          obtain ⟨rfl, rfl⟩ := hw
          exact W.zret (v := bi (fX4_goOnWith p0 ((fX4_valueA p0 x) - (fX4_valueB p0 x)) x).1) hx hb hr (bi_nar _) (fun t ht hW => ⟨⟨bi (fX4_goOnWith p0 ((fX4_valueA p0 x) - (fX4_valueB p0 x)) x).1, ((fX4_goOnWith p0 ((fX4_valueA p0 x) - (fX4_valueB p0 x)) x).2), rfl, ⟨(by unfold fX4_computeWithRegister; rw [if_neg c_11, if_neg c_36, if_pos c_62, if_pos c_66] <;> rfl), (by unfold fX4_computeWithRegister; rw [if_neg c_11, if_neg c_36, if_pos c_62, if_pos c_66] <;> rfl)⟩, hpT ht hP⟩, hS.F ht⟩) hS.2.2 dX4_computeWithRegister_85
    · refine lv_aload_n hx hb dX4_computeWithRegister_39 rfl (lv_at hl 2 rfl) ?_
      refine lv_iload_n hx hb dX4_computeWithRegister_40 rfl (lv_at hl 3 rfl) ?_
      refine lv_iload_n hx hb dX4_computeWithRegister_41 rfl (lv_at hl 1 rfl) ?_
      refine lv_aload_n hx hb dX4_computeWithRegister_42 rfl (lv_at hl 2 rfl) ?_
      refine lv_iload_n hx hb dX4_computeWithRegister_43 rfl (lv_at hl 3 rfl) ?_
      refine k_ri (va_runV (As := [.int p0]) (rest := [.int (fX1_f p0), .int p0, .ref aH]) ⟨hx, hb, hml, hown, hB⟩ (mX4_valueA l dC dI aH aM aW aC aR iW iR x p0) (cwV 1 hB (gV q_t2_62 q_t2_64 q_s_18 q_t1_1 wX4_valueA) rfl rfl rfl hX4_valueA ⟨Nat.le_of_ble_eq_true rfl, Nat.le_of_ble_eq_true rfl⟩) ⟨kP_blind NW_blind, va_recv hK hP (ci := 2) (q0 := 0) rfl rfl, kP_pre NW_warm hP hK hN⟩ rfl rfl hl.1 rfl (lv_room (Nat.le_of_ble_eq_true rfl)) dX4_computeWithRegister_44 ⟨Nat.zero_le _, Nat.zero_le _⟩) ?_
      refine lv_aload_n hx hb dX4_computeWithRegister_47 rfl (lv_at hl 2 rfl) ?_
      refine lv_iload_n hx hb dX4_computeWithRegister_48 rfl (lv_at hl 3 rfl) ?_
      refine k_ri (va_runV (As := [.int p0]) (rest := [.int (fX4_valueA p0 x), .int (fX1_f p0), .int p0, .ref aH]) ⟨hx, hb, hml, hown, hB⟩ (mX4_valueB l dC dI aH aM aW aC aR iW iR x p0) (cwV 1 hB (gV q_t2_80 q_t2_82 q_s_21 q_t1_1 wX4_valueB) rfl rfl rfl hX4_valueB ⟨Nat.le_of_ble_eq_true rfl, Nat.le_of_ble_eq_true rfl⟩) ⟨kP_blind NW_blind, va_recv hK hP (ci := 2) (q0 := 0) rfl rfl, kP_pre NW_warm hP hK hN⟩ rfl rfl hl.1 rfl (lv_room (Nat.le_of_ble_eq_true rfl)) dX4_computeWithRegister_49 ⟨Nat.zero_le _, Nat.zero_le _⟩) ?_
      refine k_ri (va_runSN (As := [.int (fX1_f p0), .int (fX4_valueA p0 x), .int (fX4_valueB p0 x)]) (rest := [.int p0, .ref aH]) ⟨hx, hb, hml, hown, hB⟩ (mX0_productOrQuotient l (fX1_f p0) (fX4_valueA p0 x) (fX4_valueB p0 x)) ⟨va_cnB 3 hB (good_in wX0_productOrQuotient) rfl rfl rfl (hN _ (List.mem_of_getElem? (i := 29) rfl)) (hB _ q_t1_11) hX0_productOrQuotient.2 ⟨Nat.le_of_ble_eq_true rfl, Nat.le_of_ble_eq_true rfl⟩, hB _ q_t2_144, trivial⟩ ⟨fun _ _ _ _ q => q, fun U _ _ => ⟨rfl, trivial⟩⟩ rfl rfl hl.1 rfl (lv_room (Nat.le_of_ble_eq_true rfl)) dX4_computeWithRegister_52 ⟨Nat.zero_le _, Nat.zero_le _⟩) ?_
      refine k_mi (w := wD aH aM aW aC aR iW iR) wD_ad (va_runV (As := [.int p0, .int (fX0_productOrQuotient (fX1_f p0) (fX4_valueA p0 x) (fX4_valueB p0 x))]) (rest := []) ⟨hx, hb, hml, hown, hB⟩ (mX4_goOnWith l dC dI aH aM aW aC aR iW iR s.heap.size x p0 (fX0_productOrQuotient (fX1_f p0) (fX4_valueA p0 x) (fX4_valueB p0 x))) (cwV 2 hB (gV q_t2_33 q_t2_35 q_s_13 q_t1_1 wX4_goOnWith) rfl rfl rfl hX4_goOnWith ⟨Nat.le_of_ble_eq_true rfl, Nat.le_of_ble_eq_true rfl⟩) ⟨kM_blind NW_blind, va_recv hK hP (ci := 2) (q0 := 0) rfl rfl, kM_pre NW_warm hP hK hD hN⟩ rfl rfl hl.1 rfl (lv_room (Nat.le_of_ble_eq_true rfl)) dX4_computeWithRegister_55 ⟨Nat.zero_le _, Nat.zero_le _⟩) hD hS hA (fun r u H locs hw hP hD hS => ?_)
      obtain ⟨rfl, rfl⟩ := hw
      exact W.zret (v := bi (fX4_goOnWith p0 (fX0_productOrQuotient (fX1_f p0) (fX4_valueA p0 x) (fX4_valueB p0 x)) x).1) hx hb hr (bi_nar _) (fun t ht hW => ⟨⟨bi (fX4_goOnWith p0 (fX0_productOrQuotient (fX1_f p0) (fX4_valueA p0 x) (fX4_valueB p0 x)) x).1, ((fX4_goOnWith p0 (fX0_productOrQuotient (fX1_f p0) (fX4_valueA p0 x) (fX4_valueB p0 x)) x).2), rfl, ⟨(by unfold fX4_computeWithRegister; rw [if_neg c_11, if_pos c_36] <;> rfl), (by unfold fX4_computeWithRegister; rw [if_neg c_11, if_pos c_36] <;> rfl)⟩, hpT ht hP⟩, hS.F ht⟩) hS.2.2 dX4_computeWithRegister_58
  · refine lv_aload_n hx hb dX4_computeWithRegister_14 rfl (lv_at hl 2 rfl) ?_
    refine lv_iload_n hx hb dX4_computeWithRegister_15 rfl (lv_at hl 3 rfl) ?_
    refine lv_iload_n hx hb dX4_computeWithRegister_16 rfl (lv_at hl 1 rfl) ?_
    refine lv_aload_n hx hb dX4_computeWithRegister_17 rfl (lv_at hl 2 rfl) ?_
    refine lv_iload_n hx hb dX4_computeWithRegister_18 rfl (lv_at hl 3 rfl) ?_
    refine k_ri (va_runV (As := [.int p0]) (rest := [.int (fX1_f p0), .int p0, .ref aH]) ⟨hx, hb, hml, hown, hB⟩ (mX4_valueA l dC dI aH aM aW aC aR iW iR x p0) (cwV 1 hB (gV q_t2_62 q_t2_64 q_s_18 q_t1_1 wX4_valueA) rfl rfl rfl hX4_valueA ⟨Nat.le_of_ble_eq_true rfl, Nat.le_of_ble_eq_true rfl⟩) ⟨kP_blind NW_blind, va_recv hK hP (ci := 2) (q0 := 0) rfl rfl, kP_pre NW_warm hP hK hN⟩ rfl rfl hl.1 rfl (lv_room (Nat.le_of_ble_eq_true rfl)) dX4_computeWithRegister_19 ⟨Nat.zero_le _, Nat.zero_le _⟩) ?_
    refine lv_aload_n hx hb dX4_computeWithRegister_22 rfl (lv_at hl 2 rfl) ?_
    refine lv_iload_n hx hb dX4_computeWithRegister_23 rfl (lv_at hl 3 rfl) ?_
    refine k_ri (va_runV (As := [.int p0]) (rest := [.int (fX4_valueA p0 x), .int (fX1_f p0), .int p0, .ref aH]) ⟨hx, hb, hml, hown, hB⟩ (mX4_valueB l dC dI aH aM aW aC aR iW iR x p0) (cwV 1 hB (gV q_t2_80 q_t2_82 q_s_21 q_t1_1 wX4_valueB) rfl rfl rfl hX4_valueB ⟨Nat.le_of_ble_eq_true rfl, Nat.le_of_ble_eq_true rfl⟩) ⟨kP_blind NW_blind, va_recv hK hP (ci := 2) (q0 := 0) rfl rfl, kP_pre NW_warm hP hK hN⟩ rfl rfl hl.1 rfl (lv_room (Nat.le_of_ble_eq_true rfl)) dX4_computeWithRegister_24 ⟨Nat.zero_le _, Nat.zero_le _⟩) ?_
    refine k_ri (va_runSN (As := [.int (fX1_f p0), .int (fX4_valueA p0 x), .int (fX4_valueB p0 x)]) (rest := [.int p0, .ref aH]) ⟨hx, hb, hml, hown, hB⟩ (mX0_basic l (fX1_f p0) (fX4_valueA p0 x) (fX4_valueB p0 x)) ⟨va_cnB 3 hB (good_in wX0_basic) rfl rfl rfl (hN _ (List.mem_of_getElem? (i := 28) rfl)) (hB _ q_t1_11) hX0_basic.2 ⟨Nat.le_of_ble_eq_true rfl, Nat.le_of_ble_eq_true rfl⟩, hB _ q_t2_137, trivial⟩ ⟨fun _ _ _ _ q => q, fun U _ _ => ⟨rfl, trivial⟩⟩ rfl rfl hl.1 rfl (lv_room (Nat.le_of_ble_eq_true rfl)) dX4_computeWithRegister_27 ⟨Nat.zero_le _, Nat.zero_le _⟩) ?_
    refine k_mi (w := wD aH aM aW aC aR iW iR) wD_ad (va_runV (As := [.int p0, .int (fX0_basic (fX1_f p0) (fX4_valueA p0 x) (fX4_valueB p0 x))]) (rest := []) ⟨hx, hb, hml, hown, hB⟩ (mX4_goOnWith l dC dI aH aM aW aC aR iW iR s.heap.size x p0 (fX0_basic (fX1_f p0) (fX4_valueA p0 x) (fX4_valueB p0 x))) (cwV 2 hB (gV q_t2_33 q_t2_35 q_s_13 q_t1_1 wX4_goOnWith) rfl rfl rfl hX4_goOnWith ⟨Nat.le_of_ble_eq_true rfl, Nat.le_of_ble_eq_true rfl⟩) ⟨kM_blind NW_blind, va_recv hK hP (ci := 2) (q0 := 0) rfl rfl, kM_pre NW_warm hP hK hD hN⟩ rfl rfl hl.1 rfl (lv_room (Nat.le_of_ble_eq_true rfl)) dX4_computeWithRegister_30 ⟨Nat.zero_le _, Nat.zero_le _⟩) hD hS hA (fun r u H locs hw hP hD hS => ?_)
    obtain ⟨rfl, rfl⟩ := hw
    exact W.zret (v := bi (fX4_goOnWith p0 (fX0_basic (fX1_f p0) (fX4_valueA p0 x) (fX4_valueB p0 x)) x).1) hx hb hr (bi_nar _) (fun t ht hW => ⟨⟨bi (fX4_goOnWith p0 (fX0_basic (fX1_f p0) (fX4_valueA p0 x) (fX4_valueB p0 x)) x).1, ((fX4_goOnWith p0 (fX0_basic (fX1_f p0) (fX4_valueA p0 x) (fX4_valueB p0 x)) x).2), rfl, ⟨(by unfold fX4_computeWithRegister; rw [if_pos c_11] <;> rfl), (by unfold fX4_computeWithRegister; rw [if_pos c_11] <;> rfl)⟩, hpT ht hP⟩, hS.F ht⟩) hS.2.2 dX4_computeWithRegister_33
