def fX4_exchangeControl (p0 : Int32) (x : St) : Bool × St := if ((fX1_f p0) &&& (3 : Int32)) = (1 : Int32) then
    if (fX1_f p0) = (4 : Int32) then
      ((fX4_unknown p0 x).1, (fX4_unknown p0 x).2)
    else
      if (bi (fX2_isWritable (fX1_controlNumber p0))) = 0 then
        ((fX4_unknown p0 x).1, (fX4_unknown p0 x).2)
      else
        if (fX1_f p0) ≤ (4 : Int32) then
          ((fX4_goOnWith p0 (fX2_read (fX1_controlNumber p0) x) (fX2_write (fX1_controlNumber p0) (fX0_exchanged ((fX1_f p0) &&& (3 : Int32)) (fX2_read (fX1_controlNumber p0) x) (fX4_valueA p0 x)) x)).1, (fX4_goOnWith p0 (fX2_read (fX1_controlNumber p0) x) (fX2_write (fX1_controlNumber p0) (fX0_exchanged ((fX1_f p0) &&& (3 : Int32)) (fX2_read (fX1_controlNumber p0) x) (fX4_valueA p0 x)) x)).2)
        else
          ((fX4_goOnWith p0 (fX2_read (fX1_controlNumber p0) x) (fX2_write (fX1_controlNumber p0) (fX0_exchanged ((fX1_f p0) &&& (3 : Int32)) (fX2_read (fX1_controlNumber p0) x) (fX1_a p0)) x)).1, (fX4_goOnWith p0 (fX2_read (fX1_controlNumber p0) x) (fX2_write (fX1_controlNumber p0) (fX0_exchanged ((fX1_f p0) &&& (3 : Int32)) (fX2_read (fX1_controlNumber p0) x) (fX1_a p0)) x)).2)
  else
    if (fX1_a p0) = 0 then
      if (fX1_f p0) = (4 : Int32) then
        ((fX4_unknown p0 x).1, (fX4_unknown p0 x).2)
      else
        if (bi (fX2_isKnown (fX1_controlNumber p0))) = 0 then
          ((fX4_unknown p0 x).1, (fX4_unknown p0 x).2)
        else
          ((fX4_goOnWith p0 (fX2_read (fX1_controlNumber p0) x) x).1, (fX4_goOnWith p0 (fX2_read (fX1_controlNumber p0) x) x).2)
    else
      if (fX1_f p0) = (4 : Int32) then
        ((fX4_unknown p0 x).1, (fX4_unknown p0 x).2)
      else
        if (bi (fX2_isWritable (fX1_controlNumber p0))) = 0 then
          ((fX4_unknown p0 x).1, (fX4_unknown p0 x).2)
        else
          if (fX1_f p0) ≤ (4 : Int32) then
            ((fX4_goOnWith p0 (fX2_read (fX1_controlNumber p0) x) (fX2_write (fX1_controlNumber p0) (fX0_exchanged ((fX1_f p0) &&& (3 : Int32)) (fX2_read (fX1_controlNumber p0) x) (fX4_valueA p0 x)) x)).1, (fX4_goOnWith p0 (fX2_read (fX1_controlNumber p0) x) (fX2_write (fX1_controlNumber p0) (fX0_exchanged ((fX1_f p0) &&& (3 : Int32)) (fX2_read (fX1_controlNumber p0) x) (fX4_valueA p0 x)) x)).2)
          else
            ((fX4_goOnWith p0 (fX2_read (fX1_controlNumber p0) x) (fX2_write (fX1_controlNumber p0) (fX0_exchanged ((fX1_f p0) &&& (3 : Int32)) (fX2_read (fX1_controlNumber p0) x) (fX1_a p0)) x)).1, (fX4_goOnWith p0 (fX2_read (fX1_controlNumber p0) x) (fX2_write (fX1_controlNumber p0) (fX0_exchanged ((fX1_f p0) &&& (3 : Int32)) (fX2_read (fX1_controlNumber p0) x) (fX1_a p0)) x)).2)
set_option maxHeartbeats 4000000 in
set_option maxRecDepth 100000 in
theorem mX4_exchangeControl (l : Launch) (dC : Nat → ClassId) (dI : Nat → Nat → Nat) (aH aM aW aC aR iW iR : Nat) (sz : Nat) (x : St) (p0 : Int32) : Met l yX4_exchangeControl wsX4_exchangeControl ({ frames := 3, cells := 0, slots := 0, locals := 66 }) (va_Pc [.ref aH, .int p0] (kM (dC, dI) [(iW, .int), (iR, .int)] NW (wD aH aM aW aC aR iW iR x) sz)) (va_Qi (fun r u => r = bi (fX4_exchangeControl p0 x).1 ∧ u = (fX4_exchangeControl p0 x).2) (fun u t => va_P (dC, dI) vwCl (wD aH aM aW aC aR iW iR u) t.heap) (va_A (wD aH aM aW aC aR iW iR x) sz)) 0 0 (va_A (wD aH aM aW aC aR iW iR x) sz) := by
  refine Met.ofW (cc := cX4_exchangeControl) (maxL := 8) (ret := (some .boolean)) (by decide) rfl ?_
  intro p e s m args below meth c s₁ B hml hv
  obtain ⟨rfl, hsz, hD0, hP, hK, hN⟩ := hv
  have hx := B.exec
  have hb := B.bytes
  have hr := B.returns
  have hB := fun (w : Cond) (h : w ∈ BIG) => atoms_spec (ws := wsX4_exchangeControl) B.pre w (List.mem_cons_of_mem _ h)
  have hown : s.vm.findClass RX4 = some m.cls := findClass_of_methodNamed B.named
  have hlocks := B.notSynchronized
  subst hsz
  have hD := hD0.self (sz := s.heap.size)
  generalize hAe : va_A (wD aH aM aW aC aR iW iR x) s.heap.size = A at hD ⊢
  have hA : ∀ q : Nat, s.heap.size ≤ q → A q := fun q h => by rw [← hAe]; exact Or.inr h
  have hS : va_S A s.heap s.heap [] := va_S.rf
  have hl := lv_entry ([.ref aH, .int p0]) (n := 8) (Nat.le_of_ble_eq_true rfl)
  rw [lg_entry_eq]
  generalize (lg_sl ([.ref aH, .int p0]) ++ List.replicate (8 - (lg_sl ([.ref aH, .int p0])).length) Slot.unset).toArray = ls at hl ⊢
  have hl : lv_has ls 8 [(0, .ref aH), (1, .int p0)] := hl
  refine lv_iload_n hx hb dX4_exchangeControl_0 rfl (lv_at hl 1 rfl) ?_
  refine k_ri (va_runSN (As := [.int p0]) (rest := []) ⟨hx, hb, hml, hown, hB⟩ (mX1_f l p0) ⟨va_cnB 1 hB (good_in wX1_f) rfl rfl rfl (hN _ (List.mem_of_getElem? (i := 17) rfl)) (hB _ q_t1_10) hX1_f.2 ⟨Nat.le_of_ble_eq_true rfl, Nat.le_of_ble_eq_true rfl⟩, hB _ q_t2_56, trivial⟩ ⟨fun _ _ _ _ q => q, fun U _ _ => ⟨rfl, trivial⟩⟩ rfl rfl hl.1 rfl (lv_room (Nat.le_of_ble_eq_true rfl)) dX4_exchangeControl_1 ⟨Nat.zero_le _, Nat.zero_le _⟩) ?_
  refine lv_istore_n (lv' := [(2, .int (fX1_f p0)), (0, .ref aH), (1, .int p0)]) hx hb dX4_exchangeControl_4 rfl hl (by decide) rfl (fun ls hl => ?_)
  refine lv_iload_n hx hb dX4_exchangeControl_5 rfl (lv_at hl 2 rfl) ?_
  refine k_ri (va_runSN (As := [.int p0]) (rest := []) ⟨hx, hb, hml, hown, hB⟩ (mX1_controlNumber l p0) ⟨va_cnB 1 hB (good_in wX1_controlNumber) rfl rfl rfl (hN _ (List.mem_of_getElem? (i := 31) rfl)) (hB _ q_t1_10) hX1_controlNumber.2 ⟨Nat.le_of_ble_eq_true rfl, Nat.le_of_ble_eq_true rfl⟩, hB _ q_t2_165, trivial⟩ ⟨fun _ _ _ _ q => q, fun U _ _ => ⟨rfl, trivial⟩⟩ rfl rfl hl.1 rfl (lv_room (Nat.le_of_ble_eq_true rfl)) dX4_exchangeControl_6 ⟨Nat.zero_le _, Nat.zero_le _⟩) ?_
  refine lv_istore_n (lv' := [(3, .int (fX1_controlNumber p0)), (2, .int (fX1_f p0)), (0, .ref aH), (1, .int p0)]) hx hb dX4_exchangeControl_9 rfl hl (by decide) rfl (fun ls hl => ?_)
  refine lv_iload_n hx hb dX4_exchangeControl_10 rfl (lv_at hl 1 rfl) ?_
  refine lv_iconst (v := 3) hx hb dX4_exchangeControl_11 (by decide) ?_
  refine lv_iand hx hb dX4_exchangeControl_12 ?_
  refine lv_iconst (v := 1) hx hb dX4_exchangeControl_13 (by decide) ?_
  refine lv_icmp_eq (tgt := 24) hx hb dX4_exchangeControl_14 (by decide) (fun c_14 => ?_) (fun c_14 => ?_)
  · refine lv_iconst (v := 1) hx hb dX4_exchangeControl_24 (by decide) ?_
    refine lv_goto (tgt := 29) hx hb dX4_exchangeControl_25 (by decide) ?_
    refine lv_istore (lv' := [(4, .int (1 : Int32)), (3, .int (fX1_controlNumber p0)), (2, .int (fX1_f p0)), (0, .ref aH), (1, .int p0)]) hx hb dX4_exchangeControl_29 hl (by decide) rfl (fun ls hl => ?_)
    refine lv_iload hx hb dX4_exchangeControl_31 (lv_at hl 0 rfl) ?_
    refine lv_if_eq (tgt := 43) hx hb dX4_exchangeControl_33 (by decide) (fun h9 => absurd h9 (by decide)) (fun _ => ?_)
    refine lv_iload_n hx hb dX4_exchangeControl_36 rfl (lv_at hl 1 rfl) ?_
    refine k_ri (va_runSN (As := [.int (fX1_controlNumber p0)]) (rest := []) ⟨hx, hb, hml, hown, hB⟩ (mX2_isWritable l (fX1_controlNumber p0)) ⟨va_cnB 1 hB (good_in wX2_isWritable) rfl rfl rfl (hN _ (List.mem_of_getElem? (i := 32) rfl)) (hB _ q_t1_3) hX2_isWritable.2 ⟨Nat.le_of_ble_eq_true rfl, Nat.le_of_ble_eq_true rfl⟩, hB _ q_t2_168, trivial⟩ ⟨fun _ _ _ _ q => q, fun U _ _ => ⟨rfl, trivial⟩⟩ rfl rfl hl.1 rfl (lv_room (Nat.le_of_ble_eq_true rfl)) dX4_exchangeControl_37 ⟨Nat.zero_le _, Nat.zero_le _⟩) ?_
    refine lv_goto (tgt := 47) hx hb dX4_exchangeControl_40 (by decide) ?_
    refine lv_istore (lv' := [(5, .int (bi (fX2_isWritable (fX1_controlNumber p0)))), (4, .int (1 : Int32)), (3, .int (fX1_controlNumber p0)), (2, .int (fX1_f p0)), (0, .ref aH), (1, .int p0)]) hx hb dX4_exchangeControl_47 hl (by decide) rfl (fun ls hl => ?_)
    refine lv_iload_n hx hb dX4_exchangeControl_49 rfl (lv_at hl 3 rfl) ?_
    refine lv_iconst (v := 4) hx hb dX4_exchangeControl_50 (by decide) ?_
    refine lv_icmp_eq (tgt := 59) hx hb dX4_exchangeControl_51 (by decide) (fun c_51 => ?_) (fun c_51 => ?_)
    · refine lv_aload_n hx hb dX4_exchangeControl_59 rfl (lv_at hl 4 rfl) ?_
      refine lv_iload_n hx hb dX4_exchangeControl_60 rfl (lv_at hl 5 rfl) ?_
      refine k_mi (w := wD aH aM aW aC aR iW iR) wD_ad (va_runV (As := [.int p0]) (rest := []) ⟨hx, hb, hml, hown, hB⟩ (mX4_unknown l dC dI aH aM aW aC aR iW iR s.heap.size x p0) (cwV 1 hB (gV q_t2_58 q_t2_60 q_s_17 q_t1_1 wX4_unknown) rfl rfl rfl hX4_unknown ⟨Nat.le_of_ble_eq_true rfl, Nat.le_of_ble_eq_true rfl⟩) ⟨kM_blind NW_blind, va_recv hK hP (ci := 2) (q0 := 0) rfl rfl, kM_pre NW_warm hP hK hD hN⟩ rfl rfl hl.1 rfl (lv_room (Nat.le_of_ble_eq_true rfl)) dX4_exchangeControl_61 ⟨Nat.zero_le _, Nat.zero_le _⟩) hD hS hA (fun r u H locs hw hP hD hS => ?_)
      obtain ⟨rfl, rfl⟩ := hw
      exact W.zret (v := bi (fX4_unknown p0 x).1) hx hb hr (bi_nar _) (fun t ht hW => ⟨⟨bi (fX4_unknown p0 x).1, ((fX4_unknown p0 x).2), rfl, ⟨(by unfold fX4_exchangeControl; rw [if_pos c_14, if_pos c_51] <;> rfl), (by unfold fX4_exchangeControl; rw [if_pos c_14, if_pos c_51] <;> rfl)⟩, hpT ht hP⟩, hS.F ht⟩) hS.2.2 dX4_exchangeControl_64
    · refine lv_iload hx hb dX4_exchangeControl_54 (lv_at hl 0 rfl) ?_
      refine lv_if_ne (tgt := 65) hx hb dX4_exchangeControl_56 (by decide) (fun c_56 => ?_) (fun c_56 => ?_)
      · refine lv_aload_n hx hb dX4_exchangeControl_65 rfl (lv_at hl 4 rfl) ?_
        refine va_get (D := (dC, dI)) (ci := 2) (v := .ref aC) (C := RX4) (T := TX4) (N := 7) hx hb hB iX4 hown hK hP 0 rfl rfl 1 (by decide) (hB _ q_t1_71) (fun _ h9 => h9) rfl dX4_exchangeControl_66 ?_
        refine lv_iload_n hx hb dX4_exchangeControl_69 rfl (lv_at hl 2 rfl) ?_
        refine k_ri (va_runVN (As := [.int (fX1_controlNumber p0)]) (rest := []) ⟨hx, hb, hml, hown, hB⟩ (mX2_read l dC dI aH aM aW aC aR iW iR x (fX1_controlNumber p0)) ⟨va_cnB 1 hB (good_in wX2_read) rfl rfl rfl (hN _ (List.mem_of_getElem? (i := 34) rfl)) (hB _ q_t1_3) hX2_read.2 ⟨Nat.le_of_ble_eq_true rfl, Nat.le_of_ble_eq_true rfl⟩, hB _ q_t2_176, hB _ q_s_31⟩ ⟨kP_blind NW_blind, va_recv hK hP (ci := 0) (q0 := 3) rfl rfl, kP_pre NW_warm hP hK hN⟩ rfl rfl hl.1 rfl (lv_room (Nat.le_of_ble_eq_true rfl)) dX4_exchangeControl_70 ⟨Nat.zero_le _, Nat.zero_le _⟩) ?_
        refine lv_istore (lv' := [(6, .int (fX2_read (fX1_controlNumber p0) x)), (5, .int (bi (fX2_isWritable (fX1_controlNumber p0)))), (4, .int (1 : Int32)), (3, .int (fX1_controlNumber p0)), (2, .int (fX1_f p0)), (0, .ref aH), (1, .int p0)]) hx hb dX4_exchangeControl_73 hl (by decide) rfl (fun ls hl => ?_)
        refine lv_iload hx hb dX4_exchangeControl_75 (lv_at hl 2 rfl) ?_
        refine lv_if_eq (tgt := 117) hx hb dX4_exchangeControl_77 (by decide) (fun h9 => absurd h9 (by decide)) (fun _ => ?_)
        refine lv_iload_n hx hb dX4_exchangeControl_80 rfl (lv_at hl 4 rfl) ?_
        refine lv_iconst (v := 4) hx hb dX4_exchangeControl_81 (by decide) ?_
        refine lv_icmp_le (tgt := 92) hx hb dX4_exchangeControl_82 (by decide) (fun c_82 => ?_) (fun c_82 => ?_)
        · refine lv_aload_n hx hb dX4_exchangeControl_92 rfl (lv_at hl 5 rfl) ?_
          refine lv_iload_n hx hb dX4_exchangeControl_93 rfl (lv_at hl 6 rfl) ?_
          refine k_ri (va_runV (As := [.int p0]) (rest := []) ⟨hx, hb, hml, hown, hB⟩ (mX4_valueA l dC dI aH aM aW aC aR iW iR x p0) (cwV 1 hB (gV q_t2_62 q_t2_64 q_s_18 q_t1_1 wX4_valueA) rfl rfl rfl hX4_valueA ⟨Nat.le_of_ble_eq_true rfl, Nat.le_of_ble_eq_true rfl⟩) ⟨kP_blind NW_blind, va_recv hK hP (ci := 2) (q0 := 0) rfl rfl, kP_pre NW_warm hP hK hN⟩ rfl rfl hl.1 rfl (lv_room (Nat.le_of_ble_eq_true rfl)) dX4_exchangeControl_94 ⟨Nat.zero_le _, Nat.zero_le _⟩) ?_
          refine lv_istore (lv' := [(7, .int (fX4_valueA p0 x)), (6, .int (fX2_read (fX1_controlNumber p0) x)), (5, .int (bi (fX2_isWritable (fX1_controlNumber p0)))), (4, .int (1 : Int32)), (3, .int (fX1_controlNumber p0)), (2, .int (fX1_f p0)), (0, .ref aH), (1, .int p0)]) hx hb dX4_exchangeControl_97 hl (by decide) rfl (fun ls hl => ?_)
          refine lv_aload_n hx hb dX4_exchangeControl_99 rfl (lv_at hl 6 rfl) ?_
          refine va_get (D := (dC, dI)) (ci := 2) (v := .ref aC) (C := RX4) (T := TX4) (N := 7) hx hb hB iX4 hown hK hP 0 rfl rfl 1 (by decide) (hB _ q_t1_71) (fun _ h9 => h9) rfl dX4_exchangeControl_100 ?_
          refine lv_iload_n hx hb dX4_exchangeControl_103 rfl (lv_at hl 4 rfl) ?_
          refine lv_iload_n hx hb dX4_exchangeControl_104 rfl (lv_at hl 5 rfl) ?_
          refine lv_iconst (v := 3) hx hb dX4_exchangeControl_105 (by decide) ?_
          refine lv_iand hx hb dX4_exchangeControl_106 ?_
          refine lv_iload hx hb dX4_exchangeControl_107 (lv_at hl 1 rfl) ?_
          refine lv_iload hx hb dX4_exchangeControl_109 (lv_at hl 0 rfl) ?_
          refine k_ri (va_runSN (As := [.int ((fX1_f p0) &&& (3 : Int32)), .int (fX2_read (fX1_controlNumber p0) x), .int (fX4_valueA p0 x)]) (rest := [.int (fX1_controlNumber p0), .ref aC]) ⟨hx, hb, hml, hown, hB⟩ (mX0_exchanged l ((fX1_f p0) &&& (3 : Int32)) (fX2_read (fX1_controlNumber p0) x) (fX4_valueA p0 x)) ⟨va_cnB 3 hB (good_in wX0_exchanged) rfl rfl rfl (hN _ (List.mem_of_getElem? (i := 35) rfl)) (hB _ q_t1_11) hX0_exchanged.2 ⟨Nat.le_of_ble_eq_true rfl, Nat.le_of_ble_eq_true rfl⟩, hB _ q_t2_179, trivial⟩ ⟨fun _ _ _ _ q => q, fun U _ _ => ⟨rfl, trivial⟩⟩ rfl rfl hl.1 rfl (lv_room (Nat.le_of_ble_eq_true rfl)) dX4_exchangeControl_111 ⟨Nat.zero_le _, Nat.zero_le _⟩) ?_
          refine k_mv (w := wD aH aM aW aC aR iW iR) wD_ad (va_runVN (As := [.int (fX1_controlNumber p0), .int (fX0_exchanged ((fX1_f p0) &&& (3 : Int32)) (fX2_read (fX1_controlNumber p0) x) (fX4_valueA p0 x))]) (rest := []) ⟨hx, hb, hml, hown, hB⟩ (mX2_write l dC dI aH aM aW aC aR iW iR s.heap.size x (fX1_controlNumber p0) (fX0_exchanged ((fX1_f p0) &&& (3 : Int32)) (fX2_read (fX1_controlNumber p0) x) (fX4_valueA p0 x))) ⟨va_cnB 2 hB (good_in wX2_write) rfl rfl rfl (hN _ (List.mem_of_getElem? (i := 36) rfl)) (hB _ q_t1_3) hX2_write.2 ⟨Nat.le_of_ble_eq_true rfl, Nat.le_of_ble_eq_true rfl⟩, hB _ q_t2_183, hB _ q_s_32⟩ ⟨kM_blind NW_blind, va_recv hK hP (ci := 0) (q0 := 3) rfl rfl, kM_pre NW_warm hP hK hD hN⟩ rfl rfl hl.1 rfl (lv_room (Nat.le_of_ble_eq_true rfl)) dX4_exchangeControl_114 ⟨Nat.zero_le _, Nat.zero_le _⟩) hD hS hA (fun u H locs hw hP hD hS => ?_)
          obtain rfl := hw
          refine lv_aload_n hx hb dX4_exchangeControl_117 rfl (lv_at hl 6 rfl) ?_
          refine lv_iload_n hx hb dX4_exchangeControl_118 rfl (lv_at hl 7 rfl) ?_
          refine lv_iload hx hb dX4_exchangeControl_119 (lv_at hl 1 rfl) ?_
          refine k_mi (w := wD aH aM aW aC aR iW iR) wD_ad (va_runV (As := [.int p0, .int (fX2_read (fX1_controlNumber p0) x)]) (rest := []) ⟨hx, hb, hml, hown, hB⟩ (mX4_goOnWith l dC dI aH aM aW aC aR iW iR H.size (fX2_write (fX1_controlNumber p0) (fX0_exchanged ((fX1_f p0) &&& (3 : Int32)) (fX2_read (fX1_controlNumber p0) x) (fX4_valueA p0 x)) x) p0 (fX2_read (fX1_controlNumber p0) x)) (cwV 2 hB (gV q_t2_33 q_t2_35 q_s_13 q_t1_1 wX4_goOnWith) rfl rfl rfl hX4_goOnWith ⟨Nat.le_of_ble_eq_true rfl, Nat.le_of_ble_eq_true rfl⟩) ⟨kM_blind NW_blind, va_recv hK hP (ci := 2) (q0 := 0) rfl rfl, kM_pre NW_warm hP hK hD hN⟩ rfl rfl hl.1 rfl (lv_room (Nat.le_of_ble_eq_true rfl)) dX4_exchangeControl_121 ⟨Nat.zero_le _, Nat.zero_le _⟩) hD hS hA (fun r u H locs hw hP hD hS => ?_)
          obtain ⟨rfl, rfl⟩ := hw
          exact W.zret (v := bi (fX4_goOnWith p0 (fX2_read (fX1_controlNumber p0) x) (fX2_write (fX1_controlNumber p0) (fX0_exchanged ((fX1_f p0) &&& (3 : Int32)) (fX2_read (fX1_controlNumber p0) x) (fX4_valueA p0 x)) x)).1) hx hb hr (bi_nar _) (fun t ht hW => ⟨⟨bi (fX4_goOnWith p0 (fX2_read (fX1_controlNumber p0) x) (fX2_write (fX1_controlNumber p0) (fX0_exchanged ((fX1_f p0) &&& (3 : Int32)) (fX2_read (fX1_controlNumber p0) x) (fX4_valueA p0 x)) x)).1, ((fX4_goOnWith p0 (fX2_read (fX1_controlNumber p0) x) (fX2_write (fX1_controlNumber p0) (fX0_exchanged ((fX1_f p0) &&& (3 : Int32)) (fX2_read (fX1_controlNumber p0) x) (fX4_valueA p0 x)) x)).2), rfl, ⟨(by unfold fX4_exchangeControl; rw [if_pos c_14, if_neg c_51, if_neg c_56, if_pos c_82] <;> rfl), (by unfold fX4_exchangeControl; rw [if_pos c_14, if_neg c_51, if_neg c_56, if_pos c_82] <;> rfl)⟩, hpT ht hP⟩, hS.F ht⟩) hS.2.2 dX4_exchangeControl_124
        · refine lv_iload_n hx hb dX4_exchangeControl_85 rfl (lv_at hl 6 rfl) ?_
          refine k_ri (va_runSN (As := [.int p0]) (rest := []) ⟨hx, hb, hml, hown, hB⟩ (mX1_a l p0) ⟨va_cnB 1 hB (good_in wX1_a) rfl rfl rfl (hN _ (List.mem_of_getElem? (i := 18) rfl)) (hB _ q_t1_10) hX1_a.2 ⟨Nat.le_of_ble_eq_true rfl, Nat.le_of_ble_eq_true rfl⟩, hB _ q_t2_67, trivial⟩ ⟨fun _ _ _ _ q => q, fun U _ _ => ⟨rfl, trivial⟩⟩ rfl rfl hl.1 rfl (lv_room (Nat.le_of_ble_eq_true rfl)) dX4_exchangeControl_86 ⟨Nat.zero_le _, Nat.zero_le _⟩) ?_
          refine lv_goto (tgt := 97) hx hb dX4_exchangeControl_89 (by decide) ?_
          refine lv_istore (lv' := [(7, .int (fX1_a p0)), (6, .int (fX2_read (fX1_controlNumber p0) x)), (5, .int (bi (fX2_isWritable (fX1_controlNumber p0)))), (4, .int (1 : Int32)), (3, .int (fX1_controlNumber p0)), (2, .int (fX1_f p0)), (0, .ref aH), (1, .int p0)]) hx hb dX4_exchangeControl_97 hl (by decide) rfl (fun ls hl => ?_)
          refine lv_aload_n hx hb dX4_exchangeControl_99 rfl (lv_at hl 6 rfl) ?_
          refine va_get (D := (dC, dI)) (ci := 2) (v := .ref aC) (C := RX4) (T := TX4) (N := 7) hx hb hB iX4 hown hK hP 0 rfl rfl 1 (by decide) (hB _ q_t1_71) (fun _ h9 => h9) rfl dX4_exchangeControl_100 ?_
          refine lv_iload_n hx hb dX4_exchangeControl_103 rfl (lv_at hl 4 rfl) ?_
          refine lv_iload_n hx hb dX4_exchangeControl_104 rfl (lv_at hl 5 rfl) ?_
          refine lv_iconst (v := 3) hx hb dX4_exchangeControl_105 (by decide) ?_
          refine lv_iand hx hb dX4_exchangeControl_106 ?_
          refine lv_iload hx hb dX4_exchangeControl_107 (lv_at hl 1 rfl) ?_
          refine lv_iload hx hb dX4_exchangeControl_109 (lv_at hl 0 rfl) ?_
          refine k_ri (va_runSN (As := [.int ((fX1_f p0) &&& (3 : Int32)), .int (fX2_read (fX1_controlNumber p0) x), .int (fX1_a p0)]) (rest := [.int (fX1_controlNumber p0), .ref aC]) ⟨hx, hb, hml, hown, hB⟩ (mX0_exchanged l ((fX1_f p0) &&& (3 : Int32)) (fX2_read (fX1_controlNumber p0) x) (fX1_a p0)) ⟨va_cnB 3 hB (good_in wX0_exchanged) rfl rfl rfl (hN _ (List.mem_of_getElem? (i := 35) rfl)) (hB _ q_t1_11) hX0_exchanged.2 ⟨Nat.le_of_ble_eq_true rfl, Nat.le_of_ble_eq_true rfl⟩, hB _ q_t2_179, trivial⟩ ⟨fun _ _ _ _ q => q, fun U _ _ => ⟨rfl, trivial⟩⟩ rfl rfl hl.1 rfl (lv_room (Nat.le_of_ble_eq_true rfl)) dX4_exchangeControl_111 ⟨Nat.zero_le _, Nat.zero_le _⟩) ?_
          refine k_mv (w := wD aH aM aW aC aR iW iR) wD_ad (va_runVN (As := [.int (fX1_controlNumber p0), .int (fX0_exchanged ((fX1_f p0) &&& (3 : Int32)) (fX2_read (fX1_controlNumber p0) x) (fX1_a p0))]) (rest := []) ⟨hx, hb, hml, hown, hB⟩ (mX2_write l dC dI aH aM aW aC aR iW iR s.heap.size x (fX1_controlNumber p0) (fX0_exchanged ((fX1_f p0) &&& (3 : Int32)) (fX2_read (fX1_controlNumber p0) x) (fX1_a p0))) ⟨va_cnB 2 hB (good_in wX2_write) rfl rfl rfl (hN _ (List.mem_of_getElem? (i := 36) rfl)) (hB _ q_t1_3) hX2_write.2 ⟨Nat.le_of_ble_eq_true rfl, Nat.le_of_ble_eq_true rfl⟩, hB _ q_t2_183, hB _ q_s_32⟩ ⟨kM_blind NW_blind, va_recv hK hP (ci := 0) (q0 := 3) rfl rfl, kM_pre NW_warm hP hK hD hN⟩ rfl rfl hl.1 rfl (lv_room (Nat.le_of_ble_eq_true rfl)) dX4_exchangeControl_114 ⟨Nat.zero_le _, Nat.zero_le _⟩) hD hS hA (fun u H locs hw hP hD hS => ?_)
          obtain rfl := hw
          refine lv_aload_n hx hb dX4_exchangeControl_117 rfl (lv_at hl 6 rfl) ?_
          refine lv_iload_n hx hb dX4_exchangeControl_118 rfl (lv_at hl 7 rfl) ?_
          refine lv_iload hx hb dX4_exchangeControl_119 (lv_at hl 1 rfl) ?_
          refine k_mi (w := wD aH aM aW aC aR iW iR) wD_ad (va_runV (As := [.int p0, .int (fX2_read (fX1_controlNumber p0) x)]) (rest := []) ⟨hx, hb, hml, hown, hB⟩ (mX4_goOnWith l dC dI aH aM aW aC aR iW iR H.size (fX2_write (fX1_controlNumber p0) (fX0_exchanged ((fX1_f p0) &&& (3 : Int32)) (fX2_read (fX1_controlNumber p0) x) (fX1_a p0)) x) p0 (fX2_read (fX1_controlNumber p0) x)) (cwV 2 hB (gV q_t2_33 q_t2_35 q_s_13 q_t1_1 wX4_goOnWith) rfl rfl rfl hX4_goOnWith ⟨Nat.le_of_ble_eq_true rfl, Nat.le_of_ble_eq_true rfl⟩) ⟨kM_blind NW_blind, va_recv hK hP (ci := 2) (q0 := 0) rfl rfl, kM_pre NW_warm hP hK hD hN⟩ rfl rfl hl.1 rfl (lv_room (Nat.le_of_ble_eq_true rfl)) dX4_exchangeControl_121 ⟨Nat.zero_le _, Nat.zero_le _⟩) hD hS hA (fun r u H locs hw hP hD hS => ?_)
          obtain ⟨rfl, rfl⟩ := hw
          exact W.zret (v := bi (fX4_goOnWith p0 (fX2_read (fX1_controlNumber p0) x) (fX2_write (fX1_controlNumber p0) (fX0_exchanged ((fX1_f p0) &&& (3 : Int32)) (fX2_read (fX1_controlNumber p0) x) (fX1_a p0)) x)).1) hx hb hr (bi_nar _) (fun t ht hW => ⟨⟨bi (fX4_goOnWith p0 (fX2_read (fX1_controlNumber p0) x) (fX2_write (fX1_controlNumber p0) (fX0_exchanged ((fX1_f p0) &&& (3 : Int32)) (fX2_read (fX1_controlNumber p0) x) (fX1_a p0)) x)).1, ((fX4_goOnWith p0 (fX2_read (fX1_controlNumber p0) x) (fX2_write (fX1_controlNumber p0) (fX0_exchanged ((fX1_f p0) &&& (3 : Int32)) (fX2_read (fX1_controlNumber p0) x) (fX1_a p0)) x)).2), rfl, ⟨(by unfold fX4_exchangeControl; rw [if_pos c_14, if_neg c_51, if_neg c_56, if_neg c_82] <;> rfl), (by unfold fX4_exchangeControl; rw [if_pos c_14, if_neg c_51, if_neg c_56, if_neg c_82] <;> rfl)⟩, hpT ht hP⟩, hS.F ht⟩) hS.2.2 dX4_exchangeControl_124
      · refine lv_aload_n hx hb dX4_exchangeControl_59 rfl (lv_at hl 4 rfl) ?_
        refine lv_iload_n hx hb dX4_exchangeControl_60 rfl (lv_at hl 5 rfl) ?_
        refine k_mi (w := wD aH aM aW aC aR iW iR) wD_ad (va_runV (As := [.int p0]) (rest := []) ⟨hx, hb, hml, hown, hB⟩ (mX4_unknown l dC dI aH aM aW aC aR iW iR s.heap.size x p0) (cwV 1 hB (gV q_t2_58 q_t2_60 q_s_17 q_t1_1 wX4_unknown) rfl rfl rfl hX4_unknown ⟨Nat.le_of_ble_eq_true rfl, Nat.le_of_ble_eq_true rfl⟩) ⟨kM_blind NW_blind, va_recv hK hP (ci := 2) (q0 := 0) rfl rfl, kM_pre NW_warm hP hK hD hN⟩ rfl rfl hl.1 rfl (lv_room (Nat.le_of_ble_eq_true rfl)) dX4_exchangeControl_61 ⟨Nat.zero_le _, Nat.zero_le _⟩) hD hS hA (fun r u H locs hw hP hD hS => ?_)
        obtain ⟨rfl, rfl⟩ := hw
        exact W.zret (v := bi (fX4_unknown p0 x).1) hx hb hr (bi_nar _) (fun t ht hW => ⟨⟨bi (fX4_unknown p0 x).1, ((fX4_unknown p0 x).2), rfl, ⟨(by unfold fX4_exchangeControl; rw [if_pos c_14, if_neg c_51, if_pos c_56] <;> rfl), (by unfold fX4_exchangeControl; rw [if_pos c_14, if_neg c_51, if_pos c_56] <;> rfl)⟩, hpT ht hP⟩, hS.F ht⟩) hS.2.2 dX4_exchangeControl_64
  · refine lv_iload_n hx hb dX4_exchangeControl_17 rfl (lv_at hl 3 rfl) ?_
    refine k_ri (va_runSN (As := [.int p0]) (rest := []) ⟨hx, hb, hml, hown, hB⟩ (mX1_a l p0) ⟨va_cnB 1 hB (good_in wX1_a) rfl rfl rfl (hN _ (List.mem_of_getElem? (i := 18) rfl)) (hB _ q_t1_10) hX1_a.2 ⟨Nat.le_of_ble_eq_true rfl, Nat.le_of_ble_eq_true rfl⟩, hB _ q_t2_67, trivial⟩ ⟨fun _ _ _ _ q => q, fun U _ _ => ⟨rfl, trivial⟩⟩ rfl rfl hl.1 rfl (lv_room (Nat.le_of_ble_eq_true rfl)) dX4_exchangeControl_18 ⟨Nat.zero_le _, Nat.zero_le _⟩) ?_
    refine lv_if_eq (tgt := 28) hx hb dX4_exchangeControl_21 (by decide) (fun c_21 => ?_) (fun c_21 => ?_)
    · refine lv_iconst (v := 0) hx hb dX4_exchangeControl_28 (by decide) ?_
      refine lv_istore (lv' := [(4, .int (0 : Int32)), (3, .int (fX1_controlNumber p0)), (2, .int (fX1_f p0)), (0, .ref aH), (1, .int p0)]) hx hb dX4_exchangeControl_29 hl (by decide) rfl (fun ls hl => ?_)
      refine lv_iload hx hb dX4_exchangeControl_31 (lv_at hl 0 rfl) ?_
      refine lv_if_eq (tgt := 43) hx hb dX4_exchangeControl_33 (by decide) (fun _ => ?_) (fun h9 => absurd h9 (by decide))
      refine lv_iload_n hx hb dX4_exchangeControl_43 rfl (lv_at hl 1 rfl) ?_
      refine k_ri (va_runSN (As := [.int (fX1_controlNumber p0)]) (rest := []) ⟨hx, hb, hml, hown, hB⟩ (mX2_isKnown l (fX1_controlNumber p0)) ⟨va_cnB 1 hB (good_in wX2_isKnown) rfl rfl rfl (hN _ (List.mem_of_getElem? (i := 33) rfl)) (hB _ q_t1_3) hX2_isKnown.2 ⟨Nat.le_of_ble_eq_true rfl, Nat.le_of_ble_eq_true rfl⟩, hB _ q_t2_171, trivial⟩ ⟨fun _ _ _ _ q => q, fun U _ _ => ⟨rfl, trivial⟩⟩ rfl rfl hl.1 rfl (lv_room (Nat.le_of_ble_eq_true rfl)) dX4_exchangeControl_44 ⟨Nat.zero_le _, Nat.zero_le _⟩) ?_
      refine lv_istore (lv' := [(5, .int (bi (fX2_isKnown (fX1_controlNumber p0)))), (4, .int (0 : Int32)), (3, .int (fX1_controlNumber p0)), (2, .int (fX1_f p0)), (0, .ref aH), (1, .int p0)]) hx hb dX4_exchangeControl_47 hl (by decide) rfl (fun ls hl => ?_)
      refine lv_iload_n hx hb dX4_exchangeControl_49 rfl (lv_at hl 3 rfl) ?_
      refine lv_iconst (v := 4) hx hb dX4_exchangeControl_50 (by decide) ?_
      refine lv_icmp_eq (tgt := 59) hx hb dX4_exchangeControl_51 (by decide) (fun c_51 => ?_) (fun c_51 => ?_)
      · refine lv_aload_n hx hb dX4_exchangeControl_59 rfl (lv_at hl 4 rfl) ?_
        refine lv_iload_n hx hb dX4_exchangeControl_60 rfl (lv_at hl 5 rfl) ?_
        refine k_mi (w := wD aH aM aW aC aR iW iR) wD_ad (va_runV (As := [.int p0]) (rest := []) ⟨hx, hb, hml, hown, hB⟩ (mX4_unknown l dC dI aH aM aW aC aR iW iR s.heap.size x p0) (cwV 1 hB (gV q_t2_58 q_t2_60 q_s_17 q_t1_1 wX4_unknown) rfl rfl rfl hX4_unknown ⟨Nat.le_of_ble_eq_true rfl, Nat.le_of_ble_eq_true rfl⟩) ⟨kM_blind NW_blind, va_recv hK hP (ci := 2) (q0 := 0) rfl rfl, kM_pre NW_warm hP hK hD hN⟩ rfl rfl hl.1 rfl (lv_room (Nat.le_of_ble_eq_true rfl)) dX4_exchangeControl_61 ⟨Nat.zero_le _, Nat.zero_le _⟩) hD hS hA (fun r u H locs hw hP hD hS => ?_)
        obtain ⟨rfl, rfl⟩ := hw
        exact W.zret (v := bi (fX4_unknown p0 x).1) hx hb hr (bi_nar _) (fun t ht hW => ⟨⟨bi (fX4_unknown p0 x).1, ((fX4_unknown p0 x).2), rfl, ⟨(by unfold fX4_exchangeControl; rw [if_neg c_14, if_pos c_21, if_pos c_51] <;> rfl), (by unfold fX4_exchangeControl; rw [if_neg c_14, if_pos c_21, if_pos c_51] <;> rfl)⟩, hpT ht hP⟩, hS.F ht⟩) hS.2.2 dX4_exchangeControl_64
      · refine lv_iload hx hb dX4_exchangeControl_54 (lv_at hl 0 rfl) ?_
        refine lv_if_ne (tgt := 65) hx hb dX4_exchangeControl_56 (by decide) (fun c_56 => ?_) (fun c_56 => ?_)
        · refine lv_aload_n hx hb dX4_exchangeControl_65 rfl (lv_at hl 4 rfl) ?_
          refine va_get (D := (dC, dI)) (ci := 2) (v := .ref aC) (C := RX4) (T := TX4) (N := 7) hx hb hB iX4 hown hK hP 0 rfl rfl 1 (by decide) (hB _ q_t1_71) (fun _ h9 => h9) rfl dX4_exchangeControl_66 ?_
          refine lv_iload_n hx hb dX4_exchangeControl_69 rfl (lv_at hl 2 rfl) ?_
          refine k_ri (va_runVN (As := [.int (fX1_controlNumber p0)]) (rest := []) ⟨hx, hb, hml, hown, hB⟩ (mX2_read l dC dI aH aM aW aC aR iW iR x (fX1_controlNumber p0)) ⟨va_cnB 1 hB (good_in wX2_read) rfl rfl rfl (hN _ (List.mem_of_getElem? (i := 34) rfl)) (hB _ q_t1_3) hX2_read.2 ⟨Nat.le_of_ble_eq_true rfl, Nat.le_of_ble_eq_true rfl⟩, hB _ q_t2_176, hB _ q_s_31⟩ ⟨kP_blind NW_blind, va_recv hK hP (ci := 0) (q0 := 3) rfl rfl, kP_pre NW_warm hP hK hN⟩ rfl rfl hl.1 rfl (lv_room (Nat.le_of_ble_eq_true rfl)) dX4_exchangeControl_70 ⟨Nat.zero_le _, Nat.zero_le _⟩) ?_
          refine lv_istore (lv' := [(6, .int (fX2_read (fX1_controlNumber p0) x)), (5, .int (bi (fX2_isKnown (fX1_controlNumber p0)))), (4, .int (0 : Int32)), (3, .int (fX1_controlNumber p0)), (2, .int (fX1_f p0)), (0, .ref aH), (1, .int p0)]) hx hb dX4_exchangeControl_73 hl (by decide) rfl (fun ls hl => ?_)
          refine lv_iload hx hb dX4_exchangeControl_75 (lv_at hl 2 rfl) ?_
          refine lv_if_eq (tgt := 117) hx hb dX4_exchangeControl_77 (by decide) (fun _ => ?_) (fun h9 => absurd h9 (by decide))
          refine lv_aload_n hx hb dX4_exchangeControl_117 rfl (lv_at hl 5 rfl) ?_
          refine lv_iload_n hx hb dX4_exchangeControl_118 rfl (lv_at hl 6 rfl) ?_
          refine lv_iload hx hb dX4_exchangeControl_119 (lv_at hl 0 rfl) ?_
          refine k_mi (w := wD aH aM aW aC aR iW iR) wD_ad (va_runV (As := [.int p0, .int (fX2_read (fX1_controlNumber p0) x)]) (rest := []) ⟨hx, hb, hml, hown, hB⟩ (mX4_goOnWith l dC dI aH aM aW aC aR iW iR s.heap.size x p0 (fX2_read (fX1_controlNumber p0) x)) (cwV 2 hB (gV q_t2_33 q_t2_35 q_s_13 q_t1_1 wX4_goOnWith) rfl rfl rfl hX4_goOnWith ⟨Nat.le_of_ble_eq_true rfl, Nat.le_of_ble_eq_true rfl⟩) ⟨kM_blind NW_blind, va_recv hK hP (ci := 2) (q0 := 0) rfl rfl, kM_pre NW_warm hP hK hD hN⟩ rfl rfl hl.1 rfl (lv_room (Nat.le_of_ble_eq_true rfl)) dX4_exchangeControl_121 ⟨Nat.zero_le _, Nat.zero_le _⟩) hD hS hA (fun r u H locs hw hP hD hS => ?_)
          obtain ⟨rfl, rfl⟩ := hw
          exact W.zret (v := bi (fX4_goOnWith p0 (fX2_read (fX1_controlNumber p0) x) x).1) hx hb hr (bi_nar _) (fun t ht hW => ⟨⟨bi (fX4_goOnWith p0 (fX2_read (fX1_controlNumber p0) x) x).1, ((fX4_goOnWith p0 (fX2_read (fX1_controlNumber p0) x) x).2), rfl, ⟨(by unfold fX4_exchangeControl; rw [if_neg c_14, if_pos c_21, if_neg c_51, if_neg c_56] <;> rfl), (by unfold fX4_exchangeControl; rw [if_neg c_14, if_pos c_21, if_neg c_51, if_neg c_56] <;> rfl)⟩, hpT ht hP⟩, hS.F ht⟩) hS.2.2 dX4_exchangeControl_124
        · refine lv_aload_n hx hb dX4_exchangeControl_59 rfl (lv_at hl 4 rfl) ?_
          refine lv_iload_n hx hb dX4_exchangeControl_60 rfl (lv_at hl 5 rfl) ?_
          refine k_mi (w := wD aH aM aW aC aR iW iR) wD_ad (va_runV (As := [.int p0]) (rest := []) ⟨hx, hb, hml, hown, hB⟩ (mX4_unknown l dC dI aH aM aW aC aR iW iR s.heap.size x p0) (cwV 1 hB (gV q_t2_58 q_t2_60 q_s_17 q_t1_1 wX4_unknown) rfl rfl rfl hX4_unknown ⟨Nat.le_of_ble_eq_true rfl, Nat.le_of_ble_eq_true rfl⟩) ⟨kM_blind NW_blind, va_recv hK hP (ci := 2) (q0 := 0) rfl rfl, kM_pre NW_warm hP hK hD hN⟩ rfl rfl hl.1 rfl (lv_room (Nat.le_of_ble_eq_true rfl)) dX4_exchangeControl_61 ⟨Nat.zero_le _, Nat.zero_le _⟩) hD hS hA (fun r u H locs hw hP hD hS => ?_)
          obtain ⟨rfl, rfl⟩ := hw
          exact W.zret (v := bi (fX4_unknown p0 x).1) hx hb hr (bi_nar _) (fun t ht hW => ⟨⟨bi (fX4_unknown p0 x).1, ((fX4_unknown p0 x).2), rfl, ⟨(by unfold fX4_exchangeControl; rw [if_neg c_14, if_pos c_21, if_neg c_51, if_pos c_56] <;> rfl), (by unfold fX4_exchangeControl; rw [if_neg c_14, if_pos c_21, if_neg c_51, if_pos c_56] <;> rfl)⟩, hpT ht hP⟩, hS.F ht⟩) hS.2.2 dX4_exchangeControl_64
    · refine lv_iconst (v := 1) hx hb dX4_exchangeControl_24 (by decide) ?_
      refine lv_goto (tgt := 29) hx hb dX4_exchangeControl_25 (by decide) ?_
      refine lv_istore (lv' := [(4, .int (1 : Int32)), (3, .int (fX1_controlNumber p0)), (2, .int (fX1_f p0)), (0, .ref aH), (1, .int p0)]) hx hb dX4_exchangeControl_29 hl (by decide) rfl (fun ls hl => ?_)
      refine lv_iload hx hb dX4_exchangeControl_31 (lv_at hl 0 rfl) ?_
      refine lv_if_eq (tgt := 43) hx hb dX4_exchangeControl_33 (by decide) (fun h9 => absurd h9 (by decide)) (fun _ => ?_)
      refine lv_iload_n hx hb dX4_exchangeControl_36 rfl (lv_at hl 1 rfl) ?_
      refine k_ri (va_runSN (As := [.int (fX1_controlNumber p0)]) (rest := []) ⟨hx, hb, hml, hown, hB⟩ (mX2_isWritable l (fX1_controlNumber p0)) ⟨va_cnB 1 hB (good_in wX2_isWritable) rfl rfl rfl (hN _ (List.mem_of_getElem? (i := 32) rfl)) (hB _ q_t1_3) hX2_isWritable.2 ⟨Nat.le_of_ble_eq_true rfl, Nat.le_of_ble_eq_true rfl⟩, hB _ q_t2_168, trivial⟩ ⟨fun _ _ _ _ q => q, fun U _ _ => ⟨rfl, trivial⟩⟩ rfl rfl hl.1 rfl (lv_room (Nat.le_of_ble_eq_true rfl)) dX4_exchangeControl_37 ⟨Nat.zero_le _, Nat.zero_le _⟩) ?_
      refine lv_goto (tgt := 47) hx hb dX4_exchangeControl_40 (by decide) ?_
      refine lv_istore (lv' := [(5, .int (bi (fX2_isWritable (fX1_controlNumber p0)))), (4, .int (1 : Int32)), (3, .int (fX1_controlNumber p0)), (2, .int (fX1_f p0)), (0, .ref aH), (1, .int p0)]) hx hb dX4_exchangeControl_47 hl (by decide) rfl (fun ls hl => ?_)
      refine lv_iload_n hx hb dX4_exchangeControl_49 rfl (lv_at hl 3 rfl) ?_
      refine lv_iconst (v := 4) hx hb dX4_exchangeControl_50 (by decide) ?_
      refine lv_icmp_eq (tgt := 59) hx hb dX4_exchangeControl_51 (by decide) (fun c_51 => ?_) (fun c_51 => ?_)
      · refine lv_aload_n hx hb dX4_exchangeControl_59 rfl (lv_at hl 4 rfl) ?_
        refine lv_iload_n hx hb dX4_exchangeControl_60 rfl (lv_at hl 5 rfl) ?_
        refine k_mi (w := wD aH aM aW aC aR iW iR) wD_ad (va_runV (As := [.int p0]) (rest := []) ⟨hx, hb, hml, hown, hB⟩ (mX4_unknown l dC dI aH aM aW aC aR iW iR s.heap.size x p0) (cwV 1 hB (gV q_t2_58 q_t2_60 q_s_17 q_t1_1 wX4_unknown) rfl rfl rfl hX4_unknown ⟨Nat.le_of_ble_eq_true rfl, Nat.le_of_ble_eq_true rfl⟩) ⟨kM_blind NW_blind, va_recv hK hP (ci := 2) (q0 := 0) rfl rfl, kM_pre NW_warm hP hK hD hN⟩ rfl rfl hl.1 rfl (lv_room (Nat.le_of_ble_eq_true rfl)) dX4_exchangeControl_61 ⟨Nat.zero_le _, Nat.zero_le _⟩) hD hS hA (fun r u H locs hw hP hD hS => ?_)
        obtain ⟨rfl, rfl⟩ := hw
        exact W.zret (v := bi (fX4_unknown p0 x).1) hx hb hr (bi_nar _) (fun t ht hW => ⟨⟨bi (fX4_unknown p0 x).1, ((fX4_unknown p0 x).2), rfl, ⟨(by unfold fX4_exchangeControl; rw [if_neg c_14, if_neg c_21, if_pos c_51] <;> rfl), (by unfold fX4_exchangeControl; rw [if_neg c_14, if_neg c_21, if_pos c_51] <;> rfl)⟩, hpT ht hP⟩, hS.F ht⟩) hS.2.2 dX4_exchangeControl_64
      · refine lv_iload hx hb dX4_exchangeControl_54 (lv_at hl 0 rfl) ?_
        refine lv_if_ne (tgt := 65) hx hb dX4_exchangeControl_56 (by decide) (fun c_56 => ?_) (fun c_56 => ?_)
        · refine lv_aload_n hx hb dX4_exchangeControl_65 rfl (lv_at hl 4 rfl) ?_
          refine va_get (D := (dC, dI)) (ci := 2) (v := .ref aC) (C := RX4) (T := TX4) (N := 7) hx hb hB iX4 hown hK hP 0 rfl rfl 1 (by decide) (hB _ q_t1_71) (fun _ h9 => h9) rfl dX4_exchangeControl_66 ?_
          refine lv_iload_n hx hb dX4_exchangeControl_69 rfl (lv_at hl 2 rfl) ?_
          refine k_ri (va_runVN (As := [.int (fX1_controlNumber p0)]) (rest := []) ⟨hx, hb, hml, hown, hB⟩ (mX2_read l dC dI aH aM aW aC aR iW iR x (fX1_controlNumber p0)) ⟨va_cnB 1 hB (good_in wX2_read) rfl rfl rfl (hN _ (List.mem_of_getElem? (i := 34) rfl)) (hB _ q_t1_3) hX2_read.2 ⟨Nat.le_of_ble_eq_true rfl, Nat.le_of_ble_eq_true rfl⟩, hB _ q_t2_176, hB _ q_s_31⟩ ⟨kP_blind NW_blind, va_recv hK hP (ci := 0) (q0 := 3) rfl rfl, kP_pre NW_warm hP hK hN⟩ rfl rfl hl.1 rfl (lv_room (Nat.le_of_ble_eq_true rfl)) dX4_exchangeControl_70 ⟨Nat.zero_le _, Nat.zero_le _⟩) ?_
          refine lv_istore (lv' := [(6, .int (fX2_read (fX1_controlNumber p0) x)), (5, .int (bi (fX2_isWritable (fX1_controlNumber p0)))), (4, .int (1 : Int32)), (3, .int (fX1_controlNumber p0)), (2, .int (fX1_f p0)), (0, .ref aH), (1, .int p0)]) hx hb dX4_exchangeControl_73 hl (by decide) rfl (fun ls hl => ?_)
          refine lv_iload hx hb dX4_exchangeControl_75 (lv_at hl 2 rfl) ?_
          refine lv_if_eq (tgt := 117) hx hb dX4_exchangeControl_77 (by decide) (fun h9 => absurd h9 (by decide)) (fun _ => ?_)
          refine lv_iload_n hx hb dX4_exchangeControl_80 rfl (lv_at hl 4 rfl) ?_
          refine lv_iconst (v := 4) hx hb dX4_exchangeControl_81 (by decide) ?_
          refine lv_icmp_le (tgt := 92) hx hb dX4_exchangeControl_82 (by decide) (fun c_82 => ?_) (fun c_82 => ?_)
          · refine lv_aload_n hx hb dX4_exchangeControl_92 rfl (lv_at hl 5 rfl) ?_
            refine lv_iload_n hx hb dX4_exchangeControl_93 rfl (lv_at hl 6 rfl) ?_
            refine k_ri (va_runV (As := [.int p0]) (rest := []) ⟨hx, hb, hml, hown, hB⟩ (mX4_valueA l dC dI aH aM aW aC aR iW iR x p0) (cwV 1 hB (gV q_t2_62 q_t2_64 q_s_18 q_t1_1 wX4_valueA) rfl rfl rfl hX4_valueA ⟨Nat.le_of_ble_eq_true rfl, Nat.le_of_ble_eq_true rfl⟩) ⟨kP_blind NW_blind, va_recv hK hP (ci := 2) (q0 := 0) rfl rfl, kP_pre NW_warm hP hK hN⟩ rfl rfl hl.1 rfl (lv_room (Nat.le_of_ble_eq_true rfl)) dX4_exchangeControl_94 ⟨Nat.zero_le _, Nat.zero_le _⟩) ?_
            refine lv_istore (lv' := [(7, .int (fX4_valueA p0 x)), (6, .int (fX2_read (fX1_controlNumber p0) x)), (5, .int (bi (fX2_isWritable (fX1_controlNumber p0)))), (4, .int (1 : Int32)), (3, .int (fX1_controlNumber p0)), (2, .int (fX1_f p0)), (0, .ref aH), (1, .int p0)]) hx hb dX4_exchangeControl_97 hl (by decide) rfl (fun ls hl => ?_)
            refine lv_aload_n hx hb dX4_exchangeControl_99 rfl (lv_at hl 6 rfl) ?_
            refine va_get (D := (dC, dI)) (ci := 2) (v := .ref aC) (C := RX4) (T := TX4) (N := 7) hx hb hB iX4 hown hK hP 0 rfl rfl 1 (by decide) (hB _ q_t1_71) (fun _ h9 => h9) rfl dX4_exchangeControl_100 ?_
            refine lv_iload_n hx hb dX4_exchangeControl_103 rfl (lv_at hl 4 rfl) ?_
            refine lv_iload_n hx hb dX4_exchangeControl_104 rfl (lv_at hl 5 rfl) ?_
            refine lv_iconst (v := 3) hx hb dX4_exchangeControl_105 (by decide) ?_
            refine lv_iand hx hb dX4_exchangeControl_106 ?_
            refine lv_iload hx hb dX4_exchangeControl_107 (lv_at hl 1 rfl) ?_
            refine lv_iload hx hb dX4_exchangeControl_109 (lv_at hl 0 rfl) ?_
            refine k_ri (va_runSN (As := [.int ((fX1_f p0) &&& (3 : Int32)), .int (fX2_read (fX1_controlNumber p0) x), .int (fX4_valueA p0 x)]) (rest := [.int (fX1_controlNumber p0), .ref aC]) ⟨hx, hb, hml, hown, hB⟩ (mX0_exchanged l ((fX1_f p0) &&& (3 : Int32)) (fX2_read (fX1_controlNumber p0) x) (fX4_valueA p0 x)) ⟨va_cnB 3 hB (good_in wX0_exchanged) rfl rfl rfl (hN _ (List.mem_of_getElem? (i := 35) rfl)) (hB _ q_t1_11) hX0_exchanged.2 ⟨Nat.le_of_ble_eq_true rfl, Nat.le_of_ble_eq_true rfl⟩, hB _ q_t2_179, trivial⟩ ⟨fun _ _ _ _ q => q, fun U _ _ => ⟨rfl, trivial⟩⟩ rfl rfl hl.1 rfl (lv_room (Nat.le_of_ble_eq_true rfl)) dX4_exchangeControl_111 ⟨Nat.zero_le _, Nat.zero_le _⟩) ?_
            refine k_mv (w := wD aH aM aW aC aR iW iR) wD_ad (va_runVN (As := [.int (fX1_controlNumber p0), .int (fX0_exchanged ((fX1_f p0) &&& (3 : Int32)) (fX2_read (fX1_controlNumber p0) x) (fX4_valueA p0 x))]) (rest := []) ⟨hx, hb, hml, hown, hB⟩ (mX2_write l dC dI aH aM aW aC aR iW iR s.heap.size x (fX1_controlNumber p0) (fX0_exchanged ((fX1_f p0) &&& (3 : Int32)) (fX2_read (fX1_controlNumber p0) x) (fX4_valueA p0 x))) ⟨va_cnB 2 hB (good_in wX2_write) rfl rfl rfl (hN _ (List.mem_of_getElem? (i := 36) rfl)) (hB _ q_t1_3) hX2_write.2 ⟨Nat.le_of_ble_eq_true rfl, Nat.le_of_ble_eq_true rfl⟩, hB _ q_t2_183, hB _ q_s_32⟩ ⟨kM_blind NW_blind, va_recv hK hP (ci := 0) (q0 := 3) rfl rfl, kM_pre NW_warm hP hK hD hN⟩ rfl rfl hl.1 rfl (lv_room (Nat.le_of_ble_eq_true rfl)) dX4_exchangeControl_114 ⟨Nat.zero_le _, Nat.zero_le _⟩) hD hS hA (fun u H locs hw hP hD hS => ?_)
            obtain rfl := hw
            refine lv_aload_n hx hb dX4_exchangeControl_117 rfl (lv_at hl 6 rfl) ?_
            refine lv_iload_n hx hb dX4_exchangeControl_118 rfl (lv_at hl 7 rfl) ?_
            refine lv_iload hx hb dX4_exchangeControl_119 (lv_at hl 1 rfl) ?_
            refine k_mi (w := wD aH aM aW aC aR iW iR) wD_ad (va_runV (As := [.int p0, .int (fX2_read (fX1_controlNumber p0) x)]) (rest := []) ⟨hx, hb, hml, hown, hB⟩ (mX4_goOnWith l dC dI aH aM aW aC aR iW iR H.size (fX2_write (fX1_controlNumber p0) (fX0_exchanged ((fX1_f p0) &&& (3 : Int32)) (fX2_read (fX1_controlNumber p0) x) (fX4_valueA p0 x)) x) p0 (fX2_read (fX1_controlNumber p0) x)) (cwV 2 hB (gV q_t2_33 q_t2_35 q_s_13 q_t1_1 wX4_goOnWith) rfl rfl rfl hX4_goOnWith ⟨Nat.le_of_ble_eq_true rfl, Nat.le_of_ble_eq_true rfl⟩) ⟨kM_blind NW_blind, va_recv hK hP (ci := 2) (q0 := 0) rfl rfl, kM_pre NW_warm hP hK hD hN⟩ rfl rfl hl.1 rfl (lv_room (Nat.le_of_ble_eq_true rfl)) dX4_exchangeControl_121 ⟨Nat.zero_le _, Nat.zero_le _⟩) hD hS hA (fun r u H locs hw hP hD hS => ?_)
            obtain ⟨rfl, rfl⟩ := hw
            exact W.zret (v := bi (fX4_goOnWith p0 (fX2_read (fX1_controlNumber p0) x) (fX2_write (fX1_controlNumber p0) (fX0_exchanged ((fX1_f p0) &&& (3 : Int32)) (fX2_read (fX1_controlNumber p0) x) (fX4_valueA p0 x)) x)).1) hx hb hr (bi_nar _) (fun t ht hW => ⟨⟨bi (fX4_goOnWith p0 (fX2_read (fX1_controlNumber p0) x) (fX2_write (fX1_controlNumber p0) (fX0_exchanged ((fX1_f p0) &&& (3 : Int32)) (fX2_read (fX1_controlNumber p0) x) (fX4_valueA p0 x)) x)).1, ((fX4_goOnWith p0 (fX2_read (fX1_controlNumber p0) x) (fX2_write (fX1_controlNumber p0) (fX0_exchanged ((fX1_f p0) &&& (3 : Int32)) (fX2_read (fX1_controlNumber p0) x) (fX4_valueA p0 x)) x)).2), rfl, ⟨(by unfold fX4_exchangeControl; rw [if_neg c_14, if_neg c_21, if_neg c_51, if_neg c_56, if_pos c_82] <;> rfl), (by unfold fX4_exchangeControl; rw [if_neg c_14, if_neg c_21, if_neg c_51, if_neg c_56, if_pos c_82] <;> rfl)⟩, hpT ht hP⟩, hS.F ht⟩) hS.2.2 dX4_exchangeControl_124
          · refine lv_iload_n hx hb dX4_exchangeControl_85 rfl (lv_at hl 6 rfl) ?_
            refine k_ri (va_runSN (As := [.int p0]) (rest := []) ⟨hx, hb, hml, hown, hB⟩ (mX1_a l p0) ⟨va_cnB 1 hB (good_in wX1_a) rfl rfl rfl (hN _ (List.mem_of_getElem? (i := 18) rfl)) (hB _ q_t1_10) hX1_a.2 ⟨Nat.le_of_ble_eq_true rfl, Nat.le_of_ble_eq_true rfl⟩, hB _ q_t2_67, trivial⟩ ⟨fun _ _ _ _ q => q, fun U _ _ => ⟨rfl, trivial⟩⟩ rfl rfl hl.1 rfl (lv_room (Nat.le_of_ble_eq_true rfl)) dX4_exchangeControl_86 ⟨Nat.zero_le _, Nat.zero_le _⟩) ?_
            refine lv_goto (tgt := 97) hx hb dX4_exchangeControl_89 (by decide) ?_
            refine lv_istore (lv' := [(7, .int (fX1_a p0)), (6, .int (fX2_read (fX1_controlNumber p0) x)), (5, .int (bi (fX2_isWritable (fX1_controlNumber p0)))), (4, .int (1 : Int32)), (3, .int (fX1_controlNumber p0)), (2, .int (fX1_f p0)), (0, .ref aH), (1, .int p0)]) hx hb dX4_exchangeControl_97 hl (by decide) rfl (fun ls hl => ?_)
            refine lv_aload_n hx hb dX4_exchangeControl_99 rfl (lv_at hl 6 rfl) ?_
            refine va_get (D := (dC, dI)) (ci := 2) (v := .ref aC) (C := RX4) (T := TX4) (N := 7) hx hb hB iX4 hown hK hP 0 rfl rfl 1 (by decide) (hB _ q_t1_71) (fun _ h9 => h9) rfl dX4_exchangeControl_100 ?_
            refine lv_iload_n hx hb dX4_exchangeControl_103 rfl (lv_at hl 4 rfl) ?_
            refine lv_iload_n hx hb dX4_exchangeControl_104 rfl (lv_at hl 5 rfl) ?_
            refine lv_iconst (v := 3) hx hb dX4_exchangeControl_105 (by decide) ?_
            refine lv_iand hx hb dX4_exchangeControl_106 ?_
            refine lv_iload hx hb dX4_exchangeControl_107 (lv_at hl 1 rfl) ?_
            refine lv_iload hx hb dX4_exchangeControl_109 (lv_at hl 0 rfl) ?_
            refine k_ri (va_runSN (As := [.int ((fX1_f p0) &&& (3 : Int32)), .int (fX2_read (fX1_controlNumber p0) x), .int (fX1_a p0)]) (rest := [.int (fX1_controlNumber p0), .ref aC]) ⟨hx, hb, hml, hown, hB⟩ (mX0_exchanged l ((fX1_f p0) &&& (3 : Int32)) (fX2_read (fX1_controlNumber p0) x) (fX1_a p0)) ⟨va_cnB 3 hB (good_in wX0_exchanged) rfl rfl rfl (hN _ (List.mem_of_getElem? (i := 35) rfl)) (hB _ q_t1_11) hX0_exchanged.2 ⟨Nat.le_of_ble_eq_true rfl, Nat.le_of_ble_eq_true rfl⟩, hB _ q_t2_179, trivial⟩ ⟨fun _ _ _ _ q => q, fun U _ _ => ⟨rfl, trivial⟩⟩ rfl rfl hl.1 rfl (lv_room (Nat.le_of_ble_eq_true rfl)) dX4_exchangeControl_111 ⟨Nat.zero_le _, Nat.zero_le _⟩) ?_
            refine k_mv (w := wD aH aM aW aC aR iW iR) wD_ad (va_runVN (As := [.int (fX1_controlNumber p0), .int (fX0_exchanged ((fX1_f p0) &&& (3 : Int32)) (fX2_read (fX1_controlNumber p0) x) (fX1_a p0))]) (rest := []) ⟨hx, hb, hml, hown, hB⟩ (mX2_write l dC dI aH aM aW aC aR iW iR s.heap.size x (fX1_controlNumber p0) (fX0_exchanged ((fX1_f p0) &&& (3 : Int32)) (fX2_read (fX1_controlNumber p0) x) (fX1_a p0))) ⟨va_cnB 2 hB (good_in wX2_write) rfl rfl rfl (hN _ (List.mem_of_getElem? (i := 36) rfl)) (hB _ q_t1_3) hX2_write.2 ⟨Nat.le_of_ble_eq_true rfl, Nat.le_of_ble_eq_true rfl⟩, hB _ q_t2_183, hB _ q_s_32⟩ ⟨kM_blind NW_blind, va_recv hK hP (ci := 0) (q0 := 3) rfl rfl, kM_pre NW_warm hP hK hD hN⟩ rfl rfl hl.1 rfl (lv_room (Nat.le_of_ble_eq_true rfl)) dX4_exchangeControl_114 ⟨Nat.zero_le _, Nat.zero_le _⟩) hD hS hA (fun u H locs hw hP hD hS => ?_)
            obtain rfl := hw
            refine lv_aload_n hx hb dX4_exchangeControl_117 rfl (lv_at hl 6 rfl) ?_
            refine lv_iload_n hx hb dX4_exchangeControl_118 rfl (lv_at hl 7 rfl) ?_
            refine lv_iload hx hb dX4_exchangeControl_119 (lv_at hl 1 rfl) ?_
            refine k_mi (w := wD aH aM aW aC aR iW iR) wD_ad (va_runV (As := [.int p0, .int (fX2_read (fX1_controlNumber p0) x)]) (rest := []) ⟨hx, hb, hml, hown, hB⟩ (mX4_goOnWith l dC dI aH aM aW aC aR iW iR H.size (fX2_write (fX1_controlNumber p0) (fX0_exchanged ((fX1_f p0) &&& (3 : Int32)) (fX2_read (fX1_controlNumber p0) x) (fX1_a p0)) x) p0 (fX2_read (fX1_controlNumber p0) x)) (cwV 2 hB (gV q_t2_33 q_t2_35 q_s_13 q_t1_1 wX4_goOnWith) rfl rfl rfl hX4_goOnWith ⟨Nat.le_of_ble_eq_true rfl, Nat.le_of_ble_eq_true rfl⟩) ⟨kM_blind NW_blind, va_recv hK hP (ci := 2) (q0 := 0) rfl rfl, kM_pre NW_warm hP hK hD hN⟩ rfl rfl hl.1 rfl (lv_room (Nat.le_of_ble_eq_true rfl)) dX4_exchangeControl_121 ⟨Nat.zero_le _, Nat.zero_le _⟩) hD hS hA (fun r u H locs hw hP hD hS => ?_)
            obtain ⟨rfl, rfl⟩ := hw
            exact W.zret (v := bi (fX4_goOnWith p0 (fX2_read (fX1_controlNumber p0) x) (fX2_write (fX1_controlNumber p0) (fX0_exchanged ((fX1_f p0) &&& (3 : Int32)) (fX2_read (fX1_controlNumber p0) x) (fX1_a p0)) x)).1) hx hb hr (bi_nar _) (fun t ht hW => ⟨⟨bi (fX4_goOnWith p0 (fX2_read (fX1_controlNumber p0) x) (fX2_write (fX1_controlNumber p0) (fX0_exchanged ((fX1_f p0) &&& (3 : Int32)) (fX2_read (fX1_controlNumber p0) x) (fX1_a p0)) x)).1, ((fX4_goOnWith p0 (fX2_read (fX1_controlNumber p0) x) (fX2_write (fX1_controlNumber p0) (fX0_exchanged ((fX1_f p0) &&& (3 : Int32)) (fX2_read (fX1_controlNumber p0) x) (fX1_a p0)) x)).2), rfl, ⟨(by unfold fX4_exchangeControl; rw [if_neg c_14, if_neg c_21, if_neg c_51, if_neg c_56, if_neg c_82] <;> rfl), (by unfold fX4_exchangeControl; rw [if_neg c_14, if_neg c_21, if_neg c_51, if_neg c_56, if_neg c_82] <;> rfl)⟩, hpT ht hP⟩, hS.F ht⟩) hS.2.2 dX4_exchangeControl_124
        · refine lv_aload_n hx hb dX4_exchangeControl_59 rfl (lv_at hl 4 rfl) ?_
          refine lv_iload_n hx hb dX4_exchangeControl_60 rfl (lv_at hl 5 rfl) ?_
          refine k_mi (w := wD aH aM aW aC aR iW iR) wD_ad (va_runV (As := [.int p0]) (rest := []) ⟨hx, hb, hml, hown, hB⟩ (mX4_unknown l dC dI aH aM aW aC aR iW iR s.heap.size x p0) (cwV 1 hB (gV q_t2_58 q_t2_60 q_s_17 q_t1_1 wX4_unknown) rfl rfl rfl hX4_unknown ⟨Nat.le_of_ble_eq_true rfl, Nat.le_of_ble_eq_true rfl⟩) ⟨kM_blind NW_blind, va_recv hK hP (ci := 2) (q0 := 0) rfl rfl, kM_pre NW_warm hP hK hD hN⟩ rfl rfl hl.1 rfl (lv_room (Nat.le_of_ble_eq_true rfl)) dX4_exchangeControl_61 ⟨Nat.zero_le _, Nat.zero_le _⟩) hD hS hA (fun r u H locs hw hP hD hS => ?_)
          obtain ⟨rfl, rfl⟩ := hw
          exact W.zret (v := bi (fX4_unknown p0 x).1) hx hb hr (bi_nar _) (fun t ht hW => ⟨⟨bi (fX4_unknown p0 x).1, ((fX4_unknown p0 x).2), rfl, ⟨(by unfold fX4_exchangeControl; rw [if_neg c_14, if_neg c_21, if_neg c_51, if_pos c_56] <;> rfl), (by unfold fX4_exchangeControl; rw [if_neg c_14, if_neg c_21, if_neg c_51, if_pos c_56] <;> rfl)⟩, hpT ht hP⟩, hS.F ht⟩) hS.2.2 dX4_exchangeControl_64
