def fX5_change (x : SR) : SR := if ((fX5_bits (12 : Int32) (3 : Int32) x) &&& (3 : Int32)) = (1 : Int32) then
    if ((fX5_bits (12 : Int32) (3 : Int32) x) &&& (3 : Int32)) = 0 then
      fX5_none x
    else
      if (fX5_controlOf (fX5_bits (20 : Int32) (12 : Int32) x)) = (-1 : Int32) then
        fX5_none x
      else
        if (fX5_controlOf (fX5_bits (20 : Int32) (12 : Int32) x)) < (7 : Int32) then
          if (fX5_bits (12 : Int32) (3 : Int32) x) ≤ (3 : Int32) then
            fX5_lay (fX5_has (fX5_controlOf (fX5_bits (20 : Int32) (12 : Int32) x)) x) (fX5_become (fX5_controlOf (fX5_bits (20 : Int32) (12 : Int32) x)) ((r_reg x) (fX5_bits (15 : Int32) (5 : Int32) x).toNatClampNeg) x)
          else
            fX5_lay (fX5_has (fX5_controlOf (fX5_bits (20 : Int32) (12 : Int32) x)) x) (fX5_become (fX5_controlOf (fX5_bits (20 : Int32) (12 : Int32) x)) (fX5_bits (15 : Int32) (5 : Int32) x) x)
        else
          fX5_none x
  else
    if (fX5_bits (15 : Int32) (5 : Int32) x) = 0 then
      if ((fX5_bits (12 : Int32) (3 : Int32) x) &&& (3 : Int32)) = 0 then
        fX5_none x
      else
        if (fX5_controlOf (fX5_bits (20 : Int32) (12 : Int32) x)) = (-1 : Int32) then
          fX5_none x
        else
          if (fX5_bits (12 : Int32) (3 : Int32) x) ≤ (3 : Int32) then
            fX5_lay (fX5_has (fX5_controlOf (fX5_bits (20 : Int32) (12 : Int32) x)) x) x
          else
            fX5_lay (fX5_has (fX5_controlOf (fX5_bits (20 : Int32) (12 : Int32) x)) x) x
    else
      if ((fX5_bits (12 : Int32) (3 : Int32) x) &&& (3 : Int32)) = 0 then
        fX5_none x
      else
        if (fX5_controlOf (fX5_bits (20 : Int32) (12 : Int32) x)) = (-1 : Int32) then
          fX5_none x
        else
          if (fX5_controlOf (fX5_bits (20 : Int32) (12 : Int32) x)) < (7 : Int32) then
            if (fX5_bits (12 : Int32) (3 : Int32) x) ≤ (3 : Int32) then
              if ((fX5_bits (12 : Int32) (3 : Int32) x) &&& (3 : Int32)) = (2 : Int32) then
                fX5_lay (fX5_has (fX5_controlOf (fX5_bits (20 : Int32) (12 : Int32) x)) x) (fX5_become (fX5_controlOf (fX5_bits (20 : Int32) (12 : Int32) x)) ((fX5_has (fX5_controlOf (fX5_bits (20 : Int32) (12 : Int32) x)) x) ||| ((r_reg x) (fX5_bits (15 : Int32) (5 : Int32) x).toNatClampNeg)) x)
              else
                fX5_lay (fX5_has (fX5_controlOf (fX5_bits (20 : Int32) (12 : Int32) x)) x) (fX5_become (fX5_controlOf (fX5_bits (20 : Int32) (12 : Int32) x)) ((fX5_has (fX5_controlOf (fX5_bits (20 : Int32) (12 : Int32) x)) x) &&& (((r_reg x) (fX5_bits (15 : Int32) (5 : Int32) x).toNatClampNeg) ^^^ (-1 : Int32))) x)
            else
              if ((fX5_bits (12 : Int32) (3 : Int32) x) &&& (3 : Int32)) = (2 : Int32) then
                fX5_lay (fX5_has (fX5_controlOf (fX5_bits (20 : Int32) (12 : Int32) x)) x) (fX5_become (fX5_controlOf (fX5_bits (20 : Int32) (12 : Int32) x)) ((fX5_has (fX5_controlOf (fX5_bits (20 : Int32) (12 : Int32) x)) x) ||| (fX5_bits (15 : Int32) (5 : Int32) x)) x)
              else
                fX5_lay (fX5_has (fX5_controlOf (fX5_bits (20 : Int32) (12 : Int32) x)) x) (fX5_become (fX5_controlOf (fX5_bits (20 : Int32) (12 : Int32) x)) ((fX5_has (fX5_controlOf (fX5_bits (20 : Int32) (12 : Int32) x)) x) &&& ((fX5_bits (15 : Int32) (5 : Int32) x) ^^^ (-1 : Int32))) x)
          else
            fX5_none x
set_option maxHeartbeats 4000000 in
set_option maxRecDepth 100000 in
theorem mX5_change (l : Launch) (dC : Nat → ClassId) (dI : Nat → Nat → Nat) (bH bM bR bC jM jR jC : Nat) (sz : Nat) (x : SR) : Met l yX5_change wsX5_change ({ frames := 2, cells := 0, slots := 0, locals := 44 }) (va_Pc [.ref bH] (kM (dC, dI) [(jM, .int), (jR, .int), (jC, .int)] NT (wR bH bM bR bC jM jR jC x) sz)) (va_Qv (fun u => u = fX5_change x) (fun u t => va_P (dC, dI) vwCl (wR bH bM bR bC jM jR jC u) t.heap) (va_A (wR bH bM bR bC jM jR jC x) sz)) 0 0 (va_A (wR bH bM bR bC jM jR jC x) sz) := by
  refine Met.ofW (cc := cX5_change) (maxL := 7) (ret := none) (by decide) rfl ?_
  intro p e s m args below meth c s₁ B hml hv
  obtain ⟨rfl, hsz, hD0, hP, hK, hN⟩ := hv
  have hx := B.exec
  have hb := B.bytes
  have hr := B.returns
  have hB := fun (w : Cond) (h : w ∈ BIG) => atoms_spec (ws := wsX5_change) B.pre w (List.mem_cons_of_mem _ h)
  have hown : s.vm.findClass RX5 = some m.cls := findClass_of_methodNamed B.named
  have hlocks := B.notSynchronized
  subst hsz
  have hD := hD0.self (sz := s.heap.size)
  generalize hAe : va_A (wR bH bM bR bC jM jR jC x) s.heap.size = A at hD ⊢
  have hA : ∀ q : Nat, s.heap.size ≤ q → A q := fun q h => by rw [← hAe]; exact Or.inr h
  have hS : va_S A s.heap s.heap [] := va_S.rf
  have hl := lv_entry ([.ref bH]) (n := 7) (Nat.le_of_ble_eq_true rfl)
  rw [lg_entry_eq]
  generalize (lg_sl ([.ref bH]) ++ List.replicate (7 - (lg_sl ([.ref bH])).length) Slot.unset).toArray = ls at hl ⊢
  have hl : lv_has ls 7 [(0, .ref bH)] := hl
  refine lv_aload_n hx hb dX5_change_0 rfl (lv_at hl 0 rfl) ?_
  refine lv_bipush (v := 12) hx hb dX5_change_1 (by decide) ?_
  refine lv_iconst (v := 3) hx hb dX5_change_3 (by decide) ?_
  refine k_ri (va_runV (As := [.int (12 : Int32), .int (3 : Int32)]) (rest := []) ⟨hx, hb, hml, hown, hB⟩ (mX5_bits l dC dI bH bM bR bC jM jR jC x (12 : Int32) (3 : Int32)) (cwV 2 hB (gV q_t3_78 q_t3_80 q_s_37 q_t1_4 wX5_bits) rfl rfl rfl hX5_bits ⟨Nat.le_of_ble_eq_true rfl, Nat.le_of_ble_eq_true rfl⟩) ⟨kP_blind NT_blind, va_recv hK hP (ci := 3) (q0 := 0) rfl rfl, kP_pre NT_warm hP hK hN⟩ rfl rfl hl.1 rfl (lv_room (Nat.le_of_ble_eq_true rfl)) dX5_change_4 ⟨Nat.zero_le _, Nat.zero_le _⟩) ?_
  refine lv_istore_n (lv' := [(1, .int (fX5_bits (12 : Int32) (3 : Int32) x)), (0, .ref bH)]) hx hb dX5_change_7 rfl hl (by decide) rfl (fun ls hl => ?_)
  refine lv_aload_n hx hb dX5_change_8 rfl (lv_at hl 1 rfl) ?_
  refine lv_bipush (v := 20) hx hb dX5_change_9 (by decide) ?_
  refine lv_bipush (v := 12) hx hb dX5_change_11 (by decide) ?_
  refine k_ri (va_runV (As := [.int (20 : Int32), .int (12 : Int32)]) (rest := []) ⟨hx, hb, hml, hown, hB⟩ (mX5_bits l dC dI bH bM bR bC jM jR jC x (20 : Int32) (12 : Int32)) (cwV 2 hB (gV q_t3_78 q_t3_80 q_s_37 q_t1_4 wX5_bits) rfl rfl rfl hX5_bits ⟨Nat.le_of_ble_eq_true rfl, Nat.le_of_ble_eq_true rfl⟩) ⟨kP_blind NT_blind, va_recv hK hP (ci := 3) (q0 := 0) rfl rfl, kP_pre NT_warm hP hK hN⟩ rfl rfl hl.1 rfl (lv_room (Nat.le_of_ble_eq_true rfl)) dX5_change_13 ⟨Nat.zero_le _, Nat.zero_le _⟩) ?_
  refine k_ri (va_runS (As := [.int (fX5_bits (20 : Int32) (12 : Int32) x)]) (rest := []) ⟨hx, hb, hml, hown, hB⟩ (mX5_controlOf l (fX5_bits (20 : Int32) (12 : Int32) x)) (va_cwS 1 hB (gS q_t3_175 q_t3_176 q_t1_4 wX5_controlOf) rfl rfl rfl hX5_controlOf.2 ⟨Nat.le_of_ble_eq_true rfl, Nat.le_of_ble_eq_true rfl⟩) ⟨fun _ _ _ _ q => q, fun U _ _ => ⟨rfl, trivial⟩⟩ rfl rfl hl.1 rfl (lv_room (Nat.le_of_ble_eq_true rfl)) dX5_change_16 ⟨Nat.zero_le _, Nat.zero_le _⟩) ?_
  refine lv_istore_n (lv' := [(2, .int (fX5_controlOf (fX5_bits (20 : Int32) (12 : Int32) x))), (1, .int (fX5_bits (12 : Int32) (3 : Int32) x)), (0, .ref bH)]) hx hb dX5_change_19 rfl hl (by decide) rfl (fun ls hl => ?_)
  refine lv_aload_n hx hb dX5_change_20 rfl (lv_at hl 2 rfl) ?_
  refine lv_bipush (v := 15) hx hb dX5_change_21 (by decide) ?_
  refine lv_iconst (v := 5) hx hb dX5_change_23 (by decide) ?_
  refine k_ri (va_runV (As := [.int (15 : Int32), .int (5 : Int32)]) (rest := []) ⟨hx, hb, hml, hown, hB⟩ (mX5_bits l dC dI bH bM bR bC jM jR jC x (15 : Int32) (5 : Int32)) (cwV 2 hB (gV q_t3_78 q_t3_80 q_s_37 q_t1_4 wX5_bits) rfl rfl rfl hX5_bits ⟨Nat.le_of_ble_eq_true rfl, Nat.le_of_ble_eq_true rfl⟩) ⟨kP_blind NT_blind, va_recv hK hP (ci := 3) (q0 := 0) rfl rfl, kP_pre NT_warm hP hK hN⟩ rfl rfl hl.1 rfl (lv_room (Nat.le_of_ble_eq_true rfl)) dX5_change_24 ⟨Nat.zero_le _, Nat.zero_le _⟩) ?_
  refine lv_istore_n (lv' := [(3, .int (fX5_bits (15 : Int32) (5 : Int32) x)), (2, .int (fX5_controlOf (fX5_bits (20 : Int32) (12 : Int32) x))), (1, .int (fX5_bits (12 : Int32) (3 : Int32) x)), (0, .ref bH)]) hx hb dX5_change_27 rfl hl (by decide) rfl (fun ls hl => ?_)
  refine lv_iload_n hx hb dX5_change_28 rfl (lv_at hl 2 rfl) ?_
  refine lv_iconst (v := 3) hx hb dX5_change_29 (by decide) ?_
  refine lv_iand hx hb dX5_change_30 ?_
  refine lv_iconst (v := 1) hx hb dX5_change_31 (by decide) ?_
  refine lv_icmp_eq (tgt := 39) hx hb dX5_change_32 (by decide) (fun c_32 => ?_) (fun c_32 => ?_)
  · refine lv_iconst (v := 1) hx hb dX5_change_39 (by decide) ?_
    refine lv_goto (tgt := 44) hx hb dX5_change_40 (by decide) ?_
    refine lv_istore (lv' := [(4, .int (1 : Int32)), (3, .int (fX5_bits (15 : Int32) (5 : Int32) x)), (2, .int (fX5_controlOf (fX5_bits (20 : Int32) (12 : Int32) x))), (1, .int (fX5_bits (12 : Int32) (3 : Int32) x)), (0, .ref bH)]) hx hb dX5_change_44 hl (by decide) rfl (fun ls hl => ?_)
    refine lv_iload_n hx hb dX5_change_46 rfl (lv_at hl 3 rfl) ?_
    refine lv_iconst (v := 3) hx hb dX5_change_47 (by decide) ?_
    refine lv_iand hx hb dX5_change_48 ?_
    refine lv_if_eq (tgt := 68) hx hb dX5_change_49 (by decide) (fun c_49 => ?_) (fun c_49 => ?_)
    · refine lv_aload_n hx hb dX5_change_68 rfl (lv_at hl 4 rfl) ?_
      refine k_mv (w := wR bH bM bR bC jM jR jC) wR_ad (va_runV (As := []) (rest := []) ⟨hx, hb, hml, hown, hB⟩ (mX5_none l dC dI bH bM bR bC jM jR jC s.heap.size x) (cwV 0 hB (gV q_t3_102 q_t3_104 q_s_43 q_t1_4 wX5_none) rfl rfl rfl hX5_none ⟨Nat.le_of_ble_eq_true rfl, Nat.le_of_ble_eq_true rfl⟩) ⟨kM_blind NT_blind, va_recv hK hP (ci := 3) (q0 := 0) rfl rfl, kM_pre NT_warm hP hK hD hN⟩ rfl rfl hl.1 rfl (lv_room (Nat.le_of_ble_eq_true rfl)) dX5_change_69 ⟨Nat.zero_le _, Nat.zero_le _⟩) hD hS hA (fun u H locs hw hP hD hS => ?_)
      obtain rfl := hw
      exact W.vret hx hb hr (fun t ht hW => ⟨⟨(fX5_none x), rfl, (by unfold fX5_change; rw [if_pos c_32, if_pos c_49] <;> rfl), hpT ht hP⟩, hS.F ht⟩) hS.2.2 dX5_change_72
    · refine lv_iload_n hx hb dX5_change_52 rfl (lv_at hl 2 rfl) ?_
      refine lv_iconst (v := -1) hx hb dX5_change_53 (by decide) ?_
      refine lv_icmp_eq (tgt := 68) hx hb dX5_change_54 (by decide) (fun c_54 => ?_) (fun c_54 => ?_)
      · refine lv_aload_n hx hb dX5_change_68 rfl (lv_at hl 4 rfl) ?_
        refine k_mv (w := wR bH bM bR bC jM jR jC) wR_ad (va_runV (As := []) (rest := []) ⟨hx, hb, hml, hown, hB⟩ (mX5_none l dC dI bH bM bR bC jM jR jC s.heap.size x) (cwV 0 hB (gV q_t3_102 q_t3_104 q_s_43 q_t1_4 wX5_none) rfl rfl rfl hX5_none ⟨Nat.le_of_ble_eq_true rfl, Nat.le_of_ble_eq_true rfl⟩) ⟨kM_blind NT_blind, va_recv hK hP (ci := 3) (q0 := 0) rfl rfl, kM_pre NT_warm hP hK hD hN⟩ rfl rfl hl.1 rfl (lv_room (Nat.le_of_ble_eq_true rfl)) dX5_change_69 ⟨Nat.zero_le _, Nat.zero_le _⟩) hD hS hA (fun u H locs hw hP hD hS => ?_)
        obtain rfl := hw
        exact W.vret hx hb hr (fun t ht hW => ⟨⟨(fX5_none x), rfl, (by unfold fX5_change; rw [if_pos c_32, if_neg c_49, if_pos c_54] <;> rfl), hpT ht hP⟩, hS.F ht⟩) hS.2.2 dX5_change_72
      · refine lv_iload hx hb dX5_change_57 (lv_at hl 0 rfl) ?_
        refine lv_if_eq (tgt := 73) hx hb dX5_change_59 (by decide) (fun h9 => absurd h9 (by decide)) (fun _ => ?_)
        refine lv_iload_n hx hb dX5_change_62 rfl (lv_at hl 2 rfl) ?_
        refine lv_bipush (v := 7) hx hb dX5_change_63 (by decide) ?_
        refine lv_icmp_lt (tgt := 73) hx hb dX5_change_65 (by decide) (fun c_65 => ?_) (fun c_65 => ?_)
        · refine lv_iload_n hx hb dX5_change_73 rfl (lv_at hl 3 rfl) ?_
          refine lv_iconst (v := 3) hx hb dX5_change_74 (by decide) ?_
          refine lv_icmp_le (tgt := 82) hx hb dX5_change_75 (by decide) (fun c_75 => ?_) (fun c_75 => ?_)
          · refine lv_aload_n hx hb dX5_change_82 rfl (lv_at hl 4 rfl) ?_
            refine va_get (D := (dC, dI)) (ci := 3) (v := .ref bR) (C := RX5) (T := TX5) (N := 15) hx hb hB iX5 hown hK hP 0 rfl rfl 2 (by decide) (hB _ q_t2_233) (fun _ h9 => h9) rfl dX5_change_83 ?_
            refine lv_iload_n hx hb dX5_change_86 rfl (lv_at hl 1 rfl) ?_
            refine va_iald hx hb hK hP 2 1 rfl rfl (in_bits5 _ _) dX5_change_87 ?_
            refine lv_istore (lv' := [(5, .int ((r_reg x) (fX5_bits (15 : Int32) (5 : Int32) x).toNatClampNeg)), (4, .int (1 : Int32)), (3, .int (fX5_bits (15 : Int32) (5 : Int32) x)), (2, .int (fX5_controlOf (fX5_bits (20 : Int32) (12 : Int32) x))), (1, .int (fX5_bits (12 : Int32) (3 : Int32) x)), (0, .ref bH)]) hx hb dX5_change_88 hl (by decide) rfl (fun ls hl => ?_)
            refine lv_aload_n hx hb dX5_change_90 rfl (lv_at hl 5 rfl) ?_
            refine lv_iload_n hx hb dX5_change_91 rfl (lv_at hl 3 rfl) ?_
            refine k_ri (va_runV (As := [.int (fX5_controlOf (fX5_bits (20 : Int32) (12 : Int32) x))]) (rest := []) ⟨hx, hb, hml, hown, hB⟩ (mX5_has l dC dI bH bM bR bC jM jR jC x (fX5_controlOf (fX5_bits (20 : Int32) (12 : Int32) x)) (in_ctl c_54)) (cwV 1 hB (gV q_t3_178 q_t3_180 q_s_58 q_t1_4 wX5_has) rfl rfl rfl hX5_has ⟨Nat.le_of_ble_eq_true rfl, Nat.le_of_ble_eq_true rfl⟩) ⟨kP_blind NT_blind, va_recv hK hP (ci := 3) (q0 := 0) rfl rfl, kP_pre NT_warm hP hK hN⟩ rfl rfl hl.1 rfl (lv_room (Nat.le_of_ble_eq_true rfl)) dX5_change_92 ⟨Nat.zero_le _, Nat.zero_le _⟩) ?_
            refine lv_istore (lv' := [(6, .int (fX5_has (fX5_controlOf (fX5_bits (20 : Int32) (12 : Int32) x)) x)), (5, .int ((r_reg x) (fX5_bits (15 : Int32) (5 : Int32) x).toNatClampNeg)), (4, .int (1 : Int32)), (3, .int (fX5_bits (15 : Int32) (5 : Int32) x)), (2, .int (fX5_controlOf (fX5_bits (20 : Int32) (12 : Int32) x))), (1, .int (fX5_bits (12 : Int32) (3 : Int32) x)), (0, .ref bH)]) hx hb dX5_change_95 hl (by decide) rfl (fun ls hl => ?_)
            refine lv_iload hx hb dX5_change_97 (lv_at hl 2 rfl) ?_
            refine lv_if_eq (tgt := 141) hx hb dX5_change_99 (by decide) (fun h9 => absurd h9 (by decide)) (fun _ => ?_)
            refine lv_aload_n hx hb dX5_change_102 rfl (lv_at hl 6 rfl) ?_
            refine lv_iload_n hx hb dX5_change_103 rfl (lv_at hl 4 rfl) ?_
            refine lv_iload_n hx hb dX5_change_104 rfl (lv_at hl 5 rfl) ?_
            refine lv_iconst (v := 3) hx hb dX5_change_105 (by decide) ?_
            refine lv_iand hx hb dX5_change_106 ?_
            refine lv_iconst (v := 1) hx hb dX5_change_107 (by decide) ?_
            refine lv_icmp_ne (tgt := 116) hx hb dX5_change_108 (by decide) (fun h9 => absurd c_32 h9) (fun _ => ?_)
            refine lv_iload hx hb dX5_change_111 (lv_at hl 1 rfl) ?_
            refine lv_goto (tgt := 138) hx hb dX5_change_113 (by decide) ?_
            refine k_mv (w := wR bH bM bR bC jM jR jC) wR_ad (va_runV (As := [.int (fX5_controlOf (fX5_bits (20 : Int32) (12 : Int32) x)), .int ((r_reg x) (fX5_bits (15 : Int32) (5 : Int32) x).toNatClampNeg)]) (rest := []) ⟨hx, hb, hml, hown, hB⟩ (mX5_become l dC dI bH bM bR bC jM jR jC s.heap.size x (fX5_controlOf (fX5_bits (20 : Int32) (12 : Int32) x)) ((r_reg x) (fX5_bits (15 : Int32) (5 : Int32) x).toNatClampNeg) (in_ctl c_54)) (cwV 2 hB (gV q_t3_182 q_t3_184 q_s_59 q_t1_4 wX5_become) rfl rfl rfl hX5_become ⟨Nat.le_of_ble_eq_true rfl, Nat.le_of_ble_eq_true rfl⟩) ⟨kM_blind NT_blind, va_recv hK hP (ci := 3) (q0 := 0) rfl rfl, kM_pre NT_warm hP hK hD hN⟩ rfl rfl hl.1 rfl (lv_room (Nat.le_of_ble_eq_true rfl)) dX5_change_138 ⟨Nat.zero_le _, Nat.zero_le _⟩) hD hS hA (fun u H locs hw hP hD hS => ?_)
            obtain rfl := hw
            refine lv_aload_n hx hb dX5_change_141 rfl (lv_at hl 6 rfl) ?_
            refine lv_iload hx hb dX5_change_142 (lv_at hl 0 rfl) ?_
            refine k_mv (w := wR bH bM bR bC jM jR jC) wR_ad (va_runV (As := [.int (fX5_has (fX5_controlOf (fX5_bits (20 : Int32) (12 : Int32) x)) x)]) (rest := []) ⟨hx, hb, hml, hown, hB⟩ (mX5_lay l dC dI bH bM bR bC jM jR jC H.size (fX5_become (fX5_controlOf (fX5_bits (20 : Int32) (12 : Int32) x)) ((r_reg x) (fX5_bits (15 : Int32) (5 : Int32) x).toNatClampNeg) x) (fX5_has (fX5_controlOf (fX5_bits (20 : Int32) (12 : Int32) x)) x)) (cwV 1 hB (gV q_t3_86 q_t3_88 q_s_39 q_t1_4 wX5_lay) rfl rfl rfl hX5_lay ⟨Nat.le_of_ble_eq_true rfl, Nat.le_of_ble_eq_true rfl⟩) ⟨kM_blind NT_blind, va_recv hK hP (ci := 3) (q0 := 0) rfl rfl, kM_pre NT_warm hP hK hD hN⟩ rfl rfl hl.1 rfl (lv_room (Nat.le_of_ble_eq_true rfl)) dX5_change_144 ⟨Nat.zero_le _, Nat.zero_le _⟩) hD hS hA (fun u H locs hw hP hD hS => ?_)
            obtain rfl := hw
            exact W.vret hx hb hr (fun t ht hW => ⟨⟨(fX5_lay (fX5_has (fX5_controlOf (fX5_bits (20 : Int32) (12 : Int32) x)) x) (fX5_become (fX5_controlOf (fX5_bits (20 : Int32) (12 : Int32) x)) ((r_reg x) (fX5_bits (15 : Int32) (5 : Int32) x).toNatClampNeg) x)), rfl, (by unfold fX5_change; rw [if_pos c_32, if_neg c_49, if_neg c_54, if_pos c_65, if_pos c_75] <;> rfl), hpT ht hP⟩, hS.F ht⟩) hS.2.2 dX5_change_147
          · refine lv_iload_n hx hb dX5_change_78 rfl (lv_at hl 1 rfl) ?_
            refine lv_goto (tgt := 88) hx hb dX5_change_79 (by decide) ?_
            refine lv_istore (lv' := [(5, .int (fX5_bits (15 : Int32) (5 : Int32) x)), (4, .int (1 : Int32)), (3, .int (fX5_bits (15 : Int32) (5 : Int32) x)), (2, .int (fX5_controlOf (fX5_bits (20 : Int32) (12 : Int32) x))), (1, .int (fX5_bits (12 : Int32) (3 : Int32) x)), (0, .ref bH)]) hx hb dX5_change_88 hl (by decide) rfl (fun ls hl => ?_)
            refine lv_aload_n hx hb dX5_change_90 rfl (lv_at hl 5 rfl) ?_
            refine lv_iload_n hx hb dX5_change_91 rfl (lv_at hl 3 rfl) ?_
            refine k_ri (va_runV (As := [.int (fX5_controlOf (fX5_bits (20 : Int32) (12 : Int32) x))]) (rest := []) ⟨hx, hb, hml, hown, hB⟩ (mX5_has l dC dI bH bM bR bC jM jR jC x (fX5_controlOf (fX5_bits (20 : Int32) (12 : Int32) x)) (in_ctl c_54)) (cwV 1 hB (gV q_t3_178 q_t3_180 q_s_58 q_t1_4 wX5_has) rfl rfl rfl hX5_has ⟨Nat.le_of_ble_eq_true rfl, Nat.le_of_ble_eq_true rfl⟩) ⟨kP_blind NT_blind, va_recv hK hP (ci := 3) (q0 := 0) rfl rfl, kP_pre NT_warm hP hK hN⟩ rfl rfl hl.1 rfl (lv_room (Nat.le_of_ble_eq_true rfl)) dX5_change_92 ⟨Nat.zero_le _, Nat.zero_le _⟩) ?_
            refine lv_istore (lv' := [(6, .int (fX5_has (fX5_controlOf (fX5_bits (20 : Int32) (12 : Int32) x)) x)), (5, .int (fX5_bits (15 : Int32) (5 : Int32) x)), (4, .int (1 : Int32)), (3, .int (fX5_bits (15 : Int32) (5 : Int32) x)), (2, .int (fX5_controlOf (fX5_bits (20 : Int32) (12 : Int32) x))), (1, .int (fX5_bits (12 : Int32) (3 : Int32) x)), (0, .ref bH)]) hx hb dX5_change_95 hl (by decide) rfl (fun ls hl => ?_)
            refine lv_iload hx hb dX5_change_97 (lv_at hl 2 rfl) ?_
            refine lv_if_eq (tgt := 141) hx hb dX5_change_99 (by decide) (fun h9 => absurd h9 (by decide)) (fun _ => ?_)
            refine lv_aload_n hx hb dX5_change_102 rfl (lv_at hl 6 rfl) ?_
            refine lv_iload_n hx hb dX5_change_103 rfl (lv_at hl 4 rfl) ?_
            refine lv_iload_n hx hb dX5_change_104 rfl (lv_at hl 5 rfl) ?_
            refine lv_iconst (v := 3) hx hb dX5_change_105 (by decide) ?_
            refine lv_iand hx hb dX5_change_106 ?_
            refine lv_iconst (v := 1) hx hb dX5_change_107 (by decide) ?_
            refine lv_icmp_ne (tgt := 116) hx hb dX5_change_108 (by decide) (fun h9 => absurd c_32 h9) (fun _ => ?_)
            refine lv_iload hx hb dX5_change_111 (lv_at hl 1 rfl) ?_
            refine lv_goto (tgt := 138) hx hb dX5_change_113 (by decide) ?_
            refine k_mv (w := wR bH bM bR bC jM jR jC) wR_ad (va_runV (As := [.int (fX5_controlOf (fX5_bits (20 : Int32) (12 : Int32) x)), .int (fX5_bits (15 : Int32) (5 : Int32) x)]) (rest := []) ⟨hx, hb, hml, hown, hB⟩ (mX5_become l dC dI bH bM bR bC jM jR jC s.heap.size x (fX5_controlOf (fX5_bits (20 : Int32) (12 : Int32) x)) (fX5_bits (15 : Int32) (5 : Int32) x) (in_ctl c_54)) (cwV 2 hB (gV q_t3_182 q_t3_184 q_s_59 q_t1_4 wX5_become) rfl rfl rfl hX5_become ⟨Nat.le_of_ble_eq_true rfl, Nat.le_of_ble_eq_true rfl⟩) ⟨kM_blind NT_blind, va_recv hK hP (ci := 3) (q0 := 0) rfl rfl, kM_pre NT_warm hP hK hD hN⟩ rfl rfl hl.1 rfl (lv_room (Nat.le_of_ble_eq_true rfl)) dX5_change_138 ⟨Nat.zero_le _, Nat.zero_le _⟩) hD hS hA (fun u H locs hw hP hD hS => ?_)
            obtain rfl := hw
            refine lv_aload_n hx hb dX5_change_141 rfl (lv_at hl 6 rfl) ?_
            refine lv_iload hx hb dX5_change_142 (lv_at hl 0 rfl) ?_
            refine k_mv (w := wR bH bM bR bC jM jR jC) wR_ad (va_runV (As := [.int (fX5_has (fX5_controlOf (fX5_bits (20 : Int32) (12 : Int32) x)) x)]) (rest := []) ⟨hx, hb, hml, hown, hB⟩ (mX5_lay l dC dI bH bM bR bC jM jR jC H.size (fX5_become (fX5_controlOf (fX5_bits (20 : Int32) (12 : Int32) x)) (fX5_bits (15 : Int32) (5 : Int32) x) x) (fX5_has (fX5_controlOf (fX5_bits (20 : Int32) (12 : Int32) x)) x)) (cwV 1 hB (gV q_t3_86 q_t3_88 q_s_39 q_t1_4 wX5_lay) rfl rfl rfl hX5_lay ⟨Nat.le_of_ble_eq_true rfl, Nat.le_of_ble_eq_true rfl⟩) ⟨kM_blind NT_blind, va_recv hK hP (ci := 3) (q0 := 0) rfl rfl, kM_pre NT_warm hP hK hD hN⟩ rfl rfl hl.1 rfl (lv_room (Nat.le_of_ble_eq_true rfl)) dX5_change_144 ⟨Nat.zero_le _, Nat.zero_le _⟩) hD hS hA (fun u H locs hw hP hD hS => ?_)
            obtain rfl := hw
            exact W.vret hx hb hr (fun t ht hW => ⟨⟨(fX5_lay (fX5_has (fX5_controlOf (fX5_bits (20 : Int32) (12 : Int32) x)) x) (fX5_become (fX5_controlOf (fX5_bits (20 : Int32) (12 : Int32) x)) (fX5_bits (15 : Int32) (5 : Int32) x) x)), rfl, (by unfold fX5_change; rw [if_pos c_32, if_neg c_49, if_neg c_54, if_pos c_65, if_neg c_75] <;> rfl), hpT ht hP⟩, hS.F ht⟩) hS.2.2 dX5_change_147
        · refine lv_aload_n hx hb dX5_change_68 rfl (lv_at hl 4 rfl) ?_
          refine k_mv (w := wR bH bM bR bC jM jR jC) wR_ad (va_runV (As := []) (rest := []) ⟨hx, hb, hml, hown, hB⟩ (mX5_none l dC dI bH bM bR bC jM jR jC s.heap.size x) (cwV 0 hB (gV q_t3_102 q_t3_104 q_s_43 q_t1_4 wX5_none) rfl rfl rfl hX5_none ⟨Nat.le_of_ble_eq_true rfl, Nat.le_of_ble_eq_true rfl⟩) ⟨kM_blind NT_blind, va_recv hK hP (ci := 3) (q0 := 0) rfl rfl, kM_pre NT_warm hP hK hD hN⟩ rfl rfl hl.1 rfl (lv_room (Nat.le_of_ble_eq_true rfl)) dX5_change_69 ⟨Nat.zero_le _, Nat.zero_le _⟩) hD hS hA (fun u H locs hw hP hD hS => ?_)
          obtain rfl := hw
          exact W.vret hx hb hr (fun t ht hW => ⟨⟨(fX5_none x), rfl, (by unfold fX5_change; rw [if_pos c_32, if_neg c_49, if_neg c_54, if_neg c_65] <;> rfl), hpT ht hP⟩, hS.F ht⟩) hS.2.2 dX5_change_72
  · refine lv_iload_n hx hb dX5_change_35 rfl (lv_at hl 0 rfl) ?_
    refine lv_if_eq (tgt := 43) hx hb dX5_change_36 (by decide) (fun c_36 => ?_) (fun c_36 => ?_)
    · refine lv_iconst (v := 0) hx hb dX5_change_43 (by decide) ?_
      refine lv_istore (lv' := [(4, .int (0 : Int32)), (3, .int (fX5_bits (15 : Int32) (5 : Int32) x)), (2, .int (fX5_controlOf (fX5_bits (20 : Int32) (12 : Int32) x))), (1, .int (fX5_bits (12 : Int32) (3 : Int32) x)), (0, .ref bH)]) hx hb dX5_change_44 hl (by decide) rfl (fun ls hl => ?_)
      refine lv_iload_n hx hb dX5_change_46 rfl (lv_at hl 3 rfl) ?_
      refine lv_iconst (v := 3) hx hb dX5_change_47 (by decide) ?_
      refine lv_iand hx hb dX5_change_48 ?_
      refine lv_if_eq (tgt := 68) hx hb dX5_change_49 (by decide) (fun c_49 => ?_) (fun c_49 => ?_)
      · refine lv_aload_n hx hb dX5_change_68 rfl (lv_at hl 4 rfl) ?_
        refine k_mv (w := wR bH bM bR bC jM jR jC) wR_ad (va_runV (As := []) (rest := []) ⟨hx, hb, hml, hown, hB⟩ (mX5_none l dC dI bH bM bR bC jM jR jC s.heap.size x) (cwV 0 hB (gV q_t3_102 q_t3_104 q_s_43 q_t1_4 wX5_none) rfl rfl rfl hX5_none ⟨Nat.le_of_ble_eq_true rfl, Nat.le_of_ble_eq_true rfl⟩) ⟨kM_blind NT_blind, va_recv hK hP (ci := 3) (q0 := 0) rfl rfl, kM_pre NT_warm hP hK hD hN⟩ rfl rfl hl.1 rfl (lv_room (Nat.le_of_ble_eq_true rfl)) dX5_change_69 ⟨Nat.zero_le _, Nat.zero_le _⟩) hD hS hA (fun u H locs hw hP hD hS => ?_)
        obtain rfl := hw
        exact W.vret hx hb hr (fun t ht hW => ⟨⟨(fX5_none x), rfl, (by unfold fX5_change; rw [if_neg c_32, if_pos c_36, if_pos c_49] <;> rfl), hpT ht hP⟩, hS.F ht⟩) hS.2.2 dX5_change_72
      · refine lv_iload_n hx hb dX5_change_52 rfl (lv_at hl 2 rfl) ?_
        refine lv_iconst (v := -1) hx hb dX5_change_53 (by decide) ?_
        refine lv_icmp_eq (tgt := 68) hx hb dX5_change_54 (by decide) (fun c_54 => ?_) (fun c_54 => ?_)
        · refine lv_aload_n hx hb dX5_change_68 rfl (lv_at hl 4 rfl) ?_
          refine k_mv (w := wR bH bM bR bC jM jR jC) wR_ad (va_runV (As := []) (rest := []) ⟨hx, hb, hml, hown, hB⟩ (mX5_none l dC dI bH bM bR bC jM jR jC s.heap.size x) (cwV 0 hB (gV q_t3_102 q_t3_104 q_s_43 q_t1_4 wX5_none) rfl rfl rfl hX5_none ⟨Nat.le_of_ble_eq_true rfl, Nat.le_of_ble_eq_true rfl⟩) ⟨kM_blind NT_blind, va_recv hK hP (ci := 3) (q0 := 0) rfl rfl, kM_pre NT_warm hP hK hD hN⟩ rfl rfl hl.1 rfl (lv_room (Nat.le_of_ble_eq_true rfl)) dX5_change_69 ⟨Nat.zero_le _, Nat.zero_le _⟩) hD hS hA (fun u H locs hw hP hD hS => ?_)
          obtain rfl := hw
          exact W.vret hx hb hr (fun t ht hW => ⟨⟨(fX5_none x), rfl, (by unfold fX5_change; rw [if_neg c_32, if_pos c_36, if_neg c_49, if_pos c_54] <;> rfl), hpT ht hP⟩, hS.F ht⟩) hS.2.2 dX5_change_72
        · refine lv_iload hx hb dX5_change_57 (lv_at hl 0 rfl) ?_
          refine lv_if_eq (tgt := 73) hx hb dX5_change_59 (by decide) (fun _ => ?_) (fun h9 => absurd h9 (by decide))
          refine lv_iload_n hx hb dX5_change_73 rfl (lv_at hl 3 rfl) ?_
          refine lv_iconst (v := 3) hx hb dX5_change_74 (by decide) ?_
          refine lv_icmp_le (tgt := 82) hx hb dX5_change_75 (by decide) (fun c_75 => ?_) (fun c_75 => ?_)
          · refine lv_aload_n hx hb dX5_change_82 rfl (lv_at hl 4 rfl) ?_
            refine va_get (D := (dC, dI)) (ci := 3) (v := .ref bR) (C := RX5) (T := TX5) (N := 15) hx hb hB iX5 hown hK hP 0 rfl rfl 2 (by decide) (hB _ q_t2_233) (fun _ h9 => h9) rfl dX5_change_83 ?_
            refine lv_iload_n hx hb dX5_change_86 rfl (lv_at hl 1 rfl) ?_
            refine va_iald hx hb hK hP 2 1 rfl rfl (in_bits5 _ _) dX5_change_87 ?_
            refine lv_istore (lv' := [(5, .int ((r_reg x) (fX5_bits (15 : Int32) (5 : Int32) x).toNatClampNeg)), (4, .int (0 : Int32)), (3, .int (fX5_bits (15 : Int32) (5 : Int32) x)), (2, .int (fX5_controlOf (fX5_bits (20 : Int32) (12 : Int32) x))), (1, .int (fX5_bits (12 : Int32) (3 : Int32) x)), (0, .ref bH)]) hx hb dX5_change_88 hl (by decide) rfl (fun ls hl => ?_)
            refine lv_aload_n hx hb dX5_change_90 rfl (lv_at hl 5 rfl) ?_
            refine lv_iload_n hx hb dX5_change_91 rfl (lv_at hl 3 rfl) ?_
            refine k_ri (va_runV (As := [.int (fX5_controlOf (fX5_bits (20 : Int32) (12 : Int32) x))]) (rest := []) ⟨hx, hb, hml, hown, hB⟩ (mX5_has l dC dI bH bM bR bC jM jR jC x (fX5_controlOf (fX5_bits (20 : Int32) (12 : Int32) x)) (in_ctl c_54)) (cwV 1 hB (gV q_t3_178 q_t3_180 q_s_58 q_t1_4 wX5_has) rfl rfl rfl hX5_has ⟨Nat.le_of_ble_eq_true rfl, Nat.le_of_ble_eq_true rfl⟩) ⟨kP_blind NT_blind, va_recv hK hP (ci := 3) (q0 := 0) rfl rfl, kP_pre NT_warm hP hK hN⟩ rfl rfl hl.1 rfl (lv_room (Nat.le_of_ble_eq_true rfl)) dX5_change_92 ⟨Nat.zero_le _, Nat.zero_le _⟩) ?_
            refine lv_istore (lv' := [(6, .int (fX5_has (fX5_controlOf (fX5_bits (20 : Int32) (12 : Int32) x)) x)), (5, .int ((r_reg x) (fX5_bits (15 : Int32) (5 : Int32) x).toNatClampNeg)), (4, .int (0 : Int32)), (3, .int (fX5_bits (15 : Int32) (5 : Int32) x)), (2, .int (fX5_controlOf (fX5_bits (20 : Int32) (12 : Int32) x))), (1, .int (fX5_bits (12 : Int32) (3 : Int32) x)), (0, .ref bH)]) hx hb dX5_change_95 hl (by decide) rfl (fun ls hl => ?_)
            refine lv_iload hx hb dX5_change_97 (lv_at hl 2 rfl) ?_
            refine lv_if_eq (tgt := 141) hx hb dX5_change_99 (by decide) (fun _ => ?_) (fun h9 => absurd h9 (by decide))
            refine lv_aload_n hx hb dX5_change_141 rfl (lv_at hl 6 rfl) ?_
            refine lv_iload hx hb dX5_change_142 (lv_at hl 0 rfl) ?_
            refine k_mv (w := wR bH bM bR bC jM jR jC) wR_ad (va_runV (As := [.int (fX5_has (fX5_controlOf (fX5_bits (20 : Int32) (12 : Int32) x)) x)]) (rest := []) ⟨hx, hb, hml, hown, hB⟩ (mX5_lay l dC dI bH bM bR bC jM jR jC s.heap.size x (fX5_has (fX5_controlOf (fX5_bits (20 : Int32) (12 : Int32) x)) x)) (cwV 1 hB (gV q_t3_86 q_t3_88 q_s_39 q_t1_4 wX5_lay) rfl rfl rfl hX5_lay ⟨Nat.le_of_ble_eq_true rfl, Nat.le_of_ble_eq_true rfl⟩) ⟨kM_blind NT_blind, va_recv hK hP (ci := 3) (q0 := 0) rfl rfl, kM_pre NT_warm hP hK hD hN⟩ rfl rfl hl.1 rfl (lv_room (Nat.le_of_ble_eq_true rfl)) dX5_change_144 ⟨Nat.zero_le _, Nat.zero_le _⟩) hD hS hA (fun u H locs hw hP hD hS => ?_)
            obtain rfl := hw
            exact W.vret hx hb hr (fun t ht hW => ⟨⟨(fX5_lay (fX5_has (fX5_controlOf (fX5_bits (20 : Int32) (12 : Int32) x)) x) x), rfl, (by unfold fX5_change; rw [if_neg c_32, if_pos c_36, if_neg c_49, if_neg c_54, if_pos c_75] <;> rfl), hpT ht hP⟩, hS.F ht⟩) hS.2.2 dX5_change_147
          · refine lv_iload_n hx hb dX5_change_78 rfl (lv_at hl 1 rfl) ?_
            refine lv_goto (tgt := 88) hx hb dX5_change_79 (by decide) ?_
            refine lv_istore (lv' := [(5, .int (fX5_bits (15 : Int32) (5 : Int32) x)), (4, .int (0 : Int32)), (3, .int (fX5_bits (15 : Int32) (5 : Int32) x)), (2, .int (fX5_controlOf (fX5_bits (20 : Int32) (12 : Int32) x))), (1, .int (fX5_bits (12 : Int32) (3 : Int32) x)), (0, .ref bH)]) hx hb dX5_change_88 hl (by decide) rfl (fun ls hl => ?_)
            refine lv_aload_n hx hb dX5_change_90 rfl (lv_at hl 5 rfl) ?_
            refine lv_iload_n hx hb dX5_change_91 rfl (lv_at hl 3 rfl) ?_
            refine k_ri (va_runV (As := [.int (fX5_controlOf (fX5_bits (20 : Int32) (12 : Int32) x))]) (rest := []) ⟨hx, hb, hml, hown, hB⟩ (mX5_has l dC dI bH bM bR bC jM jR jC x (fX5_controlOf (fX5_bits (20 : Int32) (12 : Int32) x)) (in_ctl c_54)) (cwV 1 hB (gV q_t3_178 q_t3_180 q_s_58 q_t1_4 wX5_has) rfl rfl rfl hX5_has ⟨Nat.le_of_ble_eq_true rfl, Nat.le_of_ble_eq_true rfl⟩) ⟨kP_blind NT_blind, va_recv hK hP (ci := 3) (q0 := 0) rfl rfl, kP_pre NT_warm hP hK hN⟩ rfl rfl hl.1 rfl (lv_room (Nat.le_of_ble_eq_true rfl)) dX5_change_92 ⟨Nat.zero_le _, Nat.zero_le _⟩) ?_
            refine lv_istore (lv' := [(6, .int (fX5_has (fX5_controlOf (fX5_bits (20 : Int32) (12 : Int32) x)) x)), (5, .int (fX5_bits (15 : Int32) (5 : Int32) x)), (4, .int (0 : Int32)), (3, .int (fX5_bits (15 : Int32) (5 : Int32) x)), (2, .int (fX5_controlOf (fX5_bits (20 : Int32) (12 : Int32) x))), (1, .int (fX5_bits (12 : Int32) (3 : Int32) x)), (0, .ref bH)]) hx hb dX5_change_95 hl (by decide) rfl (fun ls hl => ?_)
            refine lv_iload hx hb dX5_change_97 (lv_at hl 2 rfl) ?_
            refine lv_if_eq (tgt := 141) hx hb dX5_change_99 (by decide) (fun _ => ?_) (fun h9 => absurd h9 (by decide))
            refine lv_aload_n hx hb dX5_change_141 rfl (lv_at hl 6 rfl) ?_
            refine lv_iload hx hb dX5_change_142 (lv_at hl 0 rfl) ?_
            refine k_mv (w := wR bH bM bR bC jM jR jC) wR_ad (va_runV (As := [.int (fX5_has (fX5_controlOf (fX5_bits (20 : Int32) (12 : Int32) x)) x)]) (rest := []) ⟨hx, hb, hml, hown, hB⟩ (mX5_lay l dC dI bH bM bR bC jM jR jC s.heap.size x (fX5_has (fX5_controlOf (fX5_bits (20 : Int32) (12 : Int32) x)) x)) (cwV 1 hB (gV q_t3_86 q_t3_88 q_s_39 q_t1_4 wX5_lay) rfl rfl rfl hX5_lay ⟨Nat.le_of_ble_eq_true rfl, Nat.le_of_ble_eq_true rfl⟩) ⟨kM_blind NT_blind, va_recv hK hP (ci := 3) (q0 := 0) rfl rfl, kM_pre NT_warm hP hK hD hN⟩ rfl rfl hl.1 rfl (lv_room (Nat.le_of_ble_eq_true rfl)) dX5_change_144 ⟨Nat.zero_le _, Nat.zero_le _⟩) hD hS hA (fun u H locs hw hP hD hS => ?_)
            obtain rfl := hw
            exact W.vret hx hb hr (fun t ht hW => ⟨⟨(fX5_lay (fX5_has (fX5_controlOf (fX5_bits (20 : Int32) (12 : Int32) x)) x) x), rfl, (by unfold fX5_change; rw [if_neg c_32, if_pos c_36, if_neg c_49, if_neg c_54, if_neg c_75] <;> rfl), hpT ht hP⟩, hS.F ht⟩) hS.2.2 dX5_change_147
    · refine lv_iconst (v := 1) hx hb dX5_change_39 (by decide) ?_
      refine lv_goto (tgt := 44) hx hb dX5_change_40 (by decide) ?_
      refine lv_istore (lv' := [(4, .int (1 : Int32)), (3, .int (fX5_bits (15 : Int32) (5 : Int32) x)), (2, .int (fX5_controlOf (fX5_bits (20 : Int32) (12 : Int32) x))), (1, .int (fX5_bits (12 : Int32) (3 : Int32) x)), (0, .ref bH)]) hx hb dX5_change_44 hl (by decide) rfl (fun ls hl => ?_)
      refine lv_iload_n hx hb dX5_change_46 rfl (lv_at hl 3 rfl) ?_
      refine lv_iconst (v := 3) hx hb dX5_change_47 (by decide) ?_
      refine lv_iand hx hb dX5_change_48 ?_
      refine lv_if_eq (tgt := 68) hx hb dX5_change_49 (by decide) (fun c_49 => ?_) (fun c_49 => ?_)
      · refine lv_aload_n hx hb dX5_change_68 rfl (lv_at hl 4 rfl) ?_
        refine k_mv (w := wR bH bM bR bC jM jR jC) wR_ad (va_runV (As := []) (rest := []) ⟨hx, hb, hml, hown, hB⟩ (mX5_none l dC dI bH bM bR bC jM jR jC s.heap.size x) (cwV 0 hB (gV q_t3_102 q_t3_104 q_s_43 q_t1_4 wX5_none) rfl rfl rfl hX5_none ⟨Nat.le_of_ble_eq_true rfl, Nat.le_of_ble_eq_true rfl⟩) ⟨kM_blind NT_blind, va_recv hK hP (ci := 3) (q0 := 0) rfl rfl, kM_pre NT_warm hP hK hD hN⟩ rfl rfl hl.1 rfl (lv_room (Nat.le_of_ble_eq_true rfl)) dX5_change_69 ⟨Nat.zero_le _, Nat.zero_le _⟩) hD hS hA (fun u H locs hw hP hD hS => ?_)
        obtain rfl := hw
        exact W.vret hx hb hr (fun t ht hW => ⟨⟨(fX5_none x), rfl, (by unfold fX5_change; rw [if_neg c_32, if_neg c_36, if_pos c_49] <;> rfl), hpT ht hP⟩, hS.F ht⟩) hS.2.2 dX5_change_72
      · refine lv_iload_n hx hb dX5_change_52 rfl (lv_at hl 2 rfl) ?_
        refine lv_iconst (v := -1) hx hb dX5_change_53 (by decide) ?_
        refine lv_icmp_eq (tgt := 68) hx hb dX5_change_54 (by decide) (fun c_54 => ?_) (fun c_54 => ?_)
        · refine lv_aload_n hx hb dX5_change_68 rfl (lv_at hl 4 rfl) ?_
          refine k_mv (w := wR bH bM bR bC jM jR jC) wR_ad (va_runV (As := []) (rest := []) ⟨hx, hb, hml, hown, hB⟩ (mX5_none l dC dI bH bM bR bC jM jR jC s.heap.size x) (cwV 0 hB (gV q_t3_102 q_t3_104 q_s_43 q_t1_4 wX5_none) rfl rfl rfl hX5_none ⟨Nat.le_of_ble_eq_true rfl, Nat.le_of_ble_eq_true rfl⟩) ⟨kM_blind NT_blind, va_recv hK hP (ci := 3) (q0 := 0) rfl rfl, kM_pre NT_warm hP hK hD hN⟩ rfl rfl hl.1 rfl (lv_room (Nat.le_of_ble_eq_true rfl)) dX5_change_69 ⟨Nat.zero_le _, Nat.zero_le _⟩) hD hS hA (fun u H locs hw hP hD hS => ?_)
          obtain rfl := hw
          exact W.vret hx hb hr (fun t ht hW => ⟨⟨(fX5_none x), rfl, (by unfold fX5_change; rw [if_neg c_32, if_neg c_36, if_neg c_49, if_pos c_54] <;> rfl), hpT ht hP⟩, hS.F ht⟩) hS.2.2 dX5_change_72
        · refine lv_iload hx hb dX5_change_57 (lv_at hl 0 rfl) ?_
          refine lv_if_eq (tgt := 73) hx hb dX5_change_59 (by decide) (fun h9 => absurd h9 (by decide)) (fun _ => ?_)
          refine lv_iload_n hx hb dX5_change_62 rfl (lv_at hl 2 rfl) ?_
          refine lv_bipush (v := 7) hx hb dX5_change_63 (by decide) ?_
          refine lv_icmp_lt (tgt := 73) hx hb dX5_change_65 (by decide) (fun c_65 => ?_) (fun c_65 => ?_)
          · refine lv_iload_n hx hb dX5_change_73 rfl (lv_at hl 3 rfl) ?_
            refine lv_iconst (v := 3) hx hb dX5_change_74 (by decide) ?_
            refine lv_icmp_le (tgt := 82) hx hb dX5_change_75 (by decide) (fun c_75 => ?_) (fun c_75 => ?_)
            · refine lv_aload_n hx hb dX5_change_82 rfl (lv_at hl 4 rfl) ?_
              refine va_get (D := (dC, dI)) (ci := 3) (v := .ref bR) (C := RX5) (T := TX5) (N := 15) hx hb hB iX5 hown hK hP 0 rfl rfl 2 (by decide) (hB _ q_t2_233) (fun _ h9 => h9) rfl dX5_change_83 ?_
              refine lv_iload_n hx hb dX5_change_86 rfl (lv_at hl 1 rfl) ?_
              refine va_iald hx hb hK hP 2 1 rfl rfl (in_bits5 _ _) dX5_change_87 ?_
              refine lv_istore (lv' := [(5, .int ((r_reg x) (fX5_bits (15 : Int32) (5 : Int32) x).toNatClampNeg)), (4, .int (1 : Int32)), (3, .int (fX5_bits (15 : Int32) (5 : Int32) x)), (2, .int (fX5_controlOf (fX5_bits (20 : Int32) (12 : Int32) x))), (1, .int (fX5_bits (12 : Int32) (3 : Int32) x)), (0, .ref bH)]) hx hb dX5_change_88 hl (by decide) rfl (fun ls hl => ?_)
              refine lv_aload_n hx hb dX5_change_90 rfl (lv_at hl 5 rfl) ?_
              refine lv_iload_n hx hb dX5_change_91 rfl (lv_at hl 3 rfl) ?_
              refine k_ri (va_runV (As := [.int (fX5_controlOf (fX5_bits (20 : Int32) (12 : Int32) x))]) (rest := []) ⟨hx, hb, hml, hown, hB⟩ (mX5_has l dC dI bH bM bR bC jM jR jC x (fX5_controlOf (fX5_bits (20 : Int32) (12 : Int32) x)) (in_ctl c_54)) (cwV 1 hB (gV q_t3_178 q_t3_180 q_s_58 q_t1_4 wX5_has) rfl rfl rfl hX5_has ⟨Nat.le_of_ble_eq_true rfl, Nat.le_of_ble_eq_true rfl⟩) ⟨kP_blind NT_blind, va_recv hK hP (ci := 3) (q0 := 0) rfl rfl, kP_pre NT_warm hP hK hN⟩ rfl rfl hl.1 rfl (lv_room (Nat.le_of_ble_eq_true rfl)) dX5_change_92 ⟨Nat.zero_le _, Nat.zero_le _⟩) ?_
              refine lv_istore (lv' := [(6, .int (fX5_has (fX5_controlOf (fX5_bits (20 : Int32) (12 : Int32) x)) x)), (5, .int ((r_reg x) (fX5_bits (15 : Int32) (5 : Int32) x).toNatClampNeg)), (4, .int (1 : Int32)), (3, .int (fX5_bits (15 : Int32) (5 : Int32) x)), (2, .int (fX5_controlOf (fX5_bits (20 : Int32) (12 : Int32) x))), (1, .int (fX5_bits (12 : Int32) (3 : Int32) x)), (0, .ref bH)]) hx hb dX5_change_95 hl (by decide) rfl (fun ls hl => ?_)
              refine lv_iload hx hb dX5_change_97 (lv_at hl 2 rfl) ?_
              refine lv_if_eq (tgt := 141) hx hb dX5_change_99 (by decide) (fun h9 => absurd h9 (by decide)) (fun _ => ?_)
              refine lv_aload_n hx hb dX5_change_102 rfl (lv_at hl 6 rfl) ?_
              refine lv_iload_n hx hb dX5_change_103 rfl (lv_at hl 4 rfl) ?_
              refine lv_iload_n hx hb dX5_change_104 rfl (lv_at hl 5 rfl) ?_
              refine lv_iconst (v := 3) hx hb dX5_change_105 (by decide) ?_
              refine lv_iand hx hb dX5_change_106 ?_
              refine lv_iconst (v := 1) hx hb dX5_change_107 (by decide) ?_
              refine lv_icmp_ne (tgt := 116) hx hb dX5_change_108 (by decide) (fun _ => ?_) (fun h9 => absurd h9 c_32)
              refine lv_iload_n hx hb dX5_change_116 rfl (lv_at hl 5 rfl) ?_
              refine lv_iconst (v := 3) hx hb dX5_change_117 (by decide) ?_
              refine lv_iand hx hb dX5_change_118 ?_
              refine lv_iconst (v := 2) hx hb dX5_change_119 (by decide) ?_
              refine lv_icmp_ne (tgt := 131) hx hb dX5_change_120 (by decide) (fun c_120 => ?_) (fun c_120 => ?_)
              · refine lv_iload hx hb dX5_change_131 (lv_at hl 0 rfl) ?_
                refine lv_iload hx hb dX5_change_133 (lv_at hl 1 rfl) ?_
                refine lv_iconst (v := -1) hx hb dX5_change_135 (by decide) ?_
                refine lv_ixor hx hb dX5_change_136 ?_
                refine lv_iand hx hb dX5_change_137 ?_
                refine k_mv (w := wR bH bM bR bC jM jR jC) wR_ad (va_runV (As := [.int (fX5_controlOf (fX5_bits (20 : Int32) (12 : Int32) x)), .int ((fX5_has (fX5_controlOf (fX5_bits (20 : Int32) (12 : Int32) x)) x) &&& (((r_reg x) (fX5_bits (15 : Int32) (5 : Int32) x).toNatClampNeg) ^^^ (-1 : Int32)))]) (rest := []) ⟨hx, hb, hml, hown, hB⟩ (mX5_become l dC dI bH bM bR bC jM jR jC s.heap.size x (fX5_controlOf (fX5_bits (20 : Int32) (12 : Int32) x)) ((fX5_has (fX5_controlOf (fX5_bits (20 : Int32) (12 : Int32) x)) x) &&& (((r_reg x) (fX5_bits (15 : Int32) (5 : Int32) x).toNatClampNeg) ^^^ (-1 : Int32))) (in_ctl c_54)) (cwV 2 hB (gV q_t3_182 q_t3_184 q_s_59 q_t1_4 wX5_become) rfl rfl rfl hX5_become ⟨Nat.le_of_ble_eq_true rfl, Nat.le_of_ble_eq_true rfl⟩) ⟨kM_blind NT_blind, va_recv hK hP (ci := 3) (q0 := 0) rfl rfl, kM_pre NT_warm hP hK hD hN⟩ rfl rfl hl.1 rfl (lv_room (Nat.le_of_ble_eq_true rfl)) dX5_change_138 ⟨Nat.zero_le _, Nat.zero_le _⟩) hD hS hA (fun u H locs hw hP hD hS => ?_)
                obtain rfl := hw
                refine lv_aload_n hx hb dX5_change_141 rfl (lv_at hl 6 rfl) ?_
                refine lv_iload hx hb dX5_change_142 (lv_at hl 0 rfl) ?_
                refine k_mv (w := wR bH bM bR bC jM jR jC) wR_ad (va_runV (As := [.int (fX5_has (fX5_controlOf (fX5_bits (20 : Int32) (12 : Int32) x)) x)]) (rest := []) ⟨hx, hb, hml, hown, hB⟩ (mX5_lay l dC dI bH bM bR bC jM jR jC H.size (fX5_become (fX5_controlOf (fX5_bits (20 : Int32) (12 : Int32) x)) ((fX5_has (fX5_controlOf (fX5_bits (20 : Int32) (12 : Int32) x)) x) &&& (((r_reg x) (fX5_bits (15 : Int32) (5 : Int32) x).toNatClampNeg) ^^^ (-1 : Int32))) x) (fX5_has (fX5_controlOf (fX5_bits (20 : Int32) (12 : Int32) x)) x)) (cwV 1 hB (gV q_t3_86 q_t3_88 q_s_39 q_t1_4 wX5_lay) rfl rfl rfl hX5_lay ⟨Nat.le_of_ble_eq_true rfl, Nat.le_of_ble_eq_true rfl⟩) ⟨kM_blind NT_blind, va_recv hK hP (ci := 3) (q0 := 0) rfl rfl, kM_pre NT_warm hP hK hD hN⟩ rfl rfl hl.1 rfl (lv_room (Nat.le_of_ble_eq_true rfl)) dX5_change_144 ⟨Nat.zero_le _, Nat.zero_le _⟩) hD hS hA (fun u H locs hw hP hD hS => ?_)
                obtain rfl := hw
                exact W.vret hx hb hr (fun t ht hW => ⟨⟨(fX5_lay (fX5_has (fX5_controlOf (fX5_bits (20 : Int32) (12 : Int32) x)) x) (fX5_become (fX5_controlOf (fX5_bits (20 : Int32) (12 : Int32) x)) ((fX5_has (fX5_controlOf (fX5_bits (20 : Int32) (12 : Int32) x)) x) &&& (((r_reg x) (fX5_bits (15 : Int32) (5 : Int32) x).toNatClampNeg) ^^^ (-1 : Int32))) x)), rfl, (by unfold fX5_change; rw [if_neg c_32, if_neg c_36, if_neg c_49, if_neg c_54, if_pos c_65, if_pos c_75, if_neg c_120] <;> rfl), hpT ht hP⟩, hS.F ht⟩) hS.2.2 dX5_change_147
              · refine lv_iload hx hb dX5_change_123 (lv_at hl 0 rfl) ?_
                refine lv_iload hx hb dX5_change_125 (lv_at hl 1 rfl) ?_
                refine lv_ior hx hb dX5_change_127 ?_
                refine lv_goto (tgt := 138) hx hb dX5_change_128 (by decide) ?_
                refine k_mv (w := wR bH bM bR bC jM jR jC) wR_ad (va_runV (As := [.int (fX5_controlOf (fX5_bits (20 : Int32) (12 : Int32) x)), .int ((fX5_has (fX5_controlOf (fX5_bits (20 : Int32) (12 : Int32) x)) x) ||| ((r_reg x) (fX5_bits (15 : Int32) (5 : Int32) x).toNatClampNeg))]) (rest := []) ⟨hx, hb, hml, hown, hB⟩ (mX5_become l dC dI bH bM bR bC jM jR jC s.heap.size x (fX5_controlOf (fX5_bits (20 : Int32) (12 : Int32) x)) ((fX5_has (fX5_controlOf (fX5_bits (20 : Int32) (12 : Int32) x)) x) ||| ((r_reg x) (fX5_bits (15 : Int32) (5 : Int32) x).toNatClampNeg)) (in_ctl c_54)) (cwV 2 hB (gV q_t3_182 q_t3_184 q_s_59 q_t1_4 wX5_become) rfl rfl rfl hX5_become ⟨Nat.le_of_ble_eq_true rfl, Nat.le_of_ble_eq_true rfl⟩) ⟨kM_blind NT_blind, va_recv hK hP (ci := 3) (q0 := 0) rfl rfl, kM_pre NT_warm hP hK hD hN⟩ rfl rfl hl.1 rfl (lv_room (Nat.le_of_ble_eq_true rfl)) dX5_change_138 ⟨Nat.zero_le _, Nat.zero_le _⟩) hD hS hA (fun u H locs hw hP hD hS => ?_)
                obtain rfl := hw
                refine lv_aload_n hx hb dX5_change_141 rfl (lv_at hl 6 rfl) ?_
                refine lv_iload hx hb dX5_change_142 (lv_at hl 0 rfl) ?_
                refine k_mv (w := wR bH bM bR bC jM jR jC) wR_ad (va_runV (As := [.int (fX5_has (fX5_controlOf (fX5_bits (20 : Int32) (12 : Int32) x)) x)]) (rest := []) ⟨hx, hb, hml, hown, hB⟩ (mX5_lay l dC dI bH bM bR bC jM jR jC H.size (fX5_become (fX5_controlOf (fX5_bits (20 : Int32) (12 : Int32) x)) ((fX5_has (fX5_controlOf (fX5_bits (20 : Int32) (12 : Int32) x)) x) ||| ((r_reg x) (fX5_bits (15 : Int32) (5 : Int32) x).toNatClampNeg)) x) (fX5_has (fX5_controlOf (fX5_bits (20 : Int32) (12 : Int32) x)) x)) (cwV 1 hB (gV q_t3_86 q_t3_88 q_s_39 q_t1_4 wX5_lay) rfl rfl rfl hX5_lay ⟨Nat.le_of_ble_eq_true rfl, Nat.le_of_ble_eq_true rfl⟩) ⟨kM_blind NT_blind, va_recv hK hP (ci := 3) (q0 := 0) rfl rfl, kM_pre NT_warm hP hK hD hN⟩ rfl rfl hl.1 rfl (lv_room (Nat.le_of_ble_eq_true rfl)) dX5_change_144 ⟨Nat.zero_le _, Nat.zero_le _⟩) hD hS hA (fun u H locs hw hP hD hS => ?_)
                obtain rfl := hw
                exact W.vret hx hb hr (fun t ht hW => ⟨⟨(fX5_lay (fX5_has (fX5_controlOf (fX5_bits (20 : Int32) (12 : Int32) x)) x) (fX5_become (fX5_controlOf (fX5_bits (20 : Int32) (12 : Int32) x)) ((fX5_has (fX5_controlOf (fX5_bits (20 : Int32) (12 : Int32) x)) x) ||| ((r_reg x) (fX5_bits (15 : Int32) (5 : Int32) x).toNatClampNeg)) x)), rfl, (by unfold fX5_change; rw [if_neg c_32, if_neg c_36, if_neg c_49, if_neg c_54, if_pos c_65, if_pos c_75, if_pos c_120] <;> rfl), hpT ht hP⟩, hS.F ht⟩) hS.2.2 dX5_change_147
            · refine lv_iload_n hx hb dX5_change_78 rfl (lv_at hl 1 rfl) ?_
              refine lv_goto (tgt := 88) hx hb dX5_change_79 (by decide) ?_
              refine lv_istore (lv' := [(5, .int (fX5_bits (15 : Int32) (5 : Int32) x)), (4, .int (1 : Int32)), (3, .int (fX5_bits (15 : Int32) (5 : Int32) x)), (2, .int (fX5_controlOf (fX5_bits (20 : Int32) (12 : Int32) x))), (1, .int (fX5_bits (12 : Int32) (3 : Int32) x)), (0, .ref bH)]) hx hb dX5_change_88 hl (by decide) rfl (fun ls hl => ?_)
              refine lv_aload_n hx hb dX5_change_90 rfl (lv_at hl 5 rfl) ?_
              refine lv_iload_n hx hb dX5_change_91 rfl (lv_at hl 3 rfl) ?_
              refine k_ri (va_runV (As := [.int (fX5_controlOf (fX5_bits (20 : Int32) (12 : Int32) x))]) (rest := []) ⟨hx, hb, hml, hown, hB⟩ (mX5_has l dC dI bH bM bR bC jM jR jC x (fX5_controlOf (fX5_bits (20 : Int32) (12 : Int32) x)) (in_ctl c_54)) (cwV 1 hB (gV q_t3_178 q_t3_180 q_s_58 q_t1_4 wX5_has) rfl rfl rfl hX5_has ⟨Nat.le_of_ble_eq_true rfl, Nat.le_of_ble_eq_true rfl⟩) ⟨kP_blind NT_blind, va_recv hK hP (ci := 3) (q0 := 0) rfl rfl, kP_pre NT_warm hP hK hN⟩ rfl rfl hl.1 rfl (lv_room (Nat.le_of_ble_eq_true rfl)) dX5_change_92 ⟨Nat.zero_le _, Nat.zero_le _⟩) ?_
              refine lv_istore (lv' := [(6, .int (fX5_has (fX5_controlOf (fX5_bits (20 : Int32) (12 : Int32) x)) x)), (5, .int (fX5_bits (15 : Int32) (5 : Int32) x)), (4, .int (1 : Int32)), (3, .int (fX5_bits (15 : Int32) (5 : Int32) x)), (2, .int (fX5_controlOf (fX5_bits (20 : Int32) (12 : Int32) x))), (1, .int (fX5_bits (12 : Int32) (3 : Int32) x)), (0, .ref bH)]) hx hb dX5_change_95 hl (by decide) rfl (fun ls hl => ?_)
              refine lv_iload hx hb dX5_change_97 (lv_at hl 2 rfl) ?_
              refine lv_if_eq (tgt := 141) hx hb dX5_change_99 (by decide) (fun h9 => absurd h9 (by decide)) (fun _ => ?_)
              refine lv_aload_n hx hb dX5_change_102 rfl (lv_at hl 6 rfl) ?_
              refine lv_iload_n hx hb dX5_change_103 rfl (lv_at hl 4 rfl) ?_
              refine lv_iload_n hx hb dX5_change_104 rfl (lv_at hl 5 rfl) ?_
              refine lv_iconst (v := 3) hx hb dX5_change_105 (by decide) ?_
              refine lv_iand hx hb dX5_change_106 ?_
              refine lv_iconst (v := 1) hx hb dX5_change_107 (by decide) ?_
              refine lv_icmp_ne (tgt := 116) hx hb dX5_change_108 (by decide) (fun _ => ?_) (fun h9 => absurd h9 c_32)
              refine lv_iload_n hx hb dX5_change_116 rfl (lv_at hl 5 rfl) ?_
              refine lv_iconst (v := 3) hx hb dX5_change_117 (by decide) ?_
              refine lv_iand hx hb dX5_change_118 ?_
              refine lv_iconst (v := 2) hx hb dX5_change_119 (by decide) ?_
              refine lv_icmp_ne (tgt := 131) hx hb dX5_change_120 (by decide) (fun c_120 => ?_) (fun c_120 => ?_)
              · refine lv_iload hx hb dX5_change_131 (lv_at hl 0 rfl) ?_
                refine lv_iload hx hb dX5_change_133 (lv_at hl 1 rfl) ?_
                refine lv_iconst (v := -1) hx hb dX5_change_135 (by decide) ?_
                refine lv_ixor hx hb dX5_change_136 ?_
                refine lv_iand hx hb dX5_change_137 ?_
                refine k_mv (w := wR bH bM bR bC jM jR jC) wR_ad (va_runV (As := [.int (fX5_controlOf (fX5_bits (20 : Int32) (12 : Int32) x)), .int ((fX5_has (fX5_controlOf (fX5_bits (20 : Int32) (12 : Int32) x)) x) &&& ((fX5_bits (15 : Int32) (5 : Int32) x) ^^^ (-1 : Int32)))]) (rest := []) ⟨hx, hb, hml, hown, hB⟩ (mX5_become l dC dI bH bM bR bC jM jR jC s.heap.size x (fX5_controlOf (fX5_bits (20 : Int32) (12 : Int32) x)) ((fX5_has (fX5_controlOf (fX5_bits (20 : Int32) (12 : Int32) x)) x) &&& ((fX5_bits (15 : Int32) (5 : Int32) x) ^^^ (-1 : Int32))) (in_ctl c_54)) (cwV 2 hB (gV q_t3_182 q_t3_184 q_s_59 q_t1_4 wX5_become) rfl rfl rfl hX5_become ⟨Nat.le_of_ble_eq_true rfl, Nat.le_of_ble_eq_true rfl⟩) ⟨kM_blind NT_blind, va_recv hK hP (ci := 3) (q0 := 0) rfl rfl, kM_pre NT_warm hP hK hD hN⟩ rfl rfl hl.1 rfl (lv_room (Nat.le_of_ble_eq_true rfl)) dX5_change_138 ⟨Nat.zero_le _, Nat.zero_le _⟩) hD hS hA (fun u H locs hw hP hD hS => ?_)
                obtain rfl := hw
                refine lv_aload_n hx hb dX5_change_141 rfl (lv_at hl 6 rfl) ?_
                refine lv_iload hx hb dX5_change_142 (lv_at hl 0 rfl) ?_
                refine k_mv (w := wR bH bM bR bC jM jR jC) wR_ad (va_runV (As := [.int (fX5_has (fX5_controlOf (fX5_bits (20 : Int32) (12 : Int32) x)) x)]) (rest := []) ⟨hx, hb, hml, hown, hB⟩ (mX5_lay l dC dI bH bM bR bC jM jR jC H.size (fX5_become (fX5_controlOf (fX5_bits (20 : Int32) (12 : Int32) x)) ((fX5_has (fX5_controlOf (fX5_bits (20 : Int32) (12 : Int32) x)) x) &&& ((fX5_bits (15 : Int32) (5 : Int32) x) ^^^ (-1 : Int32))) x) (fX5_has (fX5_controlOf (fX5_bits (20 : Int32) (12 : Int32) x)) x)) (cwV 1 hB (gV q_t3_86 q_t3_88 q_s_39 q_t1_4 wX5_lay) rfl rfl rfl hX5_lay ⟨Nat.le_of_ble_eq_true rfl, Nat.le_of_ble_eq_true rfl⟩) ⟨kM_blind NT_blind, va_recv hK hP (ci := 3) (q0 := 0) rfl rfl, kM_pre NT_warm hP hK hD hN⟩ rfl rfl hl.1 rfl (lv_room (Nat.le_of_ble_eq_true rfl)) dX5_change_144 ⟨Nat.zero_le _, Nat.zero_le _⟩) hD hS hA (fun u H locs hw hP hD hS => ?_)
                obtain rfl := hw
                exact W.vret hx hb hr (fun t ht hW => ⟨⟨(fX5_lay (fX5_has (fX5_controlOf (fX5_bits (20 : Int32) (12 : Int32) x)) x) (fX5_become (fX5_controlOf (fX5_bits (20 : Int32) (12 : Int32) x)) ((fX5_has (fX5_controlOf (fX5_bits (20 : Int32) (12 : Int32) x)) x) &&& ((fX5_bits (15 : Int32) (5 : Int32) x) ^^^ (-1 : Int32))) x)), rfl, (by unfold fX5_change; rw [if_neg c_32, if_neg c_36, if_neg c_49, if_neg c_54, if_pos c_65, if_neg c_75, if_neg c_120] <;> rfl), hpT ht hP⟩, hS.F ht⟩) hS.2.2 dX5_change_147
              · refine lv_iload hx hb dX5_change_123 (lv_at hl 0 rfl) ?_
                refine lv_iload hx hb dX5_change_125 (lv_at hl 1 rfl) ?_
                refine lv_ior hx hb dX5_change_127 ?_
                refine lv_goto (tgt := 138) hx hb dX5_change_128 (by decide) ?_
                refine k_mv (w := wR bH bM bR bC jM jR jC) wR_ad (va_runV (As := [.int (fX5_controlOf (fX5_bits (20 : Int32) (12 : Int32) x)), .int ((fX5_has (fX5_controlOf (fX5_bits (20 : Int32) (12 : Int32) x)) x) ||| (fX5_bits (15 : Int32) (5 : Int32) x))]) (rest := []) ⟨hx, hb, hml, hown, hB⟩ (mX5_become l dC dI bH bM bR bC jM jR jC s.heap.size x (fX5_controlOf (fX5_bits (20 : Int32) (12 : Int32) x)) ((fX5_has (fX5_controlOf (fX5_bits (20 : Int32) (12 : Int32) x)) x) ||| (fX5_bits (15 : Int32) (5 : Int32) x)) (in_ctl c_54)) (cwV 2 hB (gV q_t3_182 q_t3_184 q_s_59 q_t1_4 wX5_become) rfl rfl rfl hX5_become ⟨Nat.le_of_ble_eq_true rfl, Nat.le_of_ble_eq_true rfl⟩) ⟨kM_blind NT_blind, va_recv hK hP (ci := 3) (q0 := 0) rfl rfl, kM_pre NT_warm hP hK hD hN⟩ rfl rfl hl.1 rfl (lv_room (Nat.le_of_ble_eq_true rfl)) dX5_change_138 ⟨Nat.zero_le _, Nat.zero_le _⟩) hD hS hA (fun u H locs hw hP hD hS => ?_)
                obtain rfl := hw
                refine lv_aload_n hx hb dX5_change_141 rfl (lv_at hl 6 rfl) ?_
                refine lv_iload hx hb dX5_change_142 (lv_at hl 0 rfl) ?_
                refine k_mv (w := wR bH bM bR bC jM jR jC) wR_ad (va_runV (As := [.int (fX5_has (fX5_controlOf (fX5_bits (20 : Int32) (12 : Int32) x)) x)]) (rest := []) ⟨hx, hb, hml, hown, hB⟩ (mX5_lay l dC dI bH bM bR bC jM jR jC H.size (fX5_become (fX5_controlOf (fX5_bits (20 : Int32) (12 : Int32) x)) ((fX5_has (fX5_controlOf (fX5_bits (20 : Int32) (12 : Int32) x)) x) ||| (fX5_bits (15 : Int32) (5 : Int32) x)) x) (fX5_has (fX5_controlOf (fX5_bits (20 : Int32) (12 : Int32) x)) x)) (cwV 1 hB (gV q_t3_86 q_t3_88 q_s_39 q_t1_4 wX5_lay) rfl rfl rfl hX5_lay ⟨Nat.le_of_ble_eq_true rfl, Nat.le_of_ble_eq_true rfl⟩) ⟨kM_blind NT_blind, va_recv hK hP (ci := 3) (q0 := 0) rfl rfl, kM_pre NT_warm hP hK hD hN⟩ rfl rfl hl.1 rfl (lv_room (Nat.le_of_ble_eq_true rfl)) dX5_change_144 ⟨Nat.zero_le _, Nat.zero_le _⟩) hD hS hA (fun u H locs hw hP hD hS => ?_)
                obtain rfl := hw
                exact W.vret hx hb hr (fun t ht hW => ⟨⟨(fX5_lay (fX5_has (fX5_controlOf (fX5_bits (20 : Int32) (12 : Int32) x)) x) (fX5_become (fX5_controlOf (fX5_bits (20 : Int32) (12 : Int32) x)) ((fX5_has (fX5_controlOf (fX5_bits (20 : Int32) (12 : Int32) x)) x) ||| (fX5_bits (15 : Int32) (5 : Int32) x)) x)), rfl, (by unfold fX5_change; rw [if_neg c_32, if_neg c_36, if_neg c_49, if_neg c_54, if_pos c_65, if_neg c_75, if_pos c_120] <;> rfl), hpT ht hP⟩, hS.F ht⟩) hS.2.2 dX5_change_147
          · refine lv_aload_n hx hb dX5_change_68 rfl (lv_at hl 4 rfl) ?_
            refine k_mv (w := wR bH bM bR bC jM jR jC) wR_ad (va_runV (As := []) (rest := []) ⟨hx, hb, hml, hown, hB⟩ (mX5_none l dC dI bH bM bR bC jM jR jC s.heap.size x) (cwV 0 hB (gV q_t3_102 q_t3_104 q_s_43 q_t1_4 wX5_none) rfl rfl rfl hX5_none ⟨Nat.le_of_ble_eq_true rfl, Nat.le_of_ble_eq_true rfl⟩) ⟨kM_blind NT_blind, va_recv hK hP (ci := 3) (q0 := 0) rfl rfl, kM_pre NT_warm hP hK hD hN⟩ rfl rfl hl.1 rfl (lv_room (Nat.le_of_ble_eq_true rfl)) dX5_change_69 ⟨Nat.zero_le _, Nat.zero_le _⟩) hD hS hA (fun u H locs hw hP hD hS => ?_)
            obtain rfl := hw
            exact W.vret hx hb hr (fun t ht hW => ⟨⟨(fX5_none x), rfl, (by unfold fX5_change; rw [if_neg c_32, if_neg c_36, if_neg c_49, if_neg c_54, if_neg c_65] <;> rfl), hpT ht hP⟩, hS.F ht⟩) hS.2.2 dX5_change_72
def fX5_system (x : SR) : SR := if (r_word x) = (115 : Int32) then
    fX5_trap (11 : Int32) (0 : Int32) x
  else
    if (r_word x) = (1048691 : Int32) then
      fX5_trap (3 : Int32) (r_pc x) x
    else
      if (r_word x) = (807403635 : Int32) then
        t_next (t_ctl x (upd (r_ctl x) (0 : Int32).toNatClampNeg (((((r_ctl x) (0 : Int32).toNatClampNeg) >>> ((4 : Int32) &&& 31)) &&& (8 : Int32)) ||| (128 : Int32)))) ((upd (r_ctl x) (0 : Int32).toNatClampNeg (((((r_ctl x) (0 : Int32).toNatClampNeg) >>> ((4 : Int32) &&& 31)) &&& (8 : Int32)) ||| (128 : Int32))) (4 : Int32).toNatClampNeg)
      else
        fX5_change x
set_option maxHeartbeats 4000000 in
set_option maxRecDepth 100000 in
theorem mX5_system (l : Launch) (dC : Nat → ClassId) (dI : Nat → Nat → Nat) (bH bM bR bC jM jR jC : Nat) (sz : Nat) (x : SR) : Met l yX5_system wsX5_system ({ frames := 3, cells := 0, slots := 0, locals := 70 }) (va_Pc [.ref bH] (kM (dC, dI) [(jM, .int), (jR, .int), (jC, .int)] NT (wR bH bM bR bC jM jR jC x) sz)) (va_Qv (fun u => u = fX5_system x) (fun u t => va_P (dC, dI) vwCl (wR bH bM bR bC jM jR jC u) t.heap) (va_A (wR bH bM bR bC jM jR jC x) sz)) 0 0 (va_A (wR bH bM bR bC jM jR jC x) sz) := by
  refine Met.ofW (cc := cX5_system) (maxL := 2) (ret := none) (by decide) rfl ?_
  intro p e s m args below meth c s₁ B hml hv
  obtain ⟨rfl, hsz, hD0, hP, hK, hN⟩ := hv
  have hx := B.exec
  have hb := B.bytes
  have hr := B.returns
  have hB := fun (w : Cond) (h : w ∈ BIG) => atoms_spec (ws := wsX5_system) B.pre w (List.mem_cons_of_mem _ h)
  have hown : s.vm.findClass RX5 = some m.cls := findClass_of_methodNamed B.named
  have hlocks := B.notSynchronized
  subst hsz
  have hD := hD0.self (sz := s.heap.size)
  generalize hAe : va_A (wR bH bM bR bC jM jR jC x) s.heap.size = A at hD ⊢
  have hA : ∀ q : Nat, s.heap.size ≤ q → A q := fun q h => by rw [← hAe]; exact Or.inr h
  have hS : va_S A s.heap s.heap [] := va_S.rf
  have hl := lv_entry ([.ref bH]) (n := 2) (Nat.le_of_ble_eq_true rfl)
  rw [lg_entry_eq]
  generalize (lg_sl ([.ref bH]) ++ List.replicate (2 - (lg_sl ([.ref bH])).length) Slot.unset).toArray = ls at hl ⊢
  have hl : lv_has ls 2 [(0, .ref bH)] := hl
  refine lv_aload_n hx hb dX5_system_0 rfl (lv_at hl 0 rfl) ?_
  refine va_get (D := (dC, dI)) (ci := 3) (v := .int (r_word x)) (C := RX5) (T := TX5) (N := 15) hx hb hB iX5 hown hK hP 0 rfl rfl 10 (by decide) (hB _ q_t3_1) (fun _ h9 => h9) rfl dX5_system_1 ?_
  refine lv_bipush (v := 115) hx hb dX5_system_4 (by decide) ?_
  refine lv_icmp_ne (tgt := 19) hx hb dX5_system_6 (by decide) (fun c_6 => ?_) (fun c_6 => ?_)
  · refine lv_aload_n hx hb dX5_system_19 rfl (lv_at hl 0 rfl) ?_
    refine va_get (D := (dC, dI)) (ci := 3) (v := .int (r_word x)) (C := RX5) (T := TX5) (N := 15) hx hb hB iX5 hown hK hP 0 rfl rfl 10 (by decide) (hB _ q_t3_1) (fun _ h9 => h9) rfl dX5_system_20 ?_
    refine lv_ldc (v := 1048691) hx hb hown (hB _ q_t3_169) dX5_system_23 ?_
    refine lv_icmp_ne (tgt := 40) hx hb dX5_system_25 (by decide) (fun c_25 => ?_) (fun c_25 => ?_)
    · refine lv_aload_n hx hb dX5_system_40 rfl (lv_at hl 0 rfl) ?_
      refine va_get (D := (dC, dI)) (ci := 3) (v := .int (r_word x)) (C := RX5) (T := TX5) (N := 15) hx hb hB iX5 hown hK hP 0 rfl rfl 10 (by decide) (hB _ q_t3_1) (fun _ h9 => h9) rfl dX5_system_41 ?_
      refine lv_ldc (v := 807403635) hx hb hown (hB _ q_t3_170) dX5_system_44 ?_
      refine lv_icmp_ne (tgt := 85) hx hb dX5_system_46 (by decide) (fun c_46 => ?_) (fun c_46 => ?_)
      · refine lv_aload_n hx hb dX5_system_85 rfl (lv_at hl 0 rfl) ?_
        refine k_mv (w := wR bH bM bR bC jM jR jC) wR_ad (va_runV (As := []) (rest := []) ⟨hx, hb, hml, hown, hB⟩ (mX5_change l dC dI bH bM bR bC jM jR jC s.heap.size x) (cwV 0 hB (gV q_t3_171 q_t3_173 q_s_57 q_t1_4 wX5_change) rfl rfl rfl hX5_change ⟨Nat.le_of_ble_eq_true rfl, Nat.le_of_ble_eq_true rfl⟩) ⟨kM_blind NT_blind, va_recv hK hP (ci := 3) (q0 := 0) rfl rfl, kM_pre NT_warm hP hK hD hN⟩ rfl rfl hl.1 rfl (lv_room (Nat.le_of_ble_eq_true rfl)) dX5_system_86 ⟨Nat.zero_le _, Nat.zero_le _⟩) hD hS hA (fun u H locs hw hP hD hS => ?_)
        obtain rfl := hw
        exact W.vret hx hb hr (fun t ht hW => ⟨⟨(fX5_change x), rfl, (by unfold fX5_system; rw [if_neg c_6, if_neg c_25, if_neg c_46] <;> rfl), hpT ht hP⟩, hS.F ht⟩) hS.2.2 dX5_system_89
      · refine lv_aload_n hx hb dX5_system_49 rfl (lv_at hl 0 rfl) ?_
        refine va_get (D := (dC, dI)) (ci := 3) (v := .ref bC) (C := RX5) (T := TX5) (N := 15) hx hb hB iX5 hown hK hP 0 rfl rfl 4 (by decide) (hB _ q_t2_235) (fun _ h9 => h9) rfl dX5_system_50 ?_
        refine lv_iconst (v := 0) hx hb dX5_system_53 (by decide) ?_
        refine va_iald hx hb hK hP 3 2 rfl rfl (by unfold vp_in; decide) dX5_system_54 ?_
        refine lv_istore_n (lv' := [(1, .int ((r_ctl x) (0 : Int32).toNatClampNeg)), (0, .ref bH)]) hx hb dX5_system_55 rfl hl (by decide) rfl (fun ls hl => ?_)
        refine lv_aload_n hx hb dX5_system_56 rfl (lv_at hl 1 rfl) ?_
        refine va_get (D := (dC, dI)) (ci := 3) (v := .ref bC) (C := RX5) (T := TX5) (N := 15) hx hb hB iX5 hown hK hP 0 rfl rfl 4 (by decide) (hB _ q_t2_235) (fun _ h9 => h9) rfl dX5_system_57 ?_
        refine lv_iconst (v := 0) hx hb dX5_system_60 (by decide) ?_
        refine lv_iload_n hx hb dX5_system_61 rfl (lv_at hl 0 rfl) ?_
        refine lv_iconst (v := 4) hx hb dX5_system_62 (by decide) ?_
        refine lv_ishr hx hb dX5_system_63 ?_
        refine lv_bipush (v := 8) hx hb dX5_system_64 (by decide) ?_
        refine lv_iand hx hb dX5_system_66 ?_
        refine lv_sipush (v := 128) hx hb dX5_system_67 (by decide) ?_
        refine lv_ior hx hb dX5_system_70 ?_
        refine va_iast hx hb hK hP hD hS 3 2 rfl rfl (by unfold vp_in; decide) dX5_system_71 (fun H locs hP hD hS => ?_)
        have hP : va_P (dC, dI) vwCl (wR bH bM bR bC jM jR jC (t_ctl x (upd (r_ctl x) (0 : Int32).toNatClampNeg (((((r_ctl x) (0 : Int32).toNatClampNeg) >>> ((4 : Int32) &&& 31)) &&& (8 : Int32)) ||| (128 : Int32))))) H := hP
        have hD : va_D A (wR bH bM bR bC jM jR jC (t_ctl x (upd (r_ctl x) (0 : Int32).toNatClampNeg (((((r_ctl x) (0 : Int32).toNatClampNeg) >>> ((4 : Int32) &&& 31)) &&& (8 : Int32)) ||| (128 : Int32))))) := hD
        refine lv_aload_n hx hb dX5_system_72 rfl (lv_at hl 1 rfl) ?_
        refine lv_aload_n hx hb dX5_system_73 rfl (lv_at hl 1 rfl) ?_
        refine va_get (D := (dC, dI)) (ci := 3) (v := .ref bC) (C := RX5) (T := TX5) (N := 15) hx hb hB iX5 hown hK hP 0 rfl rfl 4 (by decide) (hB _ q_t2_235) (fun _ h9 => h9) rfl dX5_system_74 ?_
        refine lv_iconst (v := 4) hx hb dX5_system_77 (by decide) ?_
        refine va_iald hx hb hK hP 3 2 rfl rfl (by unfold vp_in; decide) dX5_system_78 ?_
        refine va_put (D := (dC, dI)) (ci := 3) (v := .int ((upd (r_ctl x) (0 : Int32).toNatClampNeg (((((r_ctl x) (0 : Int32).toNatClampNeg) >>> ((4 : Int32) &&& 31)) &&& (8 : Int32)) ||| (128 : Int32))) (4 : Int32).toNatClampNeg)) (ty := .int) (C := RX5) (T := TX5) (N := 15) hx hb hB iX5 tyX5 tyX5_ok nmX5 hown hK hP hD hS 0 rfl rfl 14 (by decide) (hB _ q_t3_5) (fun _ h9 => h9) rfl (by decide +kernel) rfl rfl (Nat.le_of_ble_eq_true rfl) dX5_system_79 (fun H locs hP hD hS => ?_)
        have hP : va_P (dC, dI) vwCl (wR bH bM bR bC jM jR jC (t_next (t_ctl x (upd (r_ctl x) (0 : Int32).toNatClampNeg (((((r_ctl x) (0 : Int32).toNatClampNeg) >>> ((4 : Int32) &&& 31)) &&& (8 : Int32)) ||| (128 : Int32)))) ((upd (r_ctl x) (0 : Int32).toNatClampNeg (((((r_ctl x) (0 : Int32).toNatClampNeg) >>> ((4 : Int32) &&& 31)) &&& (8 : Int32)) ||| (128 : Int32))) (4 : Int32).toNatClampNeg))) H := hP
        have hD : va_D A (wR bH bM bR bC jM jR jC (t_next (t_ctl x (upd (r_ctl x) (0 : Int32).toNatClampNeg (((((r_ctl x) (0 : Int32).toNatClampNeg) >>> ((4 : Int32) &&& 31)) &&& (8 : Int32)) ||| (128 : Int32)))) ((upd (r_ctl x) (0 : Int32).toNatClampNeg (((((r_ctl x) (0 : Int32).toNatClampNeg) >>> ((4 : Int32) &&& 31)) &&& (8 : Int32)) ||| (128 : Int32))) (4 : Int32).toNatClampNeg))) := hD
        refine lv_goto (tgt := 89) hx hb dX5_system_82 (by decide) ?_
        exact W.vret hx hb hr (fun t ht hW => ⟨⟨(t_next (t_ctl x (upd (r_ctl x) (0 : Int32).toNatClampNeg (((((r_ctl x) (0 : Int32).toNatClampNeg) >>> ((4 : Int32) &&& 31)) &&& (8 : Int32)) ||| (128 : Int32)))) ((upd (r_ctl x) (0 : Int32).toNatClampNeg (((((r_ctl x) (0 : Int32).toNatClampNeg) >>> ((4 : Int32) &&& 31)) &&& (8 : Int32)) ||| (128 : Int32))) (4 : Int32).toNatClampNeg)), rfl, (by unfold fX5_system; rw [if_neg c_6, if_neg c_25, if_pos c_46] <;> rfl), hpT ht hP⟩, hS.F ht⟩) hS.2.2 dX5_system_89
    · refine lv_aload_n hx hb dX5_system_28 rfl (lv_at hl 0 rfl) ?_
      refine lv_iconst (v := 3) hx hb dX5_system_29 (by decide) ?_
      refine lv_aload_n hx hb dX5_system_30 rfl (lv_at hl 0 rfl) ?_
      refine va_get (D := (dC, dI)) (ci := 3) (v := .int (r_pc x)) (C := RX5) (T := TX5) (N := 15) hx hb hB iX5 hown hK hP 0 rfl rfl 3 (by decide) (hB _ q_t2_234) (fun _ h9 => h9) rfl dX5_system_31 ?_
      refine k_mv (w := wR bH bM bR bC jM jR jC) wR_ad (va_runV (As := [.int (3 : Int32), .int (r_pc x)]) (rest := []) ⟨hx, hb, hml, hown, hB⟩ (mX5_trap l dC dI bH bM bR bC jM jR jC s.heap.size x (3 : Int32) (r_pc x)) (cwV 2 hB (gV q_t3_70 q_t3_72 q_s_35 q_t1_4 wX5_trap) rfl rfl rfl hX5_trap ⟨Nat.le_of_ble_eq_true rfl, Nat.le_of_ble_eq_true rfl⟩) ⟨kM_blind NT_blind, va_recv hK hP (ci := 3) (q0 := 0) rfl rfl, kM_pre NT_warm hP hK hD hN⟩ rfl rfl hl.1 rfl (lv_room (Nat.le_of_ble_eq_true rfl)) dX5_system_34 ⟨Nat.zero_le _, Nat.zero_le _⟩) hD hS hA (fun u H locs hw hP hD hS => ?_)
      obtain rfl := hw
      refine lv_goto (tgt := 89) hx hb dX5_system_37 (by decide) ?_
      exact W.vret hx hb hr (fun t ht hW => ⟨⟨(fX5_trap (3 : Int32) (r_pc x) x), rfl, (by unfold fX5_system; rw [if_neg c_6, if_pos c_25] <;> rfl), hpT ht hP⟩, hS.F ht⟩) hS.2.2 dX5_system_89
  · refine lv_aload_n hx hb dX5_system_9 rfl (lv_at hl 0 rfl) ?_
    refine lv_bipush (v := 11) hx hb dX5_system_10 (by decide) ?_
    refine lv_iconst (v := 0) hx hb dX5_system_12 (by decide) ?_
    refine k_mv (w := wR bH bM bR bC jM jR jC) wR_ad (va_runV (As := [.int (11 : Int32), .int (0 : Int32)]) (rest := []) ⟨hx, hb, hml, hown, hB⟩ (mX5_trap l dC dI bH bM bR bC jM jR jC s.heap.size x (11 : Int32) (0 : Int32)) (cwV 2 hB (gV q_t3_70 q_t3_72 q_s_35 q_t1_4 wX5_trap) rfl rfl rfl hX5_trap ⟨Nat.le_of_ble_eq_true rfl, Nat.le_of_ble_eq_true rfl⟩) ⟨kM_blind NT_blind, va_recv hK hP (ci := 3) (q0 := 0) rfl rfl, kM_pre NT_warm hP hK hD hN⟩ rfl rfl hl.1 rfl (lv_room (Nat.le_of_ble_eq_true rfl)) dX5_system_13 ⟨Nat.zero_le _, Nat.zero_le _⟩) hD hS hA (fun u H locs hw hP hD hS => ?_)
    obtain rfl := hw
    refine lv_goto (tgt := 89) hx hb dX5_system_16 (by decide) ?_
    exact W.vret hx hb hr (fun t ht hW => ⟨⟨(fX5_trap (11 : Int32) (0 : Int32) x), rfl, (by unfold fX5_system; rw [if_pos c_6] <;> rfl), hpT ht hP⟩, hS.F ht⟩) hS.2.2 dX5_system_89
def fX5_instruct (x : SR) : SR := if (fX5_bits (0 : Int32) (7 : Int32) (t_next x ((r_pc x) + (4 : Int32)))) = (3 : Int32) then
    fX5_load (t_next x ((r_pc x) + (4 : Int32)))
  else
    if (fX5_bits (0 : Int32) (7 : Int32) (t_next x ((r_pc x) + (4 : Int32)))) = (15 : Int32) then
      t_next x ((r_pc x) + (4 : Int32))
    else
      if (fX5_bits (0 : Int32) (7 : Int32) (t_next x ((r_pc x) + (4 : Int32)))) = (19 : Int32) then
        fX5_withNumber (t_next x ((r_pc x) + (4 : Int32)))
      else
        if (fX5_bits (0 : Int32) (7 : Int32) (t_next x ((r_pc x) + (4 : Int32)))) = (23 : Int32) then
          fX5_lay ((r_pc x) + (fX5_numberU (t_next x ((r_pc x) + (4 : Int32))))) (t_next x ((r_pc x) + (4 : Int32)))
        else
          if (fX5_bits (0 : Int32) (7 : Int32) (t_next x ((r_pc x) + (4 : Int32)))) = (35 : Int32) then
            fX5_store (t_next x ((r_pc x) + (4 : Int32)))
          else
            if (fX5_bits (0 : Int32) (7 : Int32) (t_next x ((r_pc x) + (4 : Int32)))) = (51 : Int32) then
              fX5_withRegister (t_next x ((r_pc x) + (4 : Int32)))
            else
              if (fX5_bits (0 : Int32) (7 : Int32) (t_next x ((r_pc x) + (4 : Int32)))) = (55 : Int32) then
                fX5_lay (fX5_numberU (t_next x ((r_pc x) + (4 : Int32)))) (t_next x ((r_pc x) + (4 : Int32)))
              else
                if (fX5_bits (0 : Int32) (7 : Int32) (t_next x ((r_pc x) + (4 : Int32)))) = (99 : Int32) then
                  fX5_branch (t_next x ((r_pc x) + (4 : Int32)))
                else
                  if (fX5_bits (0 : Int32) (7 : Int32) (t_next x ((r_pc x) + (4 : Int32)))) = (103 : Int32) then
                    if (fX5_bits (12 : Int32) (3 : Int32) (t_next x ((r_pc x) + (4 : Int32)))) = 0 then
                      fX5_jump (((fX5_a (t_next x ((r_pc x) + (4 : Int32)))) + (fX5_numberI (t_next x ((r_pc x) + (4 : Int32))))) &&& (-2 : Int32)) (t_next x ((r_pc x) + (4 : Int32)))
                    else
                      fX5_none (t_next x ((r_pc x) + (4 : Int32)))
                  else
                    if (fX5_bits (0 : Int32) (7 : Int32) (t_next x ((r_pc x) + (4 : Int32)))) = (111 : Int32) then
                      fX5_jump ((r_pc x) + (fX5_numberJ (t_next x ((r_pc x) + (4 : Int32))))) (t_next x ((r_pc x) + (4 : Int32)))
                    else
                      if (fX5_bits (0 : Int32) (7 : Int32) (t_next x ((r_pc x) + (4 : Int32)))) = (115 : Int32) then
                        fX5_system (t_next x ((r_pc x) + (4 : Int32)))
                      else
                        fX5_none (t_next x ((r_pc x) + (4 : Int32)))
set_option maxHeartbeats 4000000 in
set_option maxRecDepth 100000 in
theorem mX5_instruct (l : Launch) (dC : Nat → ClassId) (dI : Nat → Nat → Nat) (bH bM bR bC jM jR jC : Nat) (sz : Nat) (x : SR) : Met l yX5_instruct wsX5_instruct ({ frames := 4, cells := 0, slots := 0, locals := 93 }) (va_Pc [.ref bH] (kM (dC, dI) [(jM, .int), (jR, .int), (jC, .int)] NT (wR bH bM bR bC jM jR jC x) sz)) (va_Qv (fun u => u = fX5_instruct x) (fun u t => va_P (dC, dI) vwCl (wR bH bM bR bC jM jR jC u) t.heap) (va_A (wR bH bM bR bC jM jR jC x) sz)) 0 0 (va_A (wR bH bM bR bC jM jR jC x) sz) := by
  refine Met.ofW (cc := cX5_instruct) (maxL := 1) (ret := none) (by decide) rfl ?_
  intro p e s m args below meth c s₁ B hml hv
  obtain ⟨rfl, hsz, hD0, hP, hK, hN⟩ := hv
  have hx := B.exec
  have hb := B.bytes
  have hr := B.returns
  have hB := fun (w : Cond) (h : w ∈ BIG) => atoms_spec (ws := wsX5_instruct) B.pre w (List.mem_cons_of_mem _ h)
  have hown : s.vm.findClass RX5 = some m.cls := findClass_of_methodNamed B.named
  have hlocks := B.notSynchronized
  subst hsz
  have hD := hD0.self (sz := s.heap.size)
  generalize hAe : va_A (wR bH bM bR bC jM jR jC x) s.heap.size = A at hD ⊢
  have hA : ∀ q : Nat, s.heap.size ≤ q → A q := fun q h => by rw [← hAe]; exact Or.inr h
  have hS : va_S A s.heap s.heap [] := va_S.rf
  have hl := lv_entry ([.ref bH]) (n := 1) (Nat.le_of_ble_eq_true rfl)
  rw [lg_entry_eq]
  generalize (lg_sl ([.ref bH]) ++ List.replicate (1 - (lg_sl ([.ref bH])).length) Slot.unset).toArray = ls at hl ⊢
  have hl : lv_has ls 1 [(0, .ref bH)] := hl
  refine lv_aload_n hx hb dX5_instruct_0 rfl (lv_at hl 0 rfl) ?_
  refine lv_aload_n hx hb dX5_instruct_1 rfl (lv_at hl 0 rfl) ?_
  refine va_get (D := (dC, dI)) (ci := 3) (v := .int (r_pc x)) (C := RX5) (T := TX5) (N := 15) hx hb hB iX5 hown hK hP 0 rfl rfl 3 (by decide) (hB _ q_t2_234) (fun _ h9 => h9) rfl dX5_instruct_2 ?_
  refine lv_iconst (v := 4) hx hb dX5_instruct_5 (by decide) ?_
  refine lv_iadd hx hb dX5_instruct_6 ?_
  refine va_put (D := (dC, dI)) (ci := 3) (v := .int ((r_pc x) + (4 : Int32))) (ty := .int) (C := RX5) (T := TX5) (N := 15) hx hb hB iX5 tyX5 tyX5_ok nmX5 hown hK hP hD hS 0 rfl rfl 14 (by decide) (hB _ q_t3_5) (fun _ h9 => h9) rfl (by decide +kernel) rfl rfl (Nat.le_of_ble_eq_true rfl) dX5_instruct_7 (fun H locs hP hD hS => ?_)
  have hP : va_P (dC, dI) vwCl (wR bH bM bR bC jM jR jC (t_next x ((r_pc x) + (4 : Int32)))) H := hP
  have hD : va_D A (wR bH bM bR bC jM jR jC (t_next x ((r_pc x) + (4 : Int32)))) := hD
  refine lv_aload_n hx hb dX5_instruct_10 rfl (lv_at hl 0 rfl) ?_
  refine lv_iconst (v := 0) hx hb dX5_instruct_11 (by decide) ?_
  refine lv_bipush (v := 7) hx hb dX5_instruct_12 (by decide) ?_
  refine k_ri (va_runV (As := [.int (0 : Int32), .int (7 : Int32)]) (rest := []) ⟨hx, hb, hml, hown, hB⟩ (mX5_bits l dC dI bH bM bR bC jM jR jC (t_next x ((r_pc x) + (4 : Int32))) (0 : Int32) (7 : Int32)) (cwV 2 hB (gV q_t3_78 q_t3_80 q_s_37 q_t1_4 wX5_bits) rfl rfl rfl hX5_bits ⟨Nat.le_of_ble_eq_true rfl, Nat.le_of_ble_eq_true rfl⟩) ⟨kP_blind NT_blind, va_recv hK hP (ci := 3) (q0 := 0) rfl rfl, kP_pre NT_warm hP hK hN⟩ rfl rfl hl.1 rfl (lv_room (Nat.le_of_ble_eq_true rfl)) dX5_instruct_14 ⟨Nat.zero_le _, Nat.zero_le _⟩) ?_
  by_cases c_17_3 : (fX5_bits (0 : Int32) (7 : Int32) (t_next x ((r_pc x) + (4 : Int32)))) = (3 : Int32)
  · refine lv_lookup (off := 175) (tgt := 192) hx hb dX5_instruct_17 (by decide) (by rw [c_17_3]; decide) (by decide) ?_
    refine lv_aload_n hx hb dX5_instruct_192 rfl (lv_at hl 0 rfl) ?_
    refine k_mv (w := wR bH bM bR bC jM jR jC) wR_ad (va_runV (As := []) (rest := []) ⟨hx, hb, hml, hown, hB⟩ (mX5_load l dC dI bH bM bR bC jM jR jC H.size (t_next x ((r_pc x) + (4 : Int32)))) (cwV 0 hB (gV q_t3_130 q_t3_132 q_s_49 q_t1_4 wX5_load) rfl rfl rfl hX5_load ⟨Nat.le_of_ble_eq_true rfl, Nat.le_of_ble_eq_true rfl⟩) ⟨kM_blind NT_blind, va_recv hK hP (ci := 3) (q0 := 0) rfl rfl, kM_pre NT_warm hP hK hD hN⟩ rfl rfl hl.1 rfl (lv_room (Nat.le_of_ble_eq_true rfl)) dX5_instruct_193 ⟨Nat.zero_le _, Nat.zero_le _⟩) hD hS hA (fun u H locs hw hP hD hS => ?_)
    obtain rfl := hw
    exact W.vret hx hb hr (fun t ht hW => ⟨⟨(fX5_load (t_next x ((r_pc x) + (4 : Int32)))), rfl, (by unfold fX5_instruct; rw [if_pos c_17_3] <;> rfl), hpT ht hP⟩, hS.F ht⟩) hS.2.2 dX5_instruct_196
  by_cases c_17_15 : (fX5_bits (0 : Int32) (7 : Int32) (t_next x ((r_pc x) + (4 : Int32)))) = (15 : Int32)
  · refine lv_lookup (off := 195) (tgt := 212) hx hb dX5_instruct_17 (by decide) (by rw [c_17_15]; decide) (by decide) ?_
    exact W.vret hx hb hr (fun t ht hW => ⟨⟨(t_next x ((r_pc x) + (4 : Int32))), rfl, (by unfold fX5_instruct; rw [if_neg c_17_3, if_pos c_17_15] <;> rfl), hpT ht hP⟩, hS.F ht⟩) hS.2.2 dX5_instruct_212
  by_cases c_17_19 : (fX5_bits (0 : Int32) (7 : Int32) (t_next x ((r_pc x) + (4 : Int32)))) = (19 : Int32)
  · refine lv_lookup (off := 185) (tgt := 202) hx hb dX5_instruct_17 (by decide) (by rw [c_17_19]; decide) (by decide) ?_
    refine lv_aload_n hx hb dX5_instruct_202 rfl (lv_at hl 0 rfl) ?_
    refine k_mv (w := wR bH bM bR bC jM jR jC) wR_ad (va_runV (As := []) (rest := []) ⟨hx, hb, hml, hown, hB⟩ (mX5_withNumber l dC dI bH bM bR bC jM jR jC H.size (t_next x ((r_pc x) + (4 : Int32)))) (cwV 0 hB (gV q_t3_147 q_t3_149 q_s_53 q_t1_4 wX5_withNumber) rfl rfl rfl hX5_withNumber ⟨Nat.le_of_ble_eq_true rfl, Nat.le_of_ble_eq_true rfl⟩) ⟨kM_blind NT_blind, va_recv hK hP (ci := 3) (q0 := 0) rfl rfl, kM_pre NT_warm hP hK hD hN⟩ rfl rfl hl.1 rfl (lv_room (Nat.le_of_ble_eq_true rfl)) dX5_instruct_203 ⟨Nat.zero_le _, Nat.zero_le _⟩) hD hS hA (fun u H locs hw hP hD hS => ?_)
    obtain rfl := hw
    exact W.vret hx hb hr (fun t ht hW => ⟨⟨(fX5_withNumber (t_next x ((r_pc x) + (4 : Int32)))), rfl, (by unfold fX5_instruct; rw [if_neg c_17_3, if_neg c_17_15, if_pos c_17_19] <;> rfl), hpT ht hP⟩, hS.F ht⟩) hS.2.2 dX5_instruct_206
  by_cases c_17_23 : (fX5_bits (0 : Int32) (7 : Int32) (t_next x ((r_pc x) + (4 : Int32)))) = (23 : Int32)
  · refine lv_lookup (off := 108) (tgt := 125) hx hb dX5_instruct_17 (by decide) (by rw [c_17_23]; decide) (by decide) ?_
    refine lv_aload_n hx hb dX5_instruct_125 rfl (lv_at hl 0 rfl) ?_
    refine lv_aload_n hx hb dX5_instruct_126 rfl (lv_at hl 0 rfl) ?_
    refine va_get (D := (dC, dI)) (ci := 3) (v := .int (r_pc x)) (C := RX5) (T := TX5) (N := 15) hx hb hB iX5 hown hK hP 0 rfl rfl 3 (by decide) (hB _ q_t2_234) (fun _ h9 => h9) rfl dX5_instruct_127 ?_
    refine lv_aload_n hx hb dX5_instruct_130 rfl (lv_at hl 0 rfl) ?_
    refine k_ri (va_runV (As := []) (rest := [.int (r_pc x), .ref bH]) ⟨hx, hb, hml, hown, hB⟩ (mX5_numberU l dC dI bH bM bR bC jM jR jC (t_next x ((r_pc x) + (4 : Int32)))) (cwV 0 hB (gV q_t3_82 q_t3_84 q_s_38 q_t1_4 wX5_numberU) rfl rfl rfl hX5_numberU ⟨Nat.le_of_ble_eq_true rfl, Nat.le_of_ble_eq_true rfl⟩) ⟨kP_blind NT_blind, va_recv hK hP (ci := 3) (q0 := 0) rfl rfl, kP_pre NT_warm hP hK hN⟩ rfl rfl hl.1 rfl (lv_room (Nat.le_of_ble_eq_true rfl)) dX5_instruct_131 ⟨Nat.zero_le _, Nat.zero_le _⟩) ?_
    refine lv_iadd hx hb dX5_instruct_134 ?_
    refine k_mv (w := wR bH bM bR bC jM jR jC) wR_ad (va_runV (As := [.int ((r_pc x) + (fX5_numberU (t_next x ((r_pc x) + (4 : Int32)))))]) (rest := []) ⟨hx, hb, hml, hown, hB⟩ (mX5_lay l dC dI bH bM bR bC jM jR jC H.size (t_next x ((r_pc x) + (4 : Int32))) ((r_pc x) + (fX5_numberU (t_next x ((r_pc x) + (4 : Int32)))))) (cwV 1 hB (gV q_t3_86 q_t3_88 q_s_39 q_t1_4 wX5_lay) rfl rfl rfl hX5_lay ⟨Nat.le_of_ble_eq_true rfl, Nat.le_of_ble_eq_true rfl⟩) ⟨kM_blind NT_blind, va_recv hK hP (ci := 3) (q0 := 0) rfl rfl, kM_pre NT_warm hP hK hD hN⟩ rfl rfl hl.1 rfl (lv_room (Nat.le_of_ble_eq_true rfl)) dX5_instruct_135 ⟨Nat.zero_le _, Nat.zero_le _⟩) hD hS hA (fun u H locs hw hP hD hS => ?_)
    obtain rfl := hw
    exact W.vret hx hb hr (fun t ht hW => ⟨⟨(fX5_lay ((r_pc x) + (fX5_numberU (t_next x ((r_pc x) + (4 : Int32))))) (t_next x ((r_pc x) + (4 : Int32)))), rfl, (by unfold fX5_instruct; rw [if_neg c_17_3, if_neg c_17_15, if_neg c_17_19, if_pos c_17_23] <;> rfl), hpT ht hP⟩, hS.F ht⟩) hS.2.2 dX5_instruct_138
  by_cases c_17_35 : (fX5_bits (0 : Int32) (7 : Int32) (t_next x ((r_pc x) + (4 : Int32)))) = (35 : Int32)
  · refine lv_lookup (off := 180) (tgt := 197) hx hb dX5_instruct_17 (by decide) (by rw [c_17_35]; decide) (by decide) ?_
    refine lv_aload_n hx hb dX5_instruct_197 rfl (lv_at hl 0 rfl) ?_
    refine k_mv (w := wR bH bM bR bC jM jR jC) wR_ad (va_runV (As := []) (rest := []) ⟨hx, hb, hml, hown, hB⟩ (mX5_store l dC dI bH bM bR bC jM jR jC H.size (t_next x ((r_pc x) + (4 : Int32)))) (cwV 0 hB (gV q_t3_139 q_t3_141 q_s_51 q_t1_4 wX5_store) rfl rfl rfl hX5_store ⟨Nat.le_of_ble_eq_true rfl, Nat.le_of_ble_eq_true rfl⟩) ⟨kM_blind NT_blind, va_recv hK hP (ci := 3) (q0 := 0) rfl rfl, kM_pre NT_warm hP hK hD hN⟩ rfl rfl hl.1 rfl (lv_room (Nat.le_of_ble_eq_true rfl)) dX5_instruct_198 ⟨Nat.zero_le _, Nat.zero_le _⟩) hD hS hA (fun u H locs hw hP hD hS => ?_)
    obtain rfl := hw
    exact W.vret hx hb hr (fun t ht hW => ⟨⟨(fX5_store (t_next x ((r_pc x) + (4 : Int32)))), rfl, (by unfold fX5_instruct; rw [if_neg c_17_3, if_neg c_17_15, if_neg c_17_19, if_neg c_17_23, if_pos c_17_35] <;> rfl), hpT ht hP⟩, hS.F ht⟩) hS.2.2 dX5_instruct_201
  by_cases c_17_51 : (fX5_bits (0 : Int32) (7 : Int32) (t_next x ((r_pc x) + (4 : Int32)))) = (51 : Int32)
  · refine lv_lookup (off := 190) (tgt := 207) hx hb dX5_instruct_17 (by decide) (by rw [c_17_51]; decide) (by decide) ?_
    refine lv_aload_n hx hb dX5_instruct_207 rfl (lv_at hl 0 rfl) ?_
    refine k_mv (w := wR bH bM bR bC jM jR jC) wR_ad (va_runV (As := []) (rest := []) ⟨hx, hb, hml, hown, hB⟩ (mX5_withRegister l dC dI bH bM bR bC jM jR jC H.size (t_next x ((r_pc x) + (4 : Int32)))) (cwV 0 hB (gV q_t3_151 q_t3_153 q_s_54 q_t1_4 wX5_withRegister) rfl rfl rfl hX5_withRegister ⟨Nat.le_of_ble_eq_true rfl, Nat.le_of_ble_eq_true rfl⟩) ⟨kM_blind NT_blind, va_recv hK hP (ci := 3) (q0 := 0) rfl rfl, kM_pre NT_warm hP hK hD hN⟩ rfl rfl hl.1 rfl (lv_room (Nat.le_of_ble_eq_true rfl)) dX5_instruct_208 ⟨Nat.zero_le _, Nat.zero_le _⟩) hD hS hA (fun u H locs hw hP hD hS => ?_)
    obtain rfl := hw
    exact W.vret hx hb hr (fun t ht hW => ⟨⟨(fX5_withRegister (t_next x ((r_pc x) + (4 : Int32)))), rfl, (by unfold fX5_instruct; rw [if_neg c_17_3, if_neg c_17_15, if_neg c_17_19, if_neg c_17_23, if_neg c_17_35, if_pos c_17_51] <;> rfl), hpT ht hP⟩, hS.F ht⟩) hS.2.2 dX5_instruct_211
  by_cases c_17_55 : (fX5_bits (0 : Int32) (7 : Int32) (t_next x ((r_pc x) + (4 : Int32)))) = (55 : Int32)
  · refine lv_lookup (off := 99) (tgt := 116) hx hb dX5_instruct_17 (by decide) (by rw [c_17_55]; decide) (by decide) ?_
    refine lv_aload_n hx hb dX5_instruct_116 rfl (lv_at hl 0 rfl) ?_
    refine lv_aload_n hx hb dX5_instruct_117 rfl (lv_at hl 0 rfl) ?_
    refine k_ri (va_runV (As := []) (rest := [.ref bH]) ⟨hx, hb, hml, hown, hB⟩ (mX5_numberU l dC dI bH bM bR bC jM jR jC (t_next x ((r_pc x) + (4 : Int32)))) (cwV 0 hB (gV q_t3_82 q_t3_84 q_s_38 q_t1_4 wX5_numberU) rfl rfl rfl hX5_numberU ⟨Nat.le_of_ble_eq_true rfl, Nat.le_of_ble_eq_true rfl⟩) ⟨kP_blind NT_blind, va_recv hK hP (ci := 3) (q0 := 0) rfl rfl, kP_pre NT_warm hP hK hN⟩ rfl rfl hl.1 rfl (lv_room (Nat.le_of_ble_eq_true rfl)) dX5_instruct_118 ⟨Nat.zero_le _, Nat.zero_le _⟩) ?_
    refine k_mv (w := wR bH bM bR bC jM jR jC) wR_ad (va_runV (As := [.int (fX5_numberU (t_next x ((r_pc x) + (4 : Int32))))]) (rest := []) ⟨hx, hb, hml, hown, hB⟩ (mX5_lay l dC dI bH bM bR bC jM jR jC H.size (t_next x ((r_pc x) + (4 : Int32))) (fX5_numberU (t_next x ((r_pc x) + (4 : Int32))))) (cwV 1 hB (gV q_t3_86 q_t3_88 q_s_39 q_t1_4 wX5_lay) rfl rfl rfl hX5_lay ⟨Nat.le_of_ble_eq_true rfl, Nat.le_of_ble_eq_true rfl⟩) ⟨kM_blind NT_blind, va_recv hK hP (ci := 3) (q0 := 0) rfl rfl, kM_pre NT_warm hP hK hD hN⟩ rfl rfl hl.1 rfl (lv_room (Nat.le_of_ble_eq_true rfl)) dX5_instruct_121 ⟨Nat.zero_le _, Nat.zero_le _⟩) hD hS hA (fun u H locs hw hP hD hS => ?_)
    obtain rfl := hw
    exact W.vret hx hb hr (fun t ht hW => ⟨⟨(fX5_lay (fX5_numberU (t_next x ((r_pc x) + (4 : Int32)))) (t_next x ((r_pc x) + (4 : Int32)))), rfl, (by unfold fX5_instruct; rw [if_neg c_17_3, if_neg c_17_15, if_neg c_17_19, if_neg c_17_23, if_neg c_17_35, if_neg c_17_51, if_pos c_17_55] <;> rfl), hpT ht hP⟩, hS.F ht⟩) hS.2.2 dX5_instruct_124
  by_cases c_17_99 : (fX5_bits (0 : Int32) (7 : Int32) (t_next x ((r_pc x) + (4 : Int32)))) = (99 : Int32)
  · refine lv_lookup (off := 170) (tgt := 187) hx hb dX5_instruct_17 (by decide) (by rw [c_17_99]; decide) (by decide) ?_
    refine lv_aload_n hx hb dX5_instruct_187 rfl (lv_at hl 0 rfl) ?_
    refine k_mv (w := wR bH bM bR bC jM jR jC) wR_ad (va_runV (As := []) (rest := []) ⟨hx, hb, hml, hown, hB⟩ (mX5_branch l dC dI bH bM bR bC jM jR jC H.size (t_next x ((r_pc x) + (4 : Int32)))) (cwV 0 hB (gV q_t3_114 q_t3_116 q_s_46 q_t1_4 wX5_branch) rfl rfl rfl hX5_branch ⟨Nat.le_of_ble_eq_true rfl, Nat.le_of_ble_eq_true rfl⟩) ⟨kM_blind NT_blind, va_recv hK hP (ci := 3) (q0 := 0) rfl rfl, kM_pre NT_warm hP hK hD hN⟩ rfl rfl hl.1 rfl (lv_room (Nat.le_of_ble_eq_true rfl)) dX5_instruct_188 ⟨Nat.zero_le _, Nat.zero_le _⟩) hD hS hA (fun u H locs hw hP hD hS => ?_)
    obtain rfl := hw
    exact W.vret hx hb hr (fun t ht hW => ⟨⟨(fX5_branch (t_next x ((r_pc x) + (4 : Int32)))), rfl, (by unfold fX5_instruct; rw [if_neg c_17_3, if_neg c_17_15, if_neg c_17_19, if_neg c_17_23, if_neg c_17_35, if_neg c_17_51, if_neg c_17_55, if_pos c_17_99] <;> rfl), hpT ht hP⟩, hS.F ht⟩) hS.2.2 dX5_instruct_191
  by_cases c_17_103 : (fX5_bits (0 : Int32) (7 : Int32) (t_next x ((r_pc x) + (4 : Int32)))) = (103 : Int32)
  · refine lv_lookup (off := 136) (tgt := 153) hx hb dX5_instruct_17 (by decide) (by rw [c_17_103]; decide) (by decide) ?_
    refine lv_aload_n hx hb dX5_instruct_153 rfl (lv_at hl 0 rfl) ?_
    refine lv_bipush (v := 12) hx hb dX5_instruct_154 (by decide) ?_
    refine lv_iconst (v := 3) hx hb dX5_instruct_156 (by decide) ?_
    refine k_ri (va_runV (As := [.int (12 : Int32), .int (3 : Int32)]) (rest := []) ⟨hx, hb, hml, hown, hB⟩ (mX5_bits l dC dI bH bM bR bC jM jR jC (t_next x ((r_pc x) + (4 : Int32))) (12 : Int32) (3 : Int32)) (cwV 2 hB (gV q_t3_78 q_t3_80 q_s_37 q_t1_4 wX5_bits) rfl rfl rfl hX5_bits ⟨Nat.le_of_ble_eq_true rfl, Nat.le_of_ble_eq_true rfl⟩) ⟨kP_blind NT_blind, va_recv hK hP (ci := 3) (q0 := 0) rfl rfl, kP_pre NT_warm hP hK hN⟩ rfl rfl hl.1 rfl (lv_room (Nat.le_of_ble_eq_true rfl)) dX5_instruct_157 ⟨Nat.zero_le _, Nat.zero_le _⟩) ?_
    refine lv_if_eq (tgt := 170) hx hb dX5_instruct_160 (by decide) (fun c_160 => ?_) (fun c_160 => ?_)
    · refine lv_aload_n hx hb dX5_instruct_170 rfl (lv_at hl 0 rfl) ?_
      refine lv_aload_n hx hb dX5_instruct_171 rfl (lv_at hl 0 rfl) ?_
      refine k_ri (va_runV (As := []) (rest := [.ref bH]) ⟨hx, hb, hml, hown, hB⟩ (mX5_a l dC dI bH bM bR bC jM jR jC (t_next x ((r_pc x) + (4 : Int32)))) (cwV 0 hB (gV q_t3_106 q_t3_108 q_s_44 q_t1_4 wX5_a) rfl rfl rfl hX5_a ⟨Nat.le_of_ble_eq_true rfl, Nat.le_of_ble_eq_true rfl⟩) ⟨kP_blind NT_blind, va_recv hK hP (ci := 3) (q0 := 0) rfl rfl, kP_pre NT_warm hP hK hN⟩ rfl rfl hl.1 rfl (lv_room (Nat.le_of_ble_eq_true rfl)) dX5_instruct_172 ⟨Nat.zero_le _, Nat.zero_le _⟩) ?_
      refine lv_aload_n hx hb dX5_instruct_175 rfl (lv_at hl 0 rfl) ?_
      refine k_ri (va_runV (As := []) (rest := [.int (fX5_a (t_next x ((r_pc x) + (4 : Int32)))), .ref bH]) ⟨hx, hb, hml, hown, hB⟩ (mX5_numberI l dC dI bH bM bR bC jM jR jC (t_next x ((r_pc x) + (4 : Int32)))) (cwV 0 hB (gV q_t3_110 q_t3_112 q_s_45 q_t1_4 wX5_numberI) rfl rfl rfl hX5_numberI ⟨Nat.le_of_ble_eq_true rfl, Nat.le_of_ble_eq_true rfl⟩) ⟨kP_blind NT_blind, va_recv hK hP (ci := 3) (q0 := 0) rfl rfl, kP_pre NT_warm hP hK hN⟩ rfl rfl hl.1 rfl (lv_room (Nat.le_of_ble_eq_true rfl)) dX5_instruct_176 ⟨Nat.zero_le _, Nat.zero_le _⟩) ?_
      refine lv_iadd hx hb dX5_instruct_179 ?_
      refine lv_bipush (v := -2) hx hb dX5_instruct_180 (by decide) ?_
      refine lv_iand hx hb dX5_instruct_182 ?_
      refine k_mv (w := wR bH bM bR bC jM jR jC) wR_ad (va_runV (As := [.int (((fX5_a (t_next x ((r_pc x) + (4 : Int32)))) + (fX5_numberI (t_next x ((r_pc x) + (4 : Int32))))) &&& (-2 : Int32))]) (rest := []) ⟨hx, hb, hml, hown, hB⟩ (mX5_jump l dC dI bH bM bR bC jM jR jC H.size (t_next x ((r_pc x) + (4 : Int32))) (((fX5_a (t_next x ((r_pc x) + (4 : Int32)))) + (fX5_numberI (t_next x ((r_pc x) + (4 : Int32))))) &&& (-2 : Int32))) (cwV 1 hB (gV q_t3_94 q_t3_96 q_s_41 q_t1_4 wX5_jump) rfl rfl rfl hX5_jump ⟨Nat.le_of_ble_eq_true rfl, Nat.le_of_ble_eq_true rfl⟩) ⟨kM_blind NT_blind, va_recv hK hP (ci := 3) (q0 := 0) rfl rfl, kM_pre NT_warm hP hK hD hN⟩ rfl rfl hl.1 rfl (lv_room (Nat.le_of_ble_eq_true rfl)) dX5_instruct_183 ⟨Nat.zero_le _, Nat.zero_le _⟩) hD hS hA (fun u H locs hw hP hD hS => ?_)
      obtain rfl := hw
      exact W.vret hx hb hr (fun t ht hW => ⟨⟨(fX5_jump (((fX5_a (t_next x ((r_pc x) + (4 : Int32)))) + (fX5_numberI (t_next x ((r_pc x) + (4 : Int32))))) &&& (-2 : Int32)) (t_next x ((r_pc x) + (4 : Int32)))), rfl, (by unfold fX5_instruct; rw [if_neg c_17_3, if_neg c_17_15, if_neg c_17_19, if_neg c_17_23, if_neg c_17_35, if_neg c_17_51, if_neg c_17_55, if_neg c_17_99, if_pos c_17_103, if_pos c_160] <;> rfl), hpT ht hP⟩, hS.F ht⟩) hS.2.2 dX5_instruct_186
    · refine lv_aload_n hx hb dX5_instruct_163 rfl (lv_at hl 0 rfl) ?_
      refine k_mv (w := wR bH bM bR bC jM jR jC) wR_ad (va_runV (As := []) (rest := []) ⟨hx, hb, hml, hown, hB⟩ (mX5_none l dC dI bH bM bR bC jM jR jC H.size (t_next x ((r_pc x) + (4 : Int32)))) (cwV 0 hB (gV q_t3_102 q_t3_104 q_s_43 q_t1_4 wX5_none) rfl rfl rfl hX5_none ⟨Nat.le_of_ble_eq_true rfl, Nat.le_of_ble_eq_true rfl⟩) ⟨kM_blind NT_blind, va_recv hK hP (ci := 3) (q0 := 0) rfl rfl, kM_pre NT_warm hP hK hD hN⟩ rfl rfl hl.1 rfl (lv_room (Nat.le_of_ble_eq_true rfl)) dX5_instruct_164 ⟨Nat.zero_le _, Nat.zero_le _⟩) hD hS hA (fun u H locs hw hP hD hS => ?_)
      obtain rfl := hw
      refine lv_goto (tgt := 186) hx hb dX5_instruct_167 (by decide) ?_
      exact W.vret hx hb hr (fun t ht hW => ⟨⟨(fX5_none (t_next x ((r_pc x) + (4 : Int32)))), rfl, (by unfold fX5_instruct; rw [if_neg c_17_3, if_neg c_17_15, if_neg c_17_19, if_neg c_17_23, if_neg c_17_35, if_neg c_17_51, if_neg c_17_55, if_neg c_17_99, if_pos c_17_103, if_neg c_160] <;> rfl), hpT ht hP⟩, hS.F ht⟩) hS.2.2 dX5_instruct_186
  by_cases c_17_111 : (fX5_bits (0 : Int32) (7 : Int32) (t_next x ((r_pc x) + (4 : Int32)))) = (111 : Int32)
  · refine lv_lookup (off := 122) (tgt := 139) hx hb dX5_instruct_17 (by decide) (by rw [c_17_111]; decide) (by decide) ?_
    refine lv_aload_n hx hb dX5_instruct_139 rfl (lv_at hl 0 rfl) ?_
    refine lv_aload_n hx hb dX5_instruct_140 rfl (lv_at hl 0 rfl) ?_
    refine va_get (D := (dC, dI)) (ci := 3) (v := .int (r_pc x)) (C := RX5) (T := TX5) (N := 15) hx hb hB iX5 hown hK hP 0 rfl rfl 3 (by decide) (hB _ q_t2_234) (fun _ h9 => h9) rfl dX5_instruct_141 ?_
    refine lv_aload_n hx hb dX5_instruct_144 rfl (lv_at hl 0 rfl) ?_
    refine k_ri (va_runV (As := []) (rest := [.int (r_pc x), .ref bH]) ⟨hx, hb, hml, hown, hB⟩ (mX5_numberJ l dC dI bH bM bR bC jM jR jC (t_next x ((r_pc x) + (4 : Int32)))) (cwV 0 hB (gV q_t3_90 q_t3_92 q_s_40 q_t1_4 wX5_numberJ) rfl rfl rfl hX5_numberJ ⟨Nat.le_of_ble_eq_true rfl, Nat.le_of_ble_eq_true rfl⟩) ⟨kP_blind NT_blind, va_recv hK hP (ci := 3) (q0 := 0) rfl rfl, kP_pre NT_warm hP hK hN⟩ rfl rfl hl.1 rfl (lv_room (Nat.le_of_ble_eq_true rfl)) dX5_instruct_145 ⟨Nat.zero_le _, Nat.zero_le _⟩) ?_
    refine lv_iadd hx hb dX5_instruct_148 ?_
    refine k_mv (w := wR bH bM bR bC jM jR jC) wR_ad (va_runV (As := [.int ((r_pc x) + (fX5_numberJ (t_next x ((r_pc x) + (4 : Int32)))))]) (rest := []) ⟨hx, hb, hml, hown, hB⟩ (mX5_jump l dC dI bH bM bR bC jM jR jC H.size (t_next x ((r_pc x) + (4 : Int32))) ((r_pc x) + (fX5_numberJ (t_next x ((r_pc x) + (4 : Int32)))))) (cwV 1 hB (gV q_t3_94 q_t3_96 q_s_41 q_t1_4 wX5_jump) rfl rfl rfl hX5_jump ⟨Nat.le_of_ble_eq_true rfl, Nat.le_of_ble_eq_true rfl⟩) ⟨kM_blind NT_blind, va_recv hK hP (ci := 3) (q0 := 0) rfl rfl, kM_pre NT_warm hP hK hD hN⟩ rfl rfl hl.1 rfl (lv_room (Nat.le_of_ble_eq_true rfl)) dX5_instruct_149 ⟨Nat.zero_le _, Nat.zero_le _⟩) hD hS hA (fun u H locs hw hP hD hS => ?_)
    obtain rfl := hw
    exact W.vret hx hb hr (fun t ht hW => ⟨⟨(fX5_jump ((r_pc x) + (fX5_numberJ (t_next x ((r_pc x) + (4 : Int32))))) (t_next x ((r_pc x) + (4 : Int32)))), rfl, (by unfold fX5_instruct; rw [if_neg c_17_3, if_neg c_17_15, if_neg c_17_19, if_neg c_17_23, if_neg c_17_35, if_neg c_17_51, if_neg c_17_55, if_neg c_17_99, if_neg c_17_103, if_pos c_17_111] <;> rfl), hpT ht hP⟩, hS.F ht⟩) hS.2.2 dX5_instruct_152
  by_cases c_17_115 : (fX5_bits (0 : Int32) (7 : Int32) (t_next x ((r_pc x) + (4 : Int32)))) = (115 : Int32)
  · refine lv_lookup (off := 196) (tgt := 213) hx hb dX5_instruct_17 (by decide) (by rw [c_17_115]; decide) (by decide) ?_
    refine lv_aload_n hx hb dX5_instruct_213 rfl (lv_at hl 0 rfl) ?_
    refine k_mv (w := wR bH bM bR bC jM jR jC) wR_ad (va_runV (As := []) (rest := []) ⟨hx, hb, hml, hown, hB⟩ (mX5_system l dC dI bH bM bR bC jM jR jC H.size (t_next x ((r_pc x) + (4 : Int32)))) (cwV 0 hB (gV q_t3_165 q_t3_167 q_s_56 q_t1_4 wX5_system) rfl rfl rfl hX5_system ⟨Nat.le_of_ble_eq_true rfl, Nat.le_of_ble_eq_true rfl⟩) ⟨kM_blind NT_blind, va_recv hK hP (ci := 3) (q0 := 0) rfl rfl, kM_pre NT_warm hP hK hD hN⟩ rfl rfl hl.1 rfl (lv_room (Nat.le_of_ble_eq_true rfl)) dX5_instruct_214 ⟨Nat.zero_le _, Nat.zero_le _⟩) hD hS hA (fun u H locs hw hP hD hS => ?_)
    obtain rfl := hw
    exact W.vret hx hb hr (fun t ht hW => ⟨⟨(fX5_system (t_next x ((r_pc x) + (4 : Int32)))), rfl, (by unfold fX5_instruct; rw [if_neg c_17_3, if_neg c_17_15, if_neg c_17_19, if_neg c_17_23, if_neg c_17_35, if_neg c_17_51, if_neg c_17_55, if_neg c_17_99, if_neg c_17_103, if_neg c_17_111, if_pos c_17_115] <;> rfl), hpT ht hP⟩, hS.F ht⟩) hS.2.2 dX5_instruct_217
  refine lv_lookup (off := 201) (tgt := 218) hx hb dX5_instruct_17 (by decide) ((lv_osw c_17_3 (by decide)).trans ((lv_osw c_17_15 (by decide)).trans ((lv_osw c_17_19 (by decide)).trans ((lv_osw c_17_23 (by decide)).trans ((lv_osw c_17_35 (by decide)).trans ((lv_osw c_17_51 (by decide)).trans ((lv_osw c_17_55 (by decide)).trans ((lv_osw c_17_99 (by decide)).trans ((lv_osw c_17_103 (by decide)).trans ((lv_osw c_17_111 (by decide)).trans ((lv_osw c_17_115 (by decide)).trans rfl))))))))))) (by decide) ?_
  refine lv_aload_n hx hb dX5_instruct_218 rfl (lv_at hl 0 rfl) ?_
  refine k_mv (w := wR bH bM bR bC jM jR jC) wR_ad (va_runV (As := []) (rest := []) ⟨hx, hb, hml, hown, hB⟩ (mX5_none l dC dI bH bM bR bC jM jR jC H.size (t_next x ((r_pc x) + (4 : Int32)))) (cwV 0 hB (gV q_t3_102 q_t3_104 q_s_43 q_t1_4 wX5_none) rfl rfl rfl hX5_none ⟨Nat.le_of_ble_eq_true rfl, Nat.le_of_ble_eq_true rfl⟩) ⟨kM_blind NT_blind, va_recv hK hP (ci := 3) (q0 := 0) rfl rfl, kM_pre NT_warm hP hK hD hN⟩ rfl rfl hl.1 rfl (lv_room (Nat.le_of_ble_eq_true rfl)) dX5_instruct_219 ⟨Nat.zero_le _, Nat.zero_le _⟩) hD hS hA (fun u H locs hw hP hD hS => ?_)
  obtain rfl := hw
  exact W.vret hx hb hr (fun t ht hW => ⟨⟨(fX5_none (t_next x ((r_pc x) + (4 : Int32)))), rfl, (by unfold fX5_instruct; rw [if_neg c_17_3, if_neg c_17_15, if_neg c_17_19, if_neg c_17_23, if_neg c_17_35, if_neg c_17_51, if_neg c_17_55, if_neg c_17_99, if_neg c_17_103, if_neg c_17_111, if_neg c_17_115] <;> rfl), hpT ht hP⟩, hS.F ht⟩) hS.2.2 dX5_instruct_222
