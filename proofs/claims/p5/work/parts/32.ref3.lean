def fX5_load (x : SR) : SR := if (fX5_bits (12 : Int32) (3 : Int32) x) = (3 : Int32) then
    fX5_none x
  else
    if (fX5_bits (12 : Int32) (3 : Int32) x) ≤ (5 : Int32) then
      if (bi (fX5_may ((fX5_a x) + (fX5_numberI x)) ((1 : Int32) <<< (((fX5_bits (12 : Int32) (3 : Int32) x) &&& (3 : Int32)) &&& 31)) (4 : Int32) (5 : Int32) x).1) = 0 then
        (fX5_may ((fX5_a x) + (fX5_numberI x)) ((1 : Int32) <<< (((fX5_bits (12 : Int32) (3 : Int32) x) &&& (3 : Int32)) &&& 31)) (4 : Int32) (5 : Int32) x).2
      else
        if (fX5_bits (12 : Int32) (3 : Int32) x) = 0 then
          if (fX5_bits (12 : Int32) (3 : Int32) x) = (1 : Int32) then
            if (fX5_bits (12 : Int32) (3 : Int32) x) = (4 : Int32) then
              if (fX5_bits (12 : Int32) (3 : Int32) x) = (5 : Int32) then
                fX5_lay (((((((ush ((r_mem ((fX5_may ((fX5_a x) + (fX5_numberI x)) ((1 : Int32) <<< (((fX5_bits (12 : Int32) (3 : Int32) x) &&& (3 : Int32)) &&& 31)) (4 : Int32) (5 : Int32) x).2)) (((fX5_a x) + (fX5_numberI x)) / (4 : Int32)).toNatClampNeg) ((8 : Int32) * (((fX5_a x) + (fX5_numberI x)) &&& (3 : Int32)))) <<< ((24 : Int32) &&& 31)) >>> ((24 : Int32) &&& 31)) <<< ((16 : Int32) &&& 31)) >>> ((16 : Int32) &&& 31)) &&& (255 : Int32)) &&& (65535 : Int32)) ((fX5_may ((fX5_a x) + (fX5_numberI x)) ((1 : Int32) <<< (((fX5_bits (12 : Int32) (3 : Int32) x) &&& (3 : Int32)) &&& 31)) (4 : Int32) (5 : Int32) x).2)
              else
                fX5_lay ((((((ush ((r_mem ((fX5_may ((fX5_a x) + (fX5_numberI x)) ((1 : Int32) <<< (((fX5_bits (12 : Int32) (3 : Int32) x) &&& (3 : Int32)) &&& 31)) (4 : Int32) (5 : Int32) x).2)) (((fX5_a x) + (fX5_numberI x)) / (4 : Int32)).toNatClampNeg) ((8 : Int32) * (((fX5_a x) + (fX5_numberI x)) &&& (3 : Int32)))) <<< ((24 : Int32) &&& 31)) >>> ((24 : Int32) &&& 31)) <<< ((16 : Int32) &&& 31)) >>> ((16 : Int32) &&& 31)) &&& (255 : Int32)) ((fX5_may ((fX5_a x) + (fX5_numberI x)) ((1 : Int32) <<< (((fX5_bits (12 : Int32) (3 : Int32) x) &&& (3 : Int32)) &&& 31)) (4 : Int32) (5 : Int32) x).2)
            else
              if (fX5_bits (12 : Int32) (3 : Int32) x) = (5 : Int32) then
                fX5_lay ((((((ush ((r_mem ((fX5_may ((fX5_a x) + (fX5_numberI x)) ((1 : Int32) <<< (((fX5_bits (12 : Int32) (3 : Int32) x) &&& (3 : Int32)) &&& 31)) (4 : Int32) (5 : Int32) x).2)) (((fX5_a x) + (fX5_numberI x)) / (4 : Int32)).toNatClampNeg) ((8 : Int32) * (((fX5_a x) + (fX5_numberI x)) &&& (3 : Int32)))) <<< ((24 : Int32) &&& 31)) >>> ((24 : Int32) &&& 31)) <<< ((16 : Int32) &&& 31)) >>> ((16 : Int32) &&& 31)) &&& (65535 : Int32)) ((fX5_may ((fX5_a x) + (fX5_numberI x)) ((1 : Int32) <<< (((fX5_bits (12 : Int32) (3 : Int32) x) &&& (3 : Int32)) &&& 31)) (4 : Int32) (5 : Int32) x).2)
              else
                fX5_lay (((((ush ((r_mem ((fX5_may ((fX5_a x) + (fX5_numberI x)) ((1 : Int32) <<< (((fX5_bits (12 : Int32) (3 : Int32) x) &&& (3 : Int32)) &&& 31)) (4 : Int32) (5 : Int32) x).2)) (((fX5_a x) + (fX5_numberI x)) / (4 : Int32)).toNatClampNeg) ((8 : Int32) * (((fX5_a x) + (fX5_numberI x)) &&& (3 : Int32)))) <<< ((24 : Int32) &&& 31)) >>> ((24 : Int32) &&& 31)) <<< ((16 : Int32) &&& 31)) >>> ((16 : Int32) &&& 31)) ((fX5_may ((fX5_a x) + (fX5_numberI x)) ((1 : Int32) <<< (((fX5_bits (12 : Int32) (3 : Int32) x) &&& (3 : Int32)) &&& 31)) (4 : Int32) (5 : Int32) x).2)
          else
            if (fX5_bits (12 : Int32) (3 : Int32) x) = (4 : Int32) then
              if (fX5_bits (12 : Int32) (3 : Int32) x) = (5 : Int32) then
                fX5_lay (((((ush ((r_mem ((fX5_may ((fX5_a x) + (fX5_numberI x)) ((1 : Int32) <<< (((fX5_bits (12 : Int32) (3 : Int32) x) &&& (3 : Int32)) &&& 31)) (4 : Int32) (5 : Int32) x).2)) (((fX5_a x) + (fX5_numberI x)) / (4 : Int32)).toNatClampNeg) ((8 : Int32) * (((fX5_a x) + (fX5_numberI x)) &&& (3 : Int32)))) <<< ((24 : Int32) &&& 31)) >>> ((24 : Int32) &&& 31)) &&& (255 : Int32)) &&& (65535 : Int32)) ((fX5_may ((fX5_a x) + (fX5_numberI x)) ((1 : Int32) <<< (((fX5_bits (12 : Int32) (3 : Int32) x) &&& (3 : Int32)) &&& 31)) (4 : Int32) (5 : Int32) x).2)
              else
                fX5_lay ((((ush ((r_mem ((fX5_may ((fX5_a x) + (fX5_numberI x)) ((1 : Int32) <<< (((fX5_bits (12 : Int32) (3 : Int32) x) &&& (3 : Int32)) &&& 31)) (4 : Int32) (5 : Int32) x).2)) (((fX5_a x) + (fX5_numberI x)) / (4 : Int32)).toNatClampNeg) ((8 : Int32) * (((fX5_a x) + (fX5_numberI x)) &&& (3 : Int32)))) <<< ((24 : Int32) &&& 31)) >>> ((24 : Int32) &&& 31)) &&& (255 : Int32)) ((fX5_may ((fX5_a x) + (fX5_numberI x)) ((1 : Int32) <<< (((fX5_bits (12 : Int32) (3 : Int32) x) &&& (3 : Int32)) &&& 31)) (4 : Int32) (5 : Int32) x).2)
            else
              if (fX5_bits (12 : Int32) (3 : Int32) x) = (5 : Int32) then
                fX5_lay ((((ush ((r_mem ((fX5_may ((fX5_a x) + (fX5_numberI x)) ((1 : Int32) <<< (((fX5_bits (12 : Int32) (3 : Int32) x) &&& (3 : Int32)) &&& 31)) (4 : Int32) (5 : Int32) x).2)) (((fX5_a x) + (fX5_numberI x)) / (4 : Int32)).toNatClampNeg) ((8 : Int32) * (((fX5_a x) + (fX5_numberI x)) &&& (3 : Int32)))) <<< ((24 : Int32) &&& 31)) >>> ((24 : Int32) &&& 31)) &&& (65535 : Int32)) ((fX5_may ((fX5_a x) + (fX5_numberI x)) ((1 : Int32) <<< (((fX5_bits (12 : Int32) (3 : Int32) x) &&& (3 : Int32)) &&& 31)) (4 : Int32) (5 : Int32) x).2)
              else
                fX5_lay (((ush ((r_mem ((fX5_may ((fX5_a x) + (fX5_numberI x)) ((1 : Int32) <<< (((fX5_bits (12 : Int32) (3 : Int32) x) &&& (3 : Int32)) &&& 31)) (4 : Int32) (5 : Int32) x).2)) (((fX5_a x) + (fX5_numberI x)) / (4 : Int32)).toNatClampNeg) ((8 : Int32) * (((fX5_a x) + (fX5_numberI x)) &&& (3 : Int32)))) <<< ((24 : Int32) &&& 31)) >>> ((24 : Int32) &&& 31)) ((fX5_may ((fX5_a x) + (fX5_numberI x)) ((1 : Int32) <<< (((fX5_bits (12 : Int32) (3 : Int32) x) &&& (3 : Int32)) &&& 31)) (4 : Int32) (5 : Int32) x).2)
        else
          if (fX5_bits (12 : Int32) (3 : Int32) x) = (1 : Int32) then
            if (fX5_bits (12 : Int32) (3 : Int32) x) = (4 : Int32) then
              if (fX5_bits (12 : Int32) (3 : Int32) x) = (5 : Int32) then
                fX5_lay (((((ush ((r_mem ((fX5_may ((fX5_a x) + (fX5_numberI x)) ((1 : Int32) <<< (((fX5_bits (12 : Int32) (3 : Int32) x) &&& (3 : Int32)) &&& 31)) (4 : Int32) (5 : Int32) x).2)) (((fX5_a x) + (fX5_numberI x)) / (4 : Int32)).toNatClampNeg) ((8 : Int32) * (((fX5_a x) + (fX5_numberI x)) &&& (3 : Int32)))) <<< ((16 : Int32) &&& 31)) >>> ((16 : Int32) &&& 31)) &&& (255 : Int32)) &&& (65535 : Int32)) ((fX5_may ((fX5_a x) + (fX5_numberI x)) ((1 : Int32) <<< (((fX5_bits (12 : Int32) (3 : Int32) x) &&& (3 : Int32)) &&& 31)) (4 : Int32) (5 : Int32) x).2)
              else
                fX5_lay ((((ush ((r_mem ((fX5_may ((fX5_a x) + (fX5_numberI x)) ((1 : Int32) <<< (((fX5_bits (12 : Int32) (3 : Int32) x) &&& (3 : Int32)) &&& 31)) (4 : Int32) (5 : Int32) x).2)) (((fX5_a x) + (fX5_numberI x)) / (4 : Int32)).toNatClampNeg) ((8 : Int32) * (((fX5_a x) + (fX5_numberI x)) &&& (3 : Int32)))) <<< ((16 : Int32) &&& 31)) >>> ((16 : Int32) &&& 31)) &&& (255 : Int32)) ((fX5_may ((fX5_a x) + (fX5_numberI x)) ((1 : Int32) <<< (((fX5_bits (12 : Int32) (3 : Int32) x) &&& (3 : Int32)) &&& 31)) (4 : Int32) (5 : Int32) x).2)
            else
              if (fX5_bits (12 : Int32) (3 : Int32) x) = (5 : Int32) then
                fX5_lay ((((ush ((r_mem ((fX5_may ((fX5_a x) + (fX5_numberI x)) ((1 : Int32) <<< (((fX5_bits (12 : Int32) (3 : Int32) x) &&& (3 : Int32)) &&& 31)) (4 : Int32) (5 : Int32) x).2)) (((fX5_a x) + (fX5_numberI x)) / (4 : Int32)).toNatClampNeg) ((8 : Int32) * (((fX5_a x) + (fX5_numberI x)) &&& (3 : Int32)))) <<< ((16 : Int32) &&& 31)) >>> ((16 : Int32) &&& 31)) &&& (65535 : Int32)) ((fX5_may ((fX5_a x) + (fX5_numberI x)) ((1 : Int32) <<< (((fX5_bits (12 : Int32) (3 : Int32) x) &&& (3 : Int32)) &&& 31)) (4 : Int32) (5 : Int32) x).2)
              else
                fX5_lay (((ush ((r_mem ((fX5_may ((fX5_a x) + (fX5_numberI x)) ((1 : Int32) <<< (((fX5_bits (12 : Int32) (3 : Int32) x) &&& (3 : Int32)) &&& 31)) (4 : Int32) (5 : Int32) x).2)) (((fX5_a x) + (fX5_numberI x)) / (4 : Int32)).toNatClampNeg) ((8 : Int32) * (((fX5_a x) + (fX5_numberI x)) &&& (3 : Int32)))) <<< ((16 : Int32) &&& 31)) >>> ((16 : Int32) &&& 31)) ((fX5_may ((fX5_a x) + (fX5_numberI x)) ((1 : Int32) <<< (((fX5_bits (12 : Int32) (3 : Int32) x) &&& (3 : Int32)) &&& 31)) (4 : Int32) (5 : Int32) x).2)
          else
            if (fX5_bits (12 : Int32) (3 : Int32) x) = (4 : Int32) then
              if (fX5_bits (12 : Int32) (3 : Int32) x) = (5 : Int32) then
                fX5_lay (((ush ((r_mem ((fX5_may ((fX5_a x) + (fX5_numberI x)) ((1 : Int32) <<< (((fX5_bits (12 : Int32) (3 : Int32) x) &&& (3 : Int32)) &&& 31)) (4 : Int32) (5 : Int32) x).2)) (((fX5_a x) + (fX5_numberI x)) / (4 : Int32)).toNatClampNeg) ((8 : Int32) * (((fX5_a x) + (fX5_numberI x)) &&& (3 : Int32)))) &&& (255 : Int32)) &&& (65535 : Int32)) ((fX5_may ((fX5_a x) + (fX5_numberI x)) ((1 : Int32) <<< (((fX5_bits (12 : Int32) (3 : Int32) x) &&& (3 : Int32)) &&& 31)) (4 : Int32) (5 : Int32) x).2)
              else
                fX5_lay ((ush ((r_mem ((fX5_may ((fX5_a x) + (fX5_numberI x)) ((1 : Int32) <<< (((fX5_bits (12 : Int32) (3 : Int32) x) &&& (3 : Int32)) &&& 31)) (4 : Int32) (5 : Int32) x).2)) (((fX5_a x) + (fX5_numberI x)) / (4 : Int32)).toNatClampNeg) ((8 : Int32) * (((fX5_a x) + (fX5_numberI x)) &&& (3 : Int32)))) &&& (255 : Int32)) ((fX5_may ((fX5_a x) + (fX5_numberI x)) ((1 : Int32) <<< (((fX5_bits (12 : Int32) (3 : Int32) x) &&& (3 : Int32)) &&& 31)) (4 : Int32) (5 : Int32) x).2)
            else
              if (fX5_bits (12 : Int32) (3 : Int32) x) = (5 : Int32) then
                fX5_lay ((ush ((r_mem ((fX5_may ((fX5_a x) + (fX5_numberI x)) ((1 : Int32) <<< (((fX5_bits (12 : Int32) (3 : Int32) x) &&& (3 : Int32)) &&& 31)) (4 : Int32) (5 : Int32) x).2)) (((fX5_a x) + (fX5_numberI x)) / (4 : Int32)).toNatClampNeg) ((8 : Int32) * (((fX5_a x) + (fX5_numberI x)) &&& (3 : Int32)))) &&& (65535 : Int32)) ((fX5_may ((fX5_a x) + (fX5_numberI x)) ((1 : Int32) <<< (((fX5_bits (12 : Int32) (3 : Int32) x) &&& (3 : Int32)) &&& 31)) (4 : Int32) (5 : Int32) x).2)
              else
                fX5_lay (ush ((r_mem ((fX5_may ((fX5_a x) + (fX5_numberI x)) ((1 : Int32) <<< (((fX5_bits (12 : Int32) (3 : Int32) x) &&& (3 : Int32)) &&& 31)) (4 : Int32) (5 : Int32) x).2)) (((fX5_a x) + (fX5_numberI x)) / (4 : Int32)).toNatClampNeg) ((8 : Int32) * (((fX5_a x) + (fX5_numberI x)) &&& (3 : Int32)))) ((fX5_may ((fX5_a x) + (fX5_numberI x)) ((1 : Int32) <<< (((fX5_bits (12 : Int32) (3 : Int32) x) &&& (3 : Int32)) &&& 31)) (4 : Int32) (5 : Int32) x).2)
    else
      fX5_none x
set_option maxHeartbeats 4000000 in
set_option maxRecDepth 100000 in
theorem mX5_load (l : Launch) (dC : Nat → ClassId) (dI : Nat → Nat → Nat) (bH bM bR bC jM jR jC : Nat) (sz : Nat) (x : SR) : Met l yX5_load wsX5_load ({ frames := 2, cells := 0, slots := 0, locals := 46 }) (va_Pc [.ref bH] (kM (dC, dI) [(jM, .int), (jR, .int), (jC, .int)] NT (wR bH bM bR bC jM jR jC x) sz)) (va_Qv (fun u => u = fX5_load x) (fun u t => va_P (dC, dI) vwCl (wR bH bM bR bC jM jR jC u) t.heap) (va_A (wR bH bM bR bC jM jR jC x) sz)) 0 0 (va_A (wR bH bM bR bC jM jR jC x) sz) := by
  refine Met.ofW (cc := cX5_load) (maxL := 5) (ret := none) (by decide) rfl ?_
  intro p e s m args below meth c s₁ B hml hv
  obtain ⟨rfl, hsz, hD0, hP, hK, hN⟩ := hv
  have hx := B.exec
  have hb := B.bytes
  have hr := B.returns
  have hB := fun (w : Cond) (h : w ∈ BIG) => atoms_spec (ws := wsX5_load) B.pre w (List.mem_cons_of_mem _ h)
  have hown : s.vm.findClass RX5 = some m.cls := findClass_of_methodNamed B.named
  have hlocks := B.notSynchronized
  subst hsz
  have hD := hD0.self (sz := s.heap.size)
  generalize hAe : va_A (wR bH bM bR bC jM jR jC x) s.heap.size = A at hD ⊢
  have hA : ∀ q : Nat, s.heap.size ≤ q → A q := fun q h => by rw [← hAe]; exact Or.inr h
  have hS : va_S A s.heap s.heap [] := va_S.rf
  have hl := lv_entry ([.ref bH]) (n := 5) (Nat.le_of_ble_eq_true rfl)
  rw [lg_entry_eq]
  generalize (lg_sl ([.ref bH]) ++ List.replicate (5 - (lg_sl ([.ref bH])).length) Slot.unset).toArray = ls at hl ⊢
  have hl : lv_has ls 5 [(0, .ref bH)] := hl
  refine lv_aload_n hx hb dX5_load_0 rfl (lv_at hl 0 rfl) ?_
  refine lv_bipush (v := 12) hx hb dX5_load_1 (by decide) ?_
  refine lv_iconst (v := 3) hx hb dX5_load_3 (by decide) ?_
  refine k_ri (va_runV (As := [.int (12 : Int32), .int (3 : Int32)]) (rest := []) ⟨hx, hb, hml, hown, hB⟩ (mX5_bits l dC dI bH bM bR bC jM jR jC x (12 : Int32) (3 : Int32)) (cwV 2 hB (gV q_t3_78 q_t3_80 q_s_37 q_t1_4 wX5_bits) rfl rfl rfl hX5_bits ⟨Nat.le_of_ble_eq_true rfl, Nat.le_of_ble_eq_true rfl⟩) ⟨kP_blind NT_blind, va_recv hK hP (ci := 3) (q0 := 0) rfl rfl, kP_pre NT_warm hP hK hN⟩ rfl rfl hl.1 rfl (lv_room (Nat.le_of_ble_eq_true rfl)) dX5_load_4 ⟨Nat.zero_le _, Nat.zero_le _⟩) ?_
  refine lv_istore_n (lv' := [(1, .int (fX5_bits (12 : Int32) (3 : Int32) x)), (0, .ref bH)]) hx hb dX5_load_7 rfl hl (by decide) rfl (fun ls hl => ?_)
  refine lv_iload_n hx hb dX5_load_8 rfl (lv_at hl 0 rfl) ?_
  refine lv_iconst (v := 3) hx hb dX5_load_9 (by decide) ?_
  refine lv_icmp_eq (tgt := 18) hx hb dX5_load_10 (by decide) (fun c_10 => ?_) (fun c_10 => ?_)
  · refine lv_aload_n hx hb dX5_load_18 rfl (lv_at hl 1 rfl) ?_
    refine k_mv (w := wR bH bM bR bC jM jR jC) wR_ad (va_runV (As := []) (rest := []) ⟨hx, hb, hml, hown, hB⟩ (mX5_none l dC dI bH bM bR bC jM jR jC s.heap.size x) (cwV 0 hB (gV q_t3_102 q_t3_104 q_s_43 q_t1_4 wX5_none) rfl rfl rfl hX5_none ⟨Nat.le_of_ble_eq_true rfl, Nat.le_of_ble_eq_true rfl⟩) ⟨kM_blind NT_blind, va_recv hK hP (ci := 3) (q0 := 0) rfl rfl, kM_pre NT_warm hP hK hD hN⟩ rfl rfl hl.1 rfl (lv_room (Nat.le_of_ble_eq_true rfl)) dX5_load_19 ⟨Nat.zero_le _, Nat.zero_le _⟩) hD hS hA (fun u H locs hw hP hD hS => ?_)
    obtain rfl := hw
    exact W.vret hx hb hr (fun t ht hW => ⟨⟨(fX5_none x), rfl, (by unfold fX5_load; rw [if_pos c_10] <;> rfl), hpT ht hP⟩, hS.F ht⟩) hS.2.2 dX5_load_22
  · refine lv_iload_n hx hb dX5_load_13 rfl (lv_at hl 0 rfl) ?_
    refine lv_iconst (v := 5) hx hb dX5_load_14 (by decide) ?_
    refine lv_icmp_le (tgt := 23) hx hb dX5_load_15 (by decide) (fun c_15 => ?_) (fun c_15 => ?_)
    · refine lv_iconst (v := 1) hx hb dX5_load_23 (by decide) ?_
      refine lv_iload_n hx hb dX5_load_24 rfl (lv_at hl 0 rfl) ?_
      refine lv_iconst (v := 3) hx hb dX5_load_25 (by decide) ?_
      refine lv_iand hx hb dX5_load_26 ?_
      refine lv_ishl hx hb dX5_load_27 ?_
      refine lv_istore_n (lv' := [(2, .int ((1 : Int32) <<< (((fX5_bits (12 : Int32) (3 : Int32) x) &&& (3 : Int32)) &&& 31))), (1, .int (fX5_bits (12 : Int32) (3 : Int32) x)), (0, .ref bH)]) hx hb dX5_load_28 rfl hl (by decide) rfl (fun ls hl => ?_)
      refine lv_aload_n hx hb dX5_load_29 rfl (lv_at hl 2 rfl) ?_
      refine k_ri (va_runV (As := []) (rest := []) ⟨hx, hb, hml, hown, hB⟩ (mX5_a l dC dI bH bM bR bC jM jR jC x) (cwV 0 hB (gV q_t3_106 q_t3_108 q_s_44 q_t1_4 wX5_a) rfl rfl rfl hX5_a ⟨Nat.le_of_ble_eq_true rfl, Nat.le_of_ble_eq_true rfl⟩) ⟨kP_blind NT_blind, va_recv hK hP (ci := 3) (q0 := 0) rfl rfl, kP_pre NT_warm hP hK hN⟩ rfl rfl hl.1 rfl (lv_room (Nat.le_of_ble_eq_true rfl)) dX5_load_30 ⟨Nat.zero_le _, Nat.zero_le _⟩) ?_
      refine lv_aload_n hx hb dX5_load_33 rfl (lv_at hl 2 rfl) ?_
      refine k_ri (va_runV (As := []) (rest := [.int (fX5_a x)]) ⟨hx, hb, hml, hown, hB⟩ (mX5_numberI l dC dI bH bM bR bC jM jR jC x) (cwV 0 hB (gV q_t3_110 q_t3_112 q_s_45 q_t1_4 wX5_numberI) rfl rfl rfl hX5_numberI ⟨Nat.le_of_ble_eq_true rfl, Nat.le_of_ble_eq_true rfl⟩) ⟨kP_blind NT_blind, va_recv hK hP (ci := 3) (q0 := 0) rfl rfl, kP_pre NT_warm hP hK hN⟩ rfl rfl hl.1 rfl (lv_room (Nat.le_of_ble_eq_true rfl)) dX5_load_34 ⟨Nat.zero_le _, Nat.zero_le _⟩) ?_
      refine lv_iadd hx hb dX5_load_37 ?_
      refine lv_istore_n (lv' := [(3, .int ((fX5_a x) + (fX5_numberI x))), (2, .int ((1 : Int32) <<< (((fX5_bits (12 : Int32) (3 : Int32) x) &&& (3 : Int32)) &&& 31))), (1, .int (fX5_bits (12 : Int32) (3 : Int32) x)), (0, .ref bH)]) hx hb dX5_load_38 rfl hl (by decide) rfl (fun ls hl => ?_)
      refine lv_aload_n hx hb dX5_load_39 rfl (lv_at hl 3 rfl) ?_
      refine lv_iload_n hx hb dX5_load_40 rfl (lv_at hl 0 rfl) ?_
      refine lv_iload_n hx hb dX5_load_41 rfl (lv_at hl 1 rfl) ?_
      refine lv_iconst (v := 4) hx hb dX5_load_42 (by decide) ?_
      refine lv_iconst (v := 5) hx hb dX5_load_43 (by decide) ?_
      refine k_mi (w := wR bH bM bR bC jM jR jC) wR_ad (va_runV (As := [.int ((fX5_a x) + (fX5_numberI x)), .int ((1 : Int32) <<< (((fX5_bits (12 : Int32) (3 : Int32) x) &&& (3 : Int32)) &&& 31)), .int (4 : Int32), .int (5 : Int32)]) (rest := []) ⟨hx, hb, hml, hown, hB⟩ (mX5_may l dC dI bH bM bR bC jM jR jC s.heap.size x ((fX5_a x) + (fX5_numberI x)) ((1 : Int32) <<< (((fX5_bits (12 : Int32) (3 : Int32) x) &&& (3 : Int32)) &&& 31)) (4 : Int32) (5 : Int32)) (cwV 4 hB (gV q_t3_134 q_t3_136 q_s_50 q_t1_4 wX5_may) rfl rfl rfl hX5_may ⟨Nat.le_of_ble_eq_true rfl, Nat.le_of_ble_eq_true rfl⟩) ⟨kM_blind NT_blind, va_recv hK hP (ci := 3) (q0 := 0) rfl rfl, kM_pre NT_warm hP hK hD hN⟩ rfl rfl hl.1 rfl (lv_room (Nat.le_of_ble_eq_true rfl)) dX5_load_44 ⟨Nat.zero_le _, Nat.zero_le _⟩) hD hS hA (fun r u H locs hw hP hD hS => ?_)
      obtain ⟨rfl, rfl⟩ := hw
      refine lv_if_ne (tgt := 51) hx hb dX5_load_47 (by decide) (fun c_47 => ?_) (fun c_47 => ?_)
      · refine lv_aload_n hx hb dX5_load_51 rfl (lv_at hl 3 rfl) ?_
        refine va_get (D := (dC, dI)) (ci := 3) (v := .ref bM) (C := RX5) (T := TX5) (N := 15) hx hb hB iX5 hown hK hP 0 rfl rfl 1 (by decide) (hB _ q_t2_232) (fun _ h9 => h9) rfl dX5_load_52 ?_
        refine lv_iload_n hx hb dX5_load_55 rfl (lv_at hl 0 rfl) ?_
        refine lv_iconst (v := 4) hx hb dX5_load_56 (by decide) ?_
        refine lv_idiv hx hb dX5_load_57 (by decide) ?_
        refine va_iald hx hb hK hP 1 0 rfl rfl (in_may (sz_and _ 2 (by decide) (by decide)) c_47) dX5_load_58 ?_
        refine lv_bipush (v := 8) hx hb dX5_load_59 (by decide) ?_
        refine lv_iload_n hx hb dX5_load_61 rfl (lv_at hl 0 rfl) ?_
        refine lv_iconst (v := 3) hx hb dX5_load_62 (by decide) ?_
        refine lv_iand hx hb dX5_load_63 ?_
        refine lv_imul hx hb dX5_load_64 ?_
        refine lv_iushr (v := ush ((r_mem ((fX5_may ((fX5_a x) + (fX5_numberI x)) ((1 : Int32) <<< (((fX5_bits (12 : Int32) (3 : Int32) x) &&& (3 : Int32)) &&& 31)) (4 : Int32) (5 : Int32) x).2)) (((fX5_a x) + (fX5_numberI x)) / (4 : Int32)).toNatClampNeg) ((8 : Int32) * (((fX5_a x) + (fX5_numberI x)) &&& (3 : Int32)))) hx hb dX5_load_65 rfl ?_
        refine lv_istore (lv' := [(4, .int (ush ((r_mem ((fX5_may ((fX5_a x) + (fX5_numberI x)) ((1 : Int32) <<< (((fX5_bits (12 : Int32) (3 : Int32) x) &&& (3 : Int32)) &&& 31)) (4 : Int32) (5 : Int32) x).2)) (((fX5_a x) + (fX5_numberI x)) / (4 : Int32)).toNatClampNeg) ((8 : Int32) * (((fX5_a x) + (fX5_numberI x)) &&& (3 : Int32))))), (3, .int ((fX5_a x) + (fX5_numberI x))), (2, .int ((1 : Int32) <<< (((fX5_bits (12 : Int32) (3 : Int32) x) &&& (3 : Int32)) &&& 31))), (1, .int (fX5_bits (12 : Int32) (3 : Int32) x)), (0, .ref bH)]) hx hb dX5_load_66 hl (by decide) rfl (fun ls hl => ?_)
        refine lv_iload_n hx hb dX5_load_68 rfl (lv_at hl 3 rfl) ?_
        refine lv_if_ne (tgt := 82) hx hb dX5_load_69 (by decide) (fun c_69 => ?_) (fun c_69 => ?_)
        · refine lv_iload_n hx hb dX5_load_82 rfl (lv_at hl 3 rfl) ?_
          refine lv_iconst (v := 1) hx hb dX5_load_83 (by decide) ?_
          refine lv_icmp_ne (tgt := 97) hx hb dX5_load_84 (by decide) (fun c_84 => ?_) (fun c_84 => ?_)
          · refine lv_iload_n hx hb dX5_load_97 rfl (lv_at hl 3 rfl) ?_
            refine lv_iconst (v := 4) hx hb dX5_load_98 (by decide) ?_
            refine lv_icmp_ne (tgt := 110) hx hb dX5_load_99 (by decide) (fun c_99 => ?_) (fun c_99 => ?_)
            · refine lv_iload_n hx hb dX5_load_110 rfl (lv_at hl 3 rfl) ?_
              refine lv_iconst (v := 5) hx hb dX5_load_111 (by decide) ?_
              refine lv_icmp_ne (tgt := 122) hx hb dX5_load_112 (by decide) (fun c_112 => ?_) (fun c_112 => ?_)
              · refine lv_aload_n hx hb dX5_load_122 rfl (lv_at hl 4 rfl) ?_
                refine lv_iload hx hb dX5_load_123 (lv_at hl 0 rfl) ?_
                refine k_mv (w := wR bH bM bR bC jM jR jC) wR_ad (va_runV (As := [.int (ush ((r_mem ((fX5_may ((fX5_a x) + (fX5_numberI x)) ((1 : Int32) <<< (((fX5_bits (12 : Int32) (3 : Int32) x) &&& (3 : Int32)) &&& 31)) (4 : Int32) (5 : Int32) x).2)) (((fX5_a x) + (fX5_numberI x)) / (4 : Int32)).toNatClampNeg) ((8 : Int32) * (((fX5_a x) + (fX5_numberI x)) &&& (3 : Int32))))]) (rest := []) ⟨hx, hb, hml, hown, hB⟩ (mX5_lay l dC dI bH bM bR bC jM jR jC H.size ((fX5_may ((fX5_a x) + (fX5_numberI x)) ((1 : Int32) <<< (((fX5_bits (12 : Int32) (3 : Int32) x) &&& (3 : Int32)) &&& 31)) (4 : Int32) (5 : Int32) x).2) (ush ((r_mem ((fX5_may ((fX5_a x) + (fX5_numberI x)) ((1 : Int32) <<< (((fX5_bits (12 : Int32) (3 : Int32) x) &&& (3 : Int32)) &&& 31)) (4 : Int32) (5 : Int32) x).2)) (((fX5_a x) + (fX5_numberI x)) / (4 : Int32)).toNatClampNeg) ((8 : Int32) * (((fX5_a x) + (fX5_numberI x)) &&& (3 : Int32))))) (cwV 1 hB (gV q_t3_86 q_t3_88 q_s_39 q_t1_4 wX5_lay) rfl rfl rfl hX5_lay ⟨Nat.le_of_ble_eq_true rfl, Nat.le_of_ble_eq_true rfl⟩) ⟨kM_blind NT_blind, va_recv hK hP (ci := 3) (q0 := 0) rfl rfl, kM_pre NT_warm hP hK hD hN⟩ rfl rfl hl.1 rfl (lv_room (Nat.le_of_ble_eq_true rfl)) dX5_load_125 ⟨Nat.zero_le _, Nat.zero_le _⟩) hD hS hA (fun u H locs hw hP hD hS => ?_)
                obtain rfl := hw
                exact W.vret hx hb hr (fun t ht hW => ⟨⟨(fX5_lay (ush ((r_mem ((fX5_may ((fX5_a x) + (fX5_numberI x)) ((1 : Int32) <<< (((fX5_bits (12 : Int32) (3 : Int32) x) &&& (3 : Int32)) &&& 31)) (4 : Int32) (5 : Int32) x).2)) (((fX5_a x) + (fX5_numberI x)) / (4 : Int32)).toNatClampNeg) ((8 : Int32) * (((fX5_a x) + (fX5_numberI x)) &&& (3 : Int32)))) ((fX5_may ((fX5_a x) + (fX5_numberI x)) ((1 : Int32) <<< (((fX5_bits (12 : Int32) (3 : Int32) x) &&& (3 : Int32)) &&& 31)) (4 : Int32) (5 : Int32) x).2)), rfl, (by unfold fX5_load; rw [if_neg c_10, if_pos c_15, if_neg c_47, if_neg c_69, if_neg c_84, if_neg c_99, if_neg c_112] <;> rfl), hpT ht hP⟩, hS.F ht⟩) hS.2.2 dX5_load_128
              · refine lv_iload hx hb dX5_load_115 (lv_at hl 0 rfl) ?_
                refine lv_ldc (v := 65535) hx hb hown (hB _ q_t3_138) dX5_load_117 ?_
                refine lv_iand hx hb dX5_load_119 ?_
                refine lv_istore (lv' := [(4, .int ((ush ((r_mem ((fX5_may ((fX5_a x) + (fX5_numberI x)) ((1 : Int32) <<< (((fX5_bits (12 : Int32) (3 : Int32) x) &&& (3 : Int32)) &&& 31)) (4 : Int32) (5 : Int32) x).2)) (((fX5_a x) + (fX5_numberI x)) / (4 : Int32)).toNatClampNeg) ((8 : Int32) * (((fX5_a x) + (fX5_numberI x)) &&& (3 : Int32)))) &&& (65535 : Int32))), (3, .int ((fX5_a x) + (fX5_numberI x))), (2, .int ((1 : Int32) <<< (((fX5_bits (12 : Int32) (3 : Int32) x) &&& (3 : Int32)) &&& 31))), (1, .int (fX5_bits (12 : Int32) (3 : Int32) x)), (0, .ref bH)]) hx hb dX5_load_120 hl (by decide) rfl (fun ls hl => ?_)
                refine lv_aload_n hx hb dX5_load_122 rfl (lv_at hl 4 rfl) ?_
                refine lv_iload hx hb dX5_load_123 (lv_at hl 0 rfl) ?_
                refine k_mv (w := wR bH bM bR bC jM jR jC) wR_ad (va_runV (As := [.int ((ush ((r_mem ((fX5_may ((fX5_a x) + (fX5_numberI x)) ((1 : Int32) <<< (((fX5_bits (12 : Int32) (3 : Int32) x) &&& (3 : Int32)) &&& 31)) (4 : Int32) (5 : Int32) x).2)) (((fX5_a x) + (fX5_numberI x)) / (4 : Int32)).toNatClampNeg) ((8 : Int32) * (((fX5_a x) + (fX5_numberI x)) &&& (3 : Int32)))) &&& (65535 : Int32))]) (rest := []) ⟨hx, hb, hml, hown, hB⟩ (mX5_lay l dC dI bH bM bR bC jM jR jC H.size ((fX5_may ((fX5_a x) + (fX5_numberI x)) ((1 : Int32) <<< (((fX5_bits (12 : Int32) (3 : Int32) x) &&& (3 : Int32)) &&& 31)) (4 : Int32) (5 : Int32) x).2) ((ush ((r_mem ((fX5_may ((fX5_a x) + (fX5_numberI x)) ((1 : Int32) <<< (((fX5_bits (12 : Int32) (3 : Int32) x) &&& (3 : Int32)) &&& 31)) (4 : Int32) (5 : Int32) x).2)) (((fX5_a x) + (fX5_numberI x)) / (4 : Int32)).toNatClampNeg) ((8 : Int32) * (((fX5_a x) + (fX5_numberI x)) &&& (3 : Int32)))) &&& (65535 : Int32))) (cwV 1 hB (gV q_t3_86 q_t3_88 q_s_39 q_t1_4 wX5_lay) rfl rfl rfl hX5_lay ⟨Nat.le_of_ble_eq_true rfl, Nat.le_of_ble_eq_true rfl⟩) ⟨kM_blind NT_blind, va_recv hK hP (ci := 3) (q0 := 0) rfl rfl, kM_pre NT_warm hP hK hD hN⟩ rfl rfl hl.1 rfl (lv_room (Nat.le_of_ble_eq_true rfl)) dX5_load_125 ⟨Nat.zero_le _, Nat.zero_le _⟩) hD hS hA (fun u H locs hw hP hD hS => ?_)
                obtain rfl := hw
                exact W.vret hx hb hr (fun t ht hW => ⟨⟨(fX5_lay ((ush ((r_mem ((fX5_may ((fX5_a x) + (fX5_numberI x)) ((1 : Int32) <<< (((fX5_bits (12 : Int32) (3 : Int32) x) &&& (3 : Int32)) &&& 31)) (4 : Int32) (5 : Int32) x).2)) (((fX5_a x) + (fX5_numberI x)) / (4 : Int32)).toNatClampNeg) ((8 : Int32) * (((fX5_a x) + (fX5_numberI x)) &&& (3 : Int32)))) &&& (65535 : Int32)) ((fX5_may ((fX5_a x) + (fX5_numberI x)) ((1 : Int32) <<< (((fX5_bits (12 : Int32) (3 : Int32) x) &&& (3 : Int32)) &&& 31)) (4 : Int32) (5 : Int32) x).2)), rfl, (by unfold fX5_load; rw [if_neg c_10, if_pos c_15, if_neg c_47, if_neg c_69, if_neg c_84, if_neg c_99, if_pos c_112] <;> rfl), hpT ht hP⟩, hS.F ht⟩) hS.2.2 dX5_load_128
            · refine lv_iload hx hb dX5_load_102 (lv_at hl 0 rfl) ?_
              refine lv_sipush (v := 255) hx hb dX5_load_104 (by decide) ?_
              refine lv_iand hx hb dX5_load_107 ?_
              refine lv_istore (lv' := [(4, .int ((ush ((r_mem ((fX5_may ((fX5_a x) + (fX5_numberI x)) ((1 : Int32) <<< (((fX5_bits (12 : Int32) (3 : Int32) x) &&& (3 : Int32)) &&& 31)) (4 : Int32) (5 : Int32) x).2)) (((fX5_a x) + (fX5_numberI x)) / (4 : Int32)).toNatClampNeg) ((8 : Int32) * (((fX5_a x) + (fX5_numberI x)) &&& (3 : Int32)))) &&& (255 : Int32))), (3, .int ((fX5_a x) + (fX5_numberI x))), (2, .int ((1 : Int32) <<< (((fX5_bits (12 : Int32) (3 : Int32) x) &&& (3 : Int32)) &&& 31))), (1, .int (fX5_bits (12 : Int32) (3 : Int32) x)), (0, .ref bH)]) hx hb dX5_load_108 hl (by decide) rfl (fun ls hl => ?_)
              refine lv_iload_n hx hb dX5_load_110 rfl (lv_at hl 3 rfl) ?_
              refine lv_iconst (v := 5) hx hb dX5_load_111 (by decide) ?_
              refine lv_icmp_ne (tgt := 122) hx hb dX5_load_112 (by decide) (fun c_112 => ?_) (fun c_112 => ?_)
              · refine lv_aload_n hx hb dX5_load_122 rfl (lv_at hl 4 rfl) ?_
                refine lv_iload hx hb dX5_load_123 (lv_at hl 0 rfl) ?_
                refine k_mv (w := wR bH bM bR bC jM jR jC) wR_ad (va_runV (As := [.int ((ush ((r_mem ((fX5_may ((fX5_a x) + (fX5_numberI x)) ((1 : Int32) <<< (((fX5_bits (12 : Int32) (3 : Int32) x) &&& (3 : Int32)) &&& 31)) (4 : Int32) (5 : Int32) x).2)) (((fX5_a x) + (fX5_numberI x)) / (4 : Int32)).toNatClampNeg) ((8 : Int32) * (((fX5_a x) + (fX5_numberI x)) &&& (3 : Int32)))) &&& (255 : Int32))]) (rest := []) ⟨hx, hb, hml, hown, hB⟩ (mX5_lay l dC dI bH bM bR bC jM jR jC H.size ((fX5_may ((fX5_a x) + (fX5_numberI x)) ((1 : Int32) <<< (((fX5_bits (12 : Int32) (3 : Int32) x) &&& (3 : Int32)) &&& 31)) (4 : Int32) (5 : Int32) x).2) ((ush ((r_mem ((fX5_may ((fX5_a x) + (fX5_numberI x)) ((1 : Int32) <<< (((fX5_bits (12 : Int32) (3 : Int32) x) &&& (3 : Int32)) &&& 31)) (4 : Int32) (5 : Int32) x).2)) (((fX5_a x) + (fX5_numberI x)) / (4 : Int32)).toNatClampNeg) ((8 : Int32) * (((fX5_a x) + (fX5_numberI x)) &&& (3 : Int32)))) &&& (255 : Int32))) (cwV 1 hB (gV q_t3_86 q_t3_88 q_s_39 q_t1_4 wX5_lay) rfl rfl rfl hX5_lay ⟨Nat.le_of_ble_eq_true rfl, Nat.le_of_ble_eq_true rfl⟩) ⟨kM_blind NT_blind, va_recv hK hP (ci := 3) (q0 := 0) rfl rfl, kM_pre NT_warm hP hK hD hN⟩ rfl rfl hl.1 rfl (lv_room (Nat.le_of_ble_eq_true rfl)) dX5_load_125 ⟨Nat.zero_le _, Nat.zero_le _⟩) hD hS hA (fun u H locs hw hP hD hS => ?_)
                obtain rfl := hw
                exact W.vret hx hb hr (fun t ht hW => ⟨⟨(fX5_lay ((ush ((r_mem ((fX5_may ((fX5_a x) + (fX5_numberI x)) ((1 : Int32) <<< (((fX5_bits (12 : Int32) (3 : Int32) x) &&& (3 : Int32)) &&& 31)) (4 : Int32) (5 : Int32) x).2)) (((fX5_a x) + (fX5_numberI x)) / (4 : Int32)).toNatClampNeg) ((8 : Int32) * (((fX5_a x) + (fX5_numberI x)) &&& (3 : Int32)))) &&& (255 : Int32)) ((fX5_may ((fX5_a x) + (fX5_numberI x)) ((1 : Int32) <<< (((fX5_bits (12 : Int32) (3 : Int32) x) &&& (3 : Int32)) &&& 31)) (4 : Int32) (5 : Int32) x).2)), rfl, (by unfold fX5_load; rw [if_neg c_10, if_pos c_15, if_neg c_47, if_neg c_69, if_neg c_84, if_pos c_99, if_neg c_112] <;> rfl), hpT ht hP⟩, hS.F ht⟩) hS.2.2 dX5_load_128
              · refine lv_iload hx hb dX5_load_115 (lv_at hl 0 rfl) ?_
                refine lv_ldc (v := 65535) hx hb hown (hB _ q_t3_138) dX5_load_117 ?_
                refine lv_iand hx hb dX5_load_119 ?_
                refine lv_istore (lv' := [(4, .int (((ush ((r_mem ((fX5_may ((fX5_a x) + (fX5_numberI x)) ((1 : Int32) <<< (((fX5_bits (12 : Int32) (3 : Int32) x) &&& (3 : Int32)) &&& 31)) (4 : Int32) (5 : Int32) x).2)) (((fX5_a x) + (fX5_numberI x)) / (4 : Int32)).toNatClampNeg) ((8 : Int32) * (((fX5_a x) + (fX5_numberI x)) &&& (3 : Int32)))) &&& (255 : Int32)) &&& (65535 : Int32))), (3, .int ((fX5_a x) + (fX5_numberI x))), (2, .int ((1 : Int32) <<< (((fX5_bits (12 : Int32) (3 : Int32) x) &&& (3 : Int32)) &&& 31))), (1, .int (fX5_bits (12 : Int32) (3 : Int32) x)), (0, .ref bH)]) hx hb dX5_load_120 hl (by decide) rfl (fun ls hl => ?_)
                refine lv_aload_n hx hb dX5_load_122 rfl (lv_at hl 4 rfl) ?_
                refine lv_iload hx hb dX5_load_123 (lv_at hl 0 rfl) ?_
                refine k_mv (w := wR bH bM bR bC jM jR jC) wR_ad (va_runV (As := [.int (((ush ((r_mem ((fX5_may ((fX5_a x) + (fX5_numberI x)) ((1 : Int32) <<< (((fX5_bits (12 : Int32) (3 : Int32) x) &&& (3 : Int32)) &&& 31)) (4 : Int32) (5 : Int32) x).2)) (((fX5_a x) + (fX5_numberI x)) / (4 : Int32)).toNatClampNeg) ((8 : Int32) * (((fX5_a x) + (fX5_numberI x)) &&& (3 : Int32)))) &&& (255 : Int32)) &&& (65535 : Int32))]) (rest := []) ⟨hx, hb, hml, hown, hB⟩ (mX5_lay l dC dI bH bM bR bC jM jR jC H.size ((fX5_may ((fX5_a x) + (fX5_numberI x)) ((1 : Int32) <<< (((fX5_bits (12 : Int32) (3 : Int32) x) &&& (3 : Int32)) &&& 31)) (4 : Int32) (5 : Int32) x).2) (((ush ((r_mem ((fX5_may ((fX5_a x) + (fX5_numberI x)) ((1 : Int32) <<< (((fX5_bits (12 : Int32) (3 : Int32) x) &&& (3 : Int32)) &&& 31)) (4 : Int32) (5 : Int32) x).2)) (((fX5_a x) + (fX5_numberI x)) / (4 : Int32)).toNatClampNeg) ((8 : Int32) * (((fX5_a x) + (fX5_numberI x)) &&& (3 : Int32)))) &&& (255 : Int32)) &&& (65535 : Int32))) (cwV 1 hB (gV q_t3_86 q_t3_88 q_s_39 q_t1_4 wX5_lay) rfl rfl rfl hX5_lay ⟨Nat.le_of_ble_eq_true rfl, Nat.le_of_ble_eq_true rfl⟩) ⟨kM_blind NT_blind, va_recv hK hP (ci := 3) (q0 := 0) rfl rfl, kM_pre NT_warm hP hK hD hN⟩ rfl rfl hl.1 rfl (lv_room (Nat.le_of_ble_eq_true rfl)) dX5_load_125 ⟨Nat.zero_le _, Nat.zero_le _⟩) hD hS hA (fun u H locs hw hP hD hS => ?_)
                obtain rfl := hw
                exact W.vret hx hb hr (fun t ht hW => ⟨⟨(fX5_lay (((ush ((r_mem ((fX5_may ((fX5_a x) + (fX5_numberI x)) ((1 : Int32) <<< (((fX5_bits (12 : Int32) (3 : Int32) x) &&& (3 : Int32)) &&& 31)) (4 : Int32) (5 : Int32) x).2)) (((fX5_a x) + (fX5_numberI x)) / (4 : Int32)).toNatClampNeg) ((8 : Int32) * (((fX5_a x) + (fX5_numberI x)) &&& (3 : Int32)))) &&& (255 : Int32)) &&& (65535 : Int32)) ((fX5_may ((fX5_a x) + (fX5_numberI x)) ((1 : Int32) <<< (((fX5_bits (12 : Int32) (3 : Int32) x) &&& (3 : Int32)) &&& 31)) (4 : Int32) (5 : Int32) x).2)), rfl, (by unfold fX5_load; rw [if_neg c_10, if_pos c_15, if_neg c_47, if_neg c_69, if_neg c_84, if_pos c_99, if_pos c_112] <;> rfl), hpT ht hP⟩, hS.F ht⟩) hS.2.2 dX5_load_128
          · refine lv_iload hx hb dX5_load_87 (lv_at hl 0 rfl) ?_
            refine lv_bipush (v := 16) hx hb dX5_load_89 (by decide) ?_
            refine lv_ishl hx hb dX5_load_91 ?_
            refine lv_bipush (v := 16) hx hb dX5_load_92 (by decide) ?_
            refine lv_ishr hx hb dX5_load_94 ?_
            refine lv_istore (lv' := [(4, .int (((ush ((r_mem ((fX5_may ((fX5_a x) + (fX5_numberI x)) ((1 : Int32) <<< (((fX5_bits (12 : Int32) (3 : Int32) x) &&& (3 : Int32)) &&& 31)) (4 : Int32) (5 : Int32) x).2)) (((fX5_a x) + (fX5_numberI x)) / (4 : Int32)).toNatClampNeg) ((8 : Int32) * (((fX5_a x) + (fX5_numberI x)) &&& (3 : Int32)))) <<< ((16 : Int32) &&& 31)) >>> ((16 : Int32) &&& 31))), (3, .int ((fX5_a x) + (fX5_numberI x))), (2, .int ((1 : Int32) <<< (((fX5_bits (12 : Int32) (3 : Int32) x) &&& (3 : Int32)) &&& 31))), (1, .int (fX5_bits (12 : Int32) (3 : Int32) x)), (0, .ref bH)]) hx hb dX5_load_95 hl (by decide) rfl (fun ls hl => ?_)
            refine lv_iload_n hx hb dX5_load_97 rfl (lv_at hl 3 rfl) ?_
            refine lv_iconst (v := 4) hx hb dX5_load_98 (by decide) ?_
            refine lv_icmp_ne (tgt := 110) hx hb dX5_load_99 (by decide) (fun c_99 => ?_) (fun c_99 => ?_)
            · refine lv_iload_n hx hb dX5_load_110 rfl (lv_at hl 3 rfl) ?_
              refine lv_iconst (v := 5) hx hb dX5_load_111 (by decide) ?_
              refine lv_icmp_ne (tgt := 122) hx hb dX5_load_112 (by decide) (fun c_112 => ?_) (fun c_112 => ?_)
              · refine lv_aload_n hx hb dX5_load_122 rfl (lv_at hl 4 rfl) ?_
                refine lv_iload hx hb dX5_load_123 (lv_at hl 0 rfl) ?_
                refine k_mv (w := wR bH bM bR bC jM jR jC) wR_ad (va_runV (As := [.int (((ush ((r_mem ((fX5_may ((fX5_a x) + (fX5_numberI x)) ((1 : Int32) <<< (((fX5_bits (12 : Int32) (3 : Int32) x) &&& (3 : Int32)) &&& 31)) (4 : Int32) (5 : Int32) x).2)) (((fX5_a x) + (fX5_numberI x)) / (4 : Int32)).toNatClampNeg) ((8 : Int32) * (((fX5_a x) + (fX5_numberI x)) &&& (3 : Int32)))) <<< ((16 : Int32) &&& 31)) >>> ((16 : Int32) &&& 31))]) (rest := []) ⟨hx, hb, hml, hown, hB⟩ (mX5_lay l dC dI bH bM bR bC jM jR jC H.size ((fX5_may ((fX5_a x) + (fX5_numberI x)) ((1 : Int32) <<< (((fX5_bits (12 : Int32) (3 : Int32) x) &&& (3 : Int32)) &&& 31)) (4 : Int32) (5 : Int32) x).2) (((ush ((r_mem ((fX5_may ((fX5_a x) + (fX5_numberI x)) ((1 : Int32) <<< (((fX5_bits (12 : Int32) (3 : Int32) x) &&& (3 : Int32)) &&& 31)) (4 : Int32) (5 : Int32) x).2)) (((fX5_a x) + (fX5_numberI x)) / (4 : Int32)).toNatClampNeg) ((8 : Int32) * (((fX5_a x) + (fX5_numberI x)) &&& (3 : Int32)))) <<< ((16 : Int32) &&& 31)) >>> ((16 : Int32) &&& 31))) (cwV 1 hB (gV q_t3_86 q_t3_88 q_s_39 q_t1_4 wX5_lay) rfl rfl rfl hX5_lay ⟨Nat.le_of_ble_eq_true rfl, Nat.le_of_ble_eq_true rfl⟩) ⟨kM_blind NT_blind, va_recv hK hP (ci := 3) (q0 := 0) rfl rfl, kM_pre NT_warm hP hK hD hN⟩ rfl rfl hl.1 rfl (lv_room (Nat.le_of_ble_eq_true rfl)) dX5_load_125 ⟨Nat.zero_le _, Nat.zero_le _⟩) hD hS hA (fun u H locs hw hP hD hS => ?_)
                obtain rfl := hw
                exact W.vret hx hb hr (fun t ht hW => ⟨⟨(fX5_lay (((ush ((r_mem ((fX5_may ((fX5_a x) + (fX5_numberI x)) ((1 : Int32) <<< (((fX5_bits (12 : Int32) (3 : Int32) x) &&& (3 : Int32)) &&& 31)) (4 : Int32) (5 : Int32) x).2)) (((fX5_a x) + (fX5_numberI x)) / (4 : Int32)).toNatClampNeg) ((8 : Int32) * (((fX5_a x) + (fX5_numberI x)) &&& (3 : Int32)))) <<< ((16 : Int32) &&& 31)) >>> ((16 : Int32) &&& 31)) ((fX5_may ((fX5_a x) + (fX5_numberI x)) ((1 : Int32) <<< (((fX5_bits (12 : Int32) (3 : Int32) x) &&& (3 : Int32)) &&& 31)) (4 : Int32) (5 : Int32) x).2)), rfl, (by unfold fX5_load; rw [if_neg c_10, if_pos c_15, if_neg c_47, if_neg c_69, if_pos c_84, if_neg c_99, if_neg c_112] <;> rfl), hpT ht hP⟩, hS.F ht⟩) hS.2.2 dX5_load_128
              · refine lv_iload hx hb dX5_load_115 (lv_at hl 0 rfl) ?_
                refine lv_ldc (v := 65535) hx hb hown (hB _ q_t3_138) dX5_load_117 ?_
                refine lv_iand hx hb dX5_load_119 ?_
                refine lv_istore (lv' := [(4, .int ((((ush ((r_mem ((fX5_may ((fX5_a x) + (fX5_numberI x)) ((1 : Int32) <<< (((fX5_bits (12 : Int32) (3 : Int32) x) &&& (3 : Int32)) &&& 31)) (4 : Int32) (5 : Int32) x).2)) (((fX5_a x) + (fX5_numberI x)) / (4 : Int32)).toNatClampNeg) ((8 : Int32) * (((fX5_a x) + (fX5_numberI x)) &&& (3 : Int32)))) <<< ((16 : Int32) &&& 31)) >>> ((16 : Int32) &&& 31)) &&& (65535 : Int32))), (3, .int ((fX5_a x) + (fX5_numberI x))), (2, .int ((1 : Int32) <<< (((fX5_bits (12 : Int32) (3 : Int32) x) &&& (3 : Int32)) &&& 31))), (1, .int (fX5_bits (12 : Int32) (3 : Int32) x)), (0, .ref bH)]) hx hb dX5_load_120 hl (by decide) rfl (fun ls hl => ?_)
                refine lv_aload_n hx hb dX5_load_122 rfl (lv_at hl 4 rfl) ?_
                refine lv_iload hx hb dX5_load_123 (lv_at hl 0 rfl) ?_
                refine k_mv (w := wR bH bM bR bC jM jR jC) wR_ad (va_runV (As := [.int ((((ush ((r_mem ((fX5_may ((fX5_a x) + (fX5_numberI x)) ((1 : Int32) <<< (((fX5_bits (12 : Int32) (3 : Int32) x) &&& (3 : Int32)) &&& 31)) (4 : Int32) (5 : Int32) x).2)) (((fX5_a x) + (fX5_numberI x)) / (4 : Int32)).toNatClampNeg) ((8 : Int32) * (((fX5_a x) + (fX5_numberI x)) &&& (3 : Int32)))) <<< ((16 : Int32) &&& 31)) >>> ((16 : Int32) &&& 31)) &&& (65535 : Int32))]) (rest := []) ⟨hx, hb, hml, hown, hB⟩ (mX5_lay l dC dI bH bM bR bC jM jR jC H.size ((fX5_may ((fX5_a x) + (fX5_numberI x)) ((1 : Int32) <<< (((fX5_bits (12 : Int32) (3 : Int32) x) &&& (3 : Int32)) &&& 31)) (4 : Int32) (5 : Int32) x).2) ((((ush ((r_mem ((fX5_may ((fX5_a x) + (fX5_numberI x)) ((1 : Int32) <<< (((fX5_bits (12 : Int32) (3 : Int32) x) &&& (3 : Int32)) &&& 31)) (4 : Int32) (5 : Int32) x).2)) (((fX5_a x) + (fX5_numberI x)) / (4 : Int32)).toNatClampNeg) ((8 : Int32) * (((fX5_a x) + (fX5_numberI x)) &&& (3 : Int32)))) <<< ((16 : Int32) &&& 31)) >>> ((16 : Int32) &&& 31)) &&& (65535 : Int32))) (cwV 1 hB (gV q_t3_86 q_t3_88 q_s_39 q_t1_4 wX5_lay) rfl rfl rfl hX5_lay ⟨Nat.le_of_ble_eq_true rfl, Nat.le_of_ble_eq_true rfl⟩) ⟨kM_blind NT_blind, va_recv hK hP (ci := 3) (q0 := 0) rfl rfl, kM_pre NT_warm hP hK hD hN⟩ rfl rfl hl.1 rfl (lv_room (Nat.le_of_ble_eq_true rfl)) dX5_load_125 ⟨Nat.zero_le _, Nat.zero_le _⟩) hD hS hA (fun u H locs hw hP hD hS => ?_)
                obtain rfl := hw
                exact W.vret hx hb hr (fun t ht hW => ⟨⟨(fX5_lay ((((ush ((r_mem ((fX5_may ((fX5_a x) + (fX5_numberI x)) ((1 : Int32) <<< (((fX5_bits (12 : Int32) (3 : Int32) x) &&& (3 : Int32)) &&& 31)) (4 : Int32) (5 : Int32) x).2)) (((fX5_a x) + (fX5_numberI x)) / (4 : Int32)).toNatClampNeg) ((8 : Int32) * (((fX5_a x) + (fX5_numberI x)) &&& (3 : Int32)))) <<< ((16 : Int32) &&& 31)) >>> ((16 : Int32) &&& 31)) &&& (65535 : Int32)) ((fX5_may ((fX5_a x) + (fX5_numberI x)) ((1 : Int32) <<< (((fX5_bits (12 : Int32) (3 : Int32) x) &&& (3 : Int32)) &&& 31)) (4 : Int32) (5 : Int32) x).2)), rfl, (by unfold fX5_load; rw [if_neg c_10, if_pos c_15, if_neg c_47, if_neg c_69, if_pos c_84, if_neg c_99, if_pos c_112] <;> rfl), hpT ht hP⟩, hS.F ht⟩) hS.2.2 dX5_load_128
            · refine lv_iload hx hb dX5_load_102 (lv_at hl 0 rfl) ?_
              refine lv_sipush (v := 255) hx hb dX5_load_104 (by decide) ?_
              refine lv_iand hx hb dX5_load_107 ?_
              refine lv_istore (lv' := [(4, .int ((((ush ((r_mem ((fX5_may ((fX5_a x) + (fX5_numberI x)) ((1 : Int32) <<< (((fX5_bits (12 : Int32) (3 : Int32) x) &&& (3 : Int32)) &&& 31)) (4 : Int32) (5 : Int32) x).2)) (((fX5_a x) + (fX5_numberI x)) / (4 : Int32)).toNatClampNeg) ((8 : Int32) * (((fX5_a x) + (fX5_numberI x)) &&& (3 : Int32)))) <<< ((16 : Int32) &&& 31)) >>> ((16 : Int32) &&& 31)) &&& (255 : Int32))), (3, .int ((fX5_a x) + (fX5_numberI x))), (2, .int ((1 : Int32) <<< (((fX5_bits (12 : Int32) (3 : Int32) x) &&& (3 : Int32)) &&& 31))), (1, .int (fX5_bits (12 : Int32) (3 : Int32) x)), (0, .ref bH)]) hx hb dX5_load_108 hl (by decide) rfl (fun ls hl => ?_)
              refine lv_iload_n hx hb dX5_load_110 rfl (lv_at hl 3 rfl) ?_
              refine lv_iconst (v := 5) hx hb dX5_load_111 (by decide) ?_
              refine lv_icmp_ne (tgt := 122) hx hb dX5_load_112 (by decide) (fun c_112 => ?_) (fun c_112 => ?_)
              · refine lv_aload_n hx hb dX5_load_122 rfl (lv_at hl 4 rfl) ?_
                refine lv_iload hx hb dX5_load_123 (lv_at hl 0 rfl) ?_
                refine k_mv (w := wR bH bM bR bC jM jR jC) wR_ad (va_runV (As := [.int ((((ush ((r_mem ((fX5_may ((fX5_a x) + (fX5_numberI x)) ((1 : Int32) <<< (((fX5_bits (12 : Int32) (3 : Int32) x) &&& (3 : Int32)) &&& 31)) (4 : Int32) (5 : Int32) x).2)) (((fX5_a x) + (fX5_numberI x)) / (4 : Int32)).toNatClampNeg) ((8 : Int32) * (((fX5_a x) + (fX5_numberI x)) &&& (3 : Int32)))) <<< ((16 : Int32) &&& 31)) >>> ((16 : Int32) &&& 31)) &&& (255 : Int32))]) (rest := []) ⟨hx, hb, hml, hown, hB⟩ (mX5_lay l dC dI bH bM bR bC jM jR jC H.size ((fX5_may ((fX5_a x) + (fX5_numberI x)) ((1 : Int32) <<< (((fX5_bits (12 : Int32) (3 : Int32) x) &&& (3 : Int32)) &&& 31)) (4 : Int32) (5 : Int32) x).2) ((((ush ((r_mem ((fX5_may ((fX5_a x) + (fX5_numberI x)) ((1 : Int32) <<< (((fX5_bits (12 : Int32) (3 : Int32) x) &&& (3 : Int32)) &&& 31)) (4 : Int32) (5 : Int32) x).2)) (((fX5_a x) + (fX5_numberI x)) / (4 : Int32)).toNatClampNeg) ((8 : Int32) * (((fX5_a x) + (fX5_numberI x)) &&& (3 : Int32)))) <<< ((16 : Int32) &&& 31)) >>> ((16 : Int32) &&& 31)) &&& (255 : Int32))) (cwV 1 hB (gV q_t3_86 q_t3_88 q_s_39 q_t1_4 wX5_lay) rfl rfl rfl hX5_lay ⟨Nat.le_of_ble_eq_true rfl, Nat.le_of_ble_eq_true rfl⟩) ⟨kM_blind NT_blind, va_recv hK hP (ci := 3) (q0 := 0) rfl rfl, kM_pre NT_warm hP hK hD hN⟩ rfl rfl hl.1 rfl (lv_room (Nat.le_of_ble_eq_true rfl)) dX5_load_125 ⟨Nat.zero_le _, Nat.zero_le _⟩) hD hS hA (fun u H locs hw hP hD hS => ?_)
                obtain rfl := hw
                exact W.vret hx hb hr (fun t ht hW => ⟨⟨(fX5_lay ((((ush ((r_mem ((fX5_may ((fX5_a x) + (fX5_numberI x)) ((1 : Int32) <<< (((fX5_bits (12 : Int32) (3 : Int32) x) &&& (3 : Int32)) &&& 31)) (4 : Int32) (5 : Int32) x).2)) (((fX5_a x) + (fX5_numberI x)) / (4 : Int32)).toNatClampNeg) ((8 : Int32) * (((fX5_a x) + (fX5_numberI x)) &&& (3 : Int32)))) <<< ((16 : Int32) &&& 31)) >>> ((16 : Int32) &&& 31)) &&& (255 : Int32)) ((fX5_may ((fX5_a x) + (fX5_numberI x)) ((1 : Int32) <<< (((fX5_bits (12 : Int32) (3 : Int32) x) &&& (3 : Int32)) &&& 31)) (4 : Int32) (5 : Int32) x).2)), rfl, (by unfold fX5_load; rw [if_neg c_10, if_pos c_15, if_neg c_47, if_neg c_69, if_pos c_84, if_pos c_99, if_neg c_112] <;> rfl), hpT ht hP⟩, hS.F ht⟩) hS.2.2 dX5_load_128
              · refine lv_iload hx hb dX5_load_115 (lv_at hl 0 rfl) ?_
                refine lv_ldc (v := 65535) hx hb hown (hB _ q_t3_138) dX5_load_117 ?_
                refine lv_iand hx hb dX5_load_119 ?_
                refine lv_istore (lv' := [(4, .int (((((ush ((r_mem ((fX5_may ((fX5_a x) + (fX5_numberI x)) ((1 : Int32) <<< (((fX5_bits (12 : Int32) (3 : Int32) x) &&& (3 : Int32)) &&& 31)) (4 : Int32) (5 : Int32) x).2)) (((fX5_a x) + (fX5_numberI x)) / (4 : Int32)).toNatClampNeg) ((8 : Int32) * (((fX5_a x) + (fX5_numberI x)) &&& (3 : Int32)))) <<< ((16 : Int32) &&& 31)) >>> ((16 : Int32) &&& 31)) &&& (255 : Int32)) &&& (65535 : Int32))), (3, .int ((fX5_a x) + (fX5_numberI x))), (2, .int ((1 : Int32) <<< (((fX5_bits (12 : Int32) (3 : Int32) x) &&& (3 : Int32)) &&& 31))), (1, .int (fX5_bits (12 : Int32) (3 : Int32) x)), (0, .ref bH)]) hx hb dX5_load_120 hl (by decide) rfl (fun ls hl => ?_)
                refine lv_aload_n hx hb dX5_load_122 rfl (lv_at hl 4 rfl) ?_
                refine lv_iload hx hb dX5_load_123 (lv_at hl 0 rfl) ?_
                refine k_mv (w := wR bH bM bR bC jM jR jC) wR_ad (va_runV (As := [.int (((((ush ((r_mem ((fX5_may ((fX5_a x) + (fX5_numberI x)) ((1 : Int32) <<< (((fX5_bits (12 : Int32) (3 : Int32) x) &&& (3 : Int32)) &&& 31)) (4 : Int32) (5 : Int32) x).2)) (((fX5_a x) + (fX5_numberI x)) / (4 : Int32)).toNatClampNeg) ((8 : Int32) * (((fX5_a x) + (fX5_numberI x)) &&& (3 : Int32)))) <<< ((16 : Int32) &&& 31)) >>> ((16 : Int32) &&& 31)) &&& (255 : Int32)) &&& (65535 : Int32))]) (rest := []) ⟨hx, hb, hml, hown, hB⟩ (mX5_lay l dC dI bH bM bR bC jM jR jC H.size ((fX5_may ((fX5_a x) + (fX5_numberI x)) ((1 : Int32) <<< (((fX5_bits (12 : Int32) (3 : Int32) x) &&& (3 : Int32)) &&& 31)) (4 : Int32) (5 : Int32) x).2) (((((ush ((r_mem ((fX5_may ((fX5_a x) + (fX5_numberI x)) ((1 : Int32) <<< (((fX5_bits (12 : Int32) (3 : Int32) x) &&& (3 : Int32)) &&& 31)) (4 : Int32) (5 : Int32) x).2)) (((fX5_a x) + (fX5_numberI x)) / (4 : Int32)).toNatClampNeg) ((8 : Int32) * (((fX5_a x) + (fX5_numberI x)) &&& (3 : Int32)))) <<< ((16 : Int32) &&& 31)) >>> ((16 : Int32) &&& 31)) &&& (255 : Int32)) &&& (65535 : Int32))) (cwV 1 hB (gV q_t3_86 q_t3_88 q_s_39 q_t1_4 wX5_lay) rfl rfl rfl hX5_lay ⟨Nat.le_of_ble_eq_true rfl, Nat.le_of_ble_eq_true rfl⟩) ⟨kM_blind NT_blind, va_recv hK hP (ci := 3) (q0 := 0) rfl rfl, kM_pre NT_warm hP hK hD hN⟩ rfl rfl hl.1 rfl (lv_room (Nat.le_of_ble_eq_true rfl)) dX5_load_125 ⟨Nat.zero_le _, Nat.zero_le _⟩) hD hS hA (fun u H locs hw hP hD hS => ?_)
                obtain rfl := hw
                exact W.vret hx hb hr (fun t ht hW => ⟨⟨(fX5_lay (((((ush ((r_mem ((fX5_may ((fX5_a x) + (fX5_numberI x)) ((1 : Int32) <<< (((fX5_bits (12 : Int32) (3 : Int32) x) &&& (3 : Int32)) &&& 31)) (4 : Int32) (5 : Int32) x).2)) (((fX5_a x) + (fX5_numberI x)) / (4 : Int32)).toNatClampNeg) ((8 : Int32) * (((fX5_a x) + (fX5_numberI x)) &&& (3 : Int32)))) <<< ((16 : Int32) &&& 31)) >>> ((16 : Int32) &&& 31)) &&& (255 : Int32)) &&& (65535 : Int32)) ((fX5_may ((fX5_a x) + (fX5_numberI x)) ((1 : Int32) <<< (((fX5_bits (12 : Int32) (3 : Int32) x) &&& (3 : Int32)) &&& 31)) (4 : Int32) (5 : Int32) x).2)), rfl, (by unfold fX5_load; rw [if_neg c_10, if_pos c_15, if_neg c_47, if_neg c_69, if_pos c_84, if_pos c_99, if_pos c_112] <;> rfl), hpT ht hP⟩, hS.F ht⟩) hS.2.2 dX5_load_128
        · refine lv_iload hx hb dX5_load_72 (lv_at hl 0 rfl) ?_
          refine lv_bipush (v := 24) hx hb dX5_load_74 (by decide) ?_
          refine lv_ishl hx hb dX5_load_76 ?_
          refine lv_bipush (v := 24) hx hb dX5_load_77 (by decide) ?_
          refine lv_ishr hx hb dX5_load_79 ?_
          refine lv_istore (lv' := [(4, .int (((ush ((r_mem ((fX5_may ((fX5_a x) + (fX5_numberI x)) ((1 : Int32) <<< (((fX5_bits (12 : Int32) (3 : Int32) x) &&& (3 : Int32)) &&& 31)) (4 : Int32) (5 : Int32) x).2)) (((fX5_a x) + (fX5_numberI x)) / (4 : Int32)).toNatClampNeg) ((8 : Int32) * (((fX5_a x) + (fX5_numberI x)) &&& (3 : Int32)))) <<< ((24 : Int32) &&& 31)) >>> ((24 : Int32) &&& 31))), (3, .int ((fX5_a x) + (fX5_numberI x))), (2, .int ((1 : Int32) <<< (((fX5_bits (12 : Int32) (3 : Int32) x) &&& (3 : Int32)) &&& 31))), (1, .int (fX5_bits (12 : Int32) (3 : Int32) x)), (0, .ref bH)]) hx hb dX5_load_80 hl (by decide) rfl (fun ls hl => ?_)
          refine lv_iload_n hx hb dX5_load_82 rfl (lv_at hl 3 rfl) ?_
          refine lv_iconst (v := 1) hx hb dX5_load_83 (by decide) ?_
          refine lv_icmp_ne (tgt := 97) hx hb dX5_load_84 (by decide) (fun c_84 => ?_) (fun c_84 => ?_)
          · refine lv_iload_n hx hb dX5_load_97 rfl (lv_at hl 3 rfl) ?_
            refine lv_iconst (v := 4) hx hb dX5_load_98 (by decide) ?_
            refine lv_icmp_ne (tgt := 110) hx hb dX5_load_99 (by decide) (fun c_99 => ?_) (fun c_99 => ?_)
            · refine lv_iload_n hx hb dX5_load_110 rfl (lv_at hl 3 rfl) ?_
              refine lv_iconst (v := 5) hx hb dX5_load_111 (by decide) ?_
              refine lv_icmp_ne (tgt := 122) hx hb dX5_load_112 (by decide) (fun c_112 => ?_) (fun c_112 => ?_)
              · refine lv_aload_n hx hb dX5_load_122 rfl (lv_at hl 4 rfl) ?_
                refine lv_iload hx hb dX5_load_123 (lv_at hl 0 rfl) ?_
                refine k_mv (w := wR bH bM bR bC jM jR jC) wR_ad (va_runV (As := [.int (((ush ((r_mem ((fX5_may ((fX5_a x) + (fX5_numberI x)) ((1 : Int32) <<< (((fX5_bits (12 : Int32) (3 : Int32) x) &&& (3 : Int32)) &&& 31)) (4 : Int32) (5 : Int32) x).2)) (((fX5_a x) + (fX5_numberI x)) / (4 : Int32)).toNatClampNeg) ((8 : Int32) * (((fX5_a x) + (fX5_numberI x)) &&& (3 : Int32)))) <<< ((24 : Int32) &&& 31)) >>> ((24 : Int32) &&& 31))]) (rest := []) ⟨hx, hb, hml, hown, hB⟩ (mX5_lay l dC dI bH bM bR bC jM jR jC H.size ((fX5_may ((fX5_a x) + (fX5_numberI x)) ((1 : Int32) <<< (((fX5_bits (12 : Int32) (3 : Int32) x) &&& (3 : Int32)) &&& 31)) (4 : Int32) (5 : Int32) x).2) (((ush ((r_mem ((fX5_may ((fX5_a x) + (fX5_numberI x)) ((1 : Int32) <<< (((fX5_bits (12 : Int32) (3 : Int32) x) &&& (3 : Int32)) &&& 31)) (4 : Int32) (5 : Int32) x).2)) (((fX5_a x) + (fX5_numberI x)) / (4 : Int32)).toNatClampNeg) ((8 : Int32) * (((fX5_a x) + (fX5_numberI x)) &&& (3 : Int32)))) <<< ((24 : Int32) &&& 31)) >>> ((24 : Int32) &&& 31))) (cwV 1 hB (gV q_t3_86 q_t3_88 q_s_39 q_t1_4 wX5_lay) rfl rfl rfl hX5_lay ⟨Nat.le_of_ble_eq_true rfl, Nat.le_of_ble_eq_true rfl⟩) ⟨kM_blind NT_blind, va_recv hK hP (ci := 3) (q0 := 0) rfl rfl, kM_pre NT_warm hP hK hD hN⟩ rfl rfl hl.1 rfl (lv_room (Nat.le_of_ble_eq_true rfl)) dX5_load_125 ⟨Nat.zero_le _, Nat.zero_le _⟩) hD hS hA (fun u H locs hw hP hD hS => ?_)
                obtain rfl := hw
                exact W.vret hx hb hr (fun t ht hW => ⟨⟨(fX5_lay (((ush ((r_mem ((fX5_may ((fX5_a x) + (fX5_numberI x)) ((1 : Int32) <<< (((fX5_bits (12 : Int32) (3 : Int32) x) &&& (3 : Int32)) &&& 31)) (4 : Int32) (5 : Int32) x).2)) (((fX5_a x) + (fX5_numberI x)) / (4 : Int32)).toNatClampNeg) ((8 : Int32) * (((fX5_a x) + (fX5_numberI x)) &&& (3 : Int32)))) <<< ((24 : Int32) &&& 31)) >>> ((24 : Int32) &&& 31)) ((fX5_may ((fX5_a x) + (fX5_numberI x)) ((1 : Int32) <<< (((fX5_bits (12 : Int32) (3 : Int32) x) &&& (3 : Int32)) &&& 31)) (4 : Int32) (5 : Int32) x).2)), rfl, (by unfold fX5_load; rw [if_neg c_10, if_pos c_15, if_neg c_47, if_pos c_69, if_neg c_84, if_neg c_99, if_neg c_112] <;> rfl), hpT ht hP⟩, hS.F ht⟩) hS.2.2 dX5_load_128
              · refine lv_iload hx hb dX5_load_115 (lv_at hl 0 rfl) ?_
                refine lv_ldc (v := 65535) hx hb hown (hB _ q_t3_138) dX5_load_117 ?_
                refine lv_iand hx hb dX5_load_119 ?_
                refine lv_istore (lv' := [(4, .int ((((ush ((r_mem ((fX5_may ((fX5_a x) + (fX5_numberI x)) ((1 : Int32) <<< (((fX5_bits (12 : Int32) (3 : Int32) x) &&& (3 : Int32)) &&& 31)) (4 : Int32) (5 : Int32) x).2)) (((fX5_a x) + (fX5_numberI x)) / (4 : Int32)).toNatClampNeg) ((8 : Int32) * (((fX5_a x) + (fX5_numberI x)) &&& (3 : Int32)))) <<< ((24 : Int32) &&& 31)) >>> ((24 : Int32) &&& 31)) &&& (65535 : Int32))), (3, .int ((fX5_a x) + (fX5_numberI x))), (2, .int ((1 : Int32) <<< (((fX5_bits (12 : Int32) (3 : Int32) x) &&& (3 : Int32)) &&& 31))), (1, .int (fX5_bits (12 : Int32) (3 : Int32) x)), (0, .ref bH)]) hx hb dX5_load_120 hl (by decide) rfl (fun ls hl => ?_)
                refine lv_aload_n hx hb dX5_load_122 rfl (lv_at hl 4 rfl) ?_
                refine lv_iload hx hb dX5_load_123 (lv_at hl 0 rfl) ?_
                refine k_mv (w := wR bH bM bR bC jM jR jC) wR_ad (va_runV (As := [.int ((((ush ((r_mem ((fX5_may ((fX5_a x) + (fX5_numberI x)) ((1 : Int32) <<< (((fX5_bits (12 : Int32) (3 : Int32) x) &&& (3 : Int32)) &&& 31)) (4 : Int32) (5 : Int32) x).2)) (((fX5_a x) + (fX5_numberI x)) / (4 : Int32)).toNatClampNeg) ((8 : Int32) * (((fX5_a x) + (fX5_numberI x)) &&& (3 : Int32)))) <<< ((24 : Int32) &&& 31)) >>> ((24 : Int32) &&& 31)) &&& (65535 : Int32))]) (rest := []) ⟨hx, hb, hml, hown, hB⟩ (mX5_lay l dC dI bH bM bR bC jM jR jC H.size ((fX5_may ((fX5_a x) + (fX5_numberI x)) ((1 : Int32) <<< (((fX5_bits (12 : Int32) (3 : Int32) x) &&& (3 : Int32)) &&& 31)) (4 : Int32) (5 : Int32) x).2) ((((ush ((r_mem ((fX5_may ((fX5_a x) + (fX5_numberI x)) ((1 : Int32) <<< (((fX5_bits (12 : Int32) (3 : Int32) x) &&& (3 : Int32)) &&& 31)) (4 : Int32) (5 : Int32) x).2)) (((fX5_a x) + (fX5_numberI x)) / (4 : Int32)).toNatClampNeg) ((8 : Int32) * (((fX5_a x) + (fX5_numberI x)) &&& (3 : Int32)))) <<< ((24 : Int32) &&& 31)) >>> ((24 : Int32) &&& 31)) &&& (65535 : Int32))) (cwV 1 hB (gV q_t3_86 q_t3_88 q_s_39 q_t1_4 wX5_lay) rfl rfl rfl hX5_lay ⟨Nat.le_of_ble_eq_true rfl, Nat.le_of_ble_eq_true rfl⟩) ⟨kM_blind NT_blind, va_recv hK hP (ci := 3) (q0 := 0) rfl rfl, kM_pre NT_warm hP hK hD hN⟩ rfl rfl hl.1 rfl (lv_room (Nat.le_of_ble_eq_true rfl)) dX5_load_125 ⟨Nat.zero_le _, Nat.zero_le _⟩) hD hS hA (fun u H locs hw hP hD hS => ?_)
                obtain rfl := hw
                exact W.vret hx hb hr (fun t ht hW => ⟨⟨(fX5_lay ((((ush ((r_mem ((fX5_may ((fX5_a x) + (fX5_numberI x)) ((1 : Int32) <<< (((fX5_bits (12 : Int32) (3 : Int32) x) &&& (3 : Int32)) &&& 31)) (4 : Int32) (5 : Int32) x).2)) (((fX5_a x) + (fX5_numberI x)) / (4 : Int32)).toNatClampNeg) ((8 : Int32) * (((fX5_a x) + (fX5_numberI x)) &&& (3 : Int32)))) <<< ((24 : Int32) &&& 31)) >>> ((24 : Int32) &&& 31)) &&& (65535 : Int32)) ((fX5_may ((fX5_a x) + (fX5_numberI x)) ((1 : Int32) <<< (((fX5_bits (12 : Int32) (3 : Int32) x) &&& (3 : Int32)) &&& 31)) (4 : Int32) (5 : Int32) x).2)), rfl, (by unfold fX5_load; rw [if_neg c_10, if_pos c_15, if_neg c_47, if_pos c_69, if_neg c_84, if_neg c_99, if_pos c_112] <;> rfl), hpT ht hP⟩, hS.F ht⟩) hS.2.2 dX5_load_128
            · refine lv_iload hx hb dX5_load_102 (lv_at hl 0 rfl) ?_
              refine lv_sipush (v := 255) hx hb dX5_load_104 (by decide) ?_
              refine lv_iand hx hb dX5_load_107 ?_
              refine lv_istore (lv' := [(4, .int ((((ush ((r_mem ((fX5_may ((fX5_a x) + (fX5_numberI x)) ((1 : Int32) <<< (((fX5_bits (12 : Int32) (3 : Int32) x) &&& (3 : Int32)) &&& 31)) (4 : Int32) (5 : Int32) x).2)) (((fX5_a x) + (fX5_numberI x)) / (4 : Int32)).toNatClampNeg) ((8 : Int32) * (((fX5_a x) + (fX5_numberI x)) &&& (3 : Int32)))) <<< ((24 : Int32) &&& 31)) >>> ((24 : Int32) &&& 31)) &&& (255 : Int32))), (3, .int ((fX5_a x) + (fX5_numberI x))), (2, .int ((1 : Int32) <<< (((fX5_bits (12 : Int32) (3 : Int32) x) &&& (3 : Int32)) &&& 31))), (1, .int (fX5_bits (12 : Int32) (3 : Int32) x)), (0, .ref bH)]) hx hb dX5_load_108 hl (by decide) rfl (fun ls hl => ?_)
              refine lv_iload_n hx hb dX5_load_110 rfl (lv_at hl 3 rfl) ?_
              refine lv_iconst (v := 5) hx hb dX5_load_111 (by decide) ?_
              refine lv_icmp_ne (tgt := 122) hx hb dX5_load_112 (by decide) (fun c_112 => ?_) (fun c_112 => ?_)
              · refine lv_aload_n hx hb dX5_load_122 rfl (lv_at hl 4 rfl) ?_
                refine lv_iload hx hb dX5_load_123 (lv_at hl 0 rfl) ?_
                refine k_mv (w := wR bH bM bR bC jM jR jC) wR_ad (va_runV (As := [.int ((((ush ((r_mem ((fX5_may ((fX5_a x) + (fX5_numberI x)) ((1 : Int32) <<< (((fX5_bits (12 : Int32) (3 : Int32) x) &&& (3 : Int32)) &&& 31)) (4 : Int32) (5 : Int32) x).2)) (((fX5_a x) + (fX5_numberI x)) / (4 : Int32)).toNatClampNeg) ((8 : Int32) * (((fX5_a x) + (fX5_numberI x)) &&& (3 : Int32)))) <<< ((24 : Int32) &&& 31)) >>> ((24 : Int32) &&& 31)) &&& (255 : Int32))]) (rest := []) ⟨hx, hb, hml, hown, hB⟩ (mX5_lay l dC dI bH bM bR bC jM jR jC H.size ((fX5_may ((fX5_a x) + (fX5_numberI x)) ((1 : Int32) <<< (((fX5_bits (12 : Int32) (3 : Int32) x) &&& (3 : Int32)) &&& 31)) (4 : Int32) (5 : Int32) x).2) ((((ush ((r_mem ((fX5_may ((fX5_a x) + (fX5_numberI x)) ((1 : Int32) <<< (((fX5_bits (12 : Int32) (3 : Int32) x) &&& (3 : Int32)) &&& 31)) (4 : Int32) (5 : Int32) x).2)) (((fX5_a x) + (fX5_numberI x)) / (4 : Int32)).toNatClampNeg) ((8 : Int32) * (((fX5_a x) + (fX5_numberI x)) &&& (3 : Int32)))) <<< ((24 : Int32) &&& 31)) >>> ((24 : Int32) &&& 31)) &&& (255 : Int32))) (cwV 1 hB (gV q_t3_86 q_t3_88 q_s_39 q_t1_4 wX5_lay) rfl rfl rfl hX5_lay ⟨Nat.le_of_ble_eq_true rfl, Nat.le_of_ble_eq_true rfl⟩) ⟨kM_blind NT_blind, va_recv hK hP (ci := 3) (q0 := 0) rfl rfl, kM_pre NT_warm hP hK hD hN⟩ rfl rfl hl.1 rfl (lv_room (Nat.le_of_ble_eq_true rfl)) dX5_load_125 ⟨Nat.zero_le _, Nat.zero_le _⟩) hD hS hA (fun u H locs hw hP hD hS => ?_)
                obtain rfl := hw
                exact W.vret hx hb hr (fun t ht hW => ⟨⟨(fX5_lay ((((ush ((r_mem ((fX5_may ((fX5_a x) + (fX5_numberI x)) ((1 : Int32) <<< (((fX5_bits (12 : Int32) (3 : Int32) x) &&& (3 : Int32)) &&& 31)) (4 : Int32) (5 : Int32) x).2)) (((fX5_a x) + (fX5_numberI x)) / (4 : Int32)).toNatClampNeg) ((8 : Int32) * (((fX5_a x) + (fX5_numberI x)) &&& (3 : Int32)))) <<< ((24 : Int32) &&& 31)) >>> ((24 : Int32) &&& 31)) &&& (255 : Int32)) ((fX5_may ((fX5_a x) + (fX5_numberI x)) ((1 : Int32) <<< (((fX5_bits (12 : Int32) (3 : Int32) x) &&& (3 : Int32)) &&& 31)) (4 : Int32) (5 : Int32) x).2)), rfl, (by unfold fX5_load; rw [if_neg c_10, if_pos c_15, if_neg c_47, if_pos c_69, if_neg c_84, if_pos c_99, if_neg c_112] <;> rfl), hpT ht hP⟩, hS.F ht⟩) hS.2.2 dX5_load_128
              · refine lv_iload hx hb dX5_load_115 (lv_at hl 0 rfl) ?_
                refine lv_ldc (v := 65535) hx hb hown (hB _ q_t3_138) dX5_load_117 ?_
                refine lv_iand hx hb dX5_load_119 ?_
                refine lv_istore (lv' := [(4, .int (((((ush ((r_mem ((fX5_may ((fX5_a x) + (fX5_numberI x)) ((1 : Int32) <<< (((fX5_bits (12 : Int32) (3 : Int32) x) &&& (3 : Int32)) &&& 31)) (4 : Int32) (5 : Int32) x).2)) (((fX5_a x) + (fX5_numberI x)) / (4 : Int32)).toNatClampNeg) ((8 : Int32) * (((fX5_a x) + (fX5_numberI x)) &&& (3 : Int32)))) <<< ((24 : Int32) &&& 31)) >>> ((24 : Int32) &&& 31)) &&& (255 : Int32)) &&& (65535 : Int32))), (3, .int ((fX5_a x) + (fX5_numberI x))), (2, .int ((1 : Int32) <<< (((fX5_bits (12 : Int32) (3 : Int32) x) &&& (3 : Int32)) &&& 31))), (1, .int (fX5_bits (12 : Int32) (3 : Int32) x)), (0, .ref bH)]) hx hb dX5_load_120 hl (by decide) rfl (fun ls hl => ?_)
                refine lv_aload_n hx hb dX5_load_122 rfl (lv_at hl 4 rfl) ?_
                refine lv_iload hx hb dX5_load_123 (lv_at hl 0 rfl) ?_
                refine k_mv (w := wR bH bM bR bC jM jR jC) wR_ad (va_runV (As := [.int (((((ush ((r_mem ((fX5_may ((fX5_a x) + (fX5_numberI x)) ((1 : Int32) <<< (((fX5_bits (12 : Int32) (3 : Int32) x) &&& (3 : Int32)) &&& 31)) (4 : Int32) (5 : Int32) x).2)) (((fX5_a x) + (fX5_numberI x)) / (4 : Int32)).toNatClampNeg) ((8 : Int32) * (((fX5_a x) + (fX5_numberI x)) &&& (3 : Int32)))) <<< ((24 : Int32) &&& 31)) >>> ((24 : Int32) &&& 31)) &&& (255 : Int32)) &&& (65535 : Int32))]) (rest := []) ⟨hx, hb, hml, hown, hB⟩ (mX5_lay l dC dI bH bM bR bC jM jR jC H.size ((fX5_may ((fX5_a x) + (fX5_numberI x)) ((1 : Int32) <<< (((fX5_bits (12 : Int32) (3 : Int32) x) &&& (3 : Int32)) &&& 31)) (4 : Int32) (5 : Int32) x).2) (((((ush ((r_mem ((fX5_may ((fX5_a x) + (fX5_numberI x)) ((1 : Int32) <<< (((fX5_bits (12 : Int32) (3 : Int32) x) &&& (3 : Int32)) &&& 31)) (4 : Int32) (5 : Int32) x).2)) (((fX5_a x) + (fX5_numberI x)) / (4 : Int32)).toNatClampNeg) ((8 : Int32) * (((fX5_a x) + (fX5_numberI x)) &&& (3 : Int32)))) <<< ((24 : Int32) &&& 31)) >>> ((24 : Int32) &&& 31)) &&& (255 : Int32)) &&& (65535 : Int32))) (cwV 1 hB (gV q_t3_86 q_t3_88 q_s_39 q_t1_4 wX5_lay) rfl rfl rfl hX5_lay ⟨Nat.le_of_ble_eq_true rfl, Nat.le_of_ble_eq_true rfl⟩) ⟨kM_blind NT_blind, va_recv hK hP (ci := 3) (q0 := 0) rfl rfl, kM_pre NT_warm hP hK hD hN⟩ rfl rfl hl.1 rfl (lv_room (Nat.le_of_ble_eq_true rfl)) dX5_load_125 ⟨Nat.zero_le _, Nat.zero_le _⟩) hD hS hA (fun u H locs hw hP hD hS => ?_)
                obtain rfl := hw
                exact W.vret hx hb hr (fun t ht hW => ⟨⟨(fX5_lay (((((ush ((r_mem ((fX5_may ((fX5_a x) + (fX5_numberI x)) ((1 : Int32) <<< (((fX5_bits (12 : Int32) (3 : Int32) x) &&& (3 : Int32)) &&& 31)) (4 : Int32) (5 : Int32) x).2)) (((fX5_a x) + (fX5_numberI x)) / (4 : Int32)).toNatClampNeg) ((8 : Int32) * (((fX5_a x) + (fX5_numberI x)) &&& (3 : Int32)))) <<< ((24 : Int32) &&& 31)) >>> ((24 : Int32) &&& 31)) &&& (255 : Int32)) &&& (65535 : Int32)) ((fX5_may ((fX5_a x) + (fX5_numberI x)) ((1 : Int32) <<< (((fX5_bits (12 : Int32) (3 : Int32) x) &&& (3 : Int32)) &&& 31)) (4 : Int32) (5 : Int32) x).2)), rfl, (by unfold fX5_load; rw [if_neg c_10, if_pos c_15, if_neg c_47, if_pos c_69, if_neg c_84, if_pos c_99, if_pos c_112] <;> rfl), hpT ht hP⟩, hS.F ht⟩) hS.2.2 dX5_load_128
          · refine lv_iload hx hb dX5_load_87 (lv_at hl 0 rfl) ?_
            refine lv_bipush (v := 16) hx hb dX5_load_89 (by decide) ?_
            refine lv_ishl hx hb dX5_load_91 ?_
            refine lv_bipush (v := 16) hx hb dX5_load_92 (by decide) ?_
            refine lv_ishr hx hb dX5_load_94 ?_
            refine lv_istore (lv' := [(4, .int (((((ush ((r_mem ((fX5_may ((fX5_a x) + (fX5_numberI x)) ((1 : Int32) <<< (((fX5_bits (12 : Int32) (3 : Int32) x) &&& (3 : Int32)) &&& 31)) (4 : Int32) (5 : Int32) x).2)) (((fX5_a x) + (fX5_numberI x)) / (4 : Int32)).toNatClampNeg) ((8 : Int32) * (((fX5_a x) + (fX5_numberI x)) &&& (3 : Int32)))) <<< ((24 : Int32) &&& 31)) >>> ((24 : Int32) &&& 31)) <<< ((16 : Int32) &&& 31)) >>> ((16 : Int32) &&& 31))), (3, .int ((fX5_a x) + (fX5_numberI x))), (2, .int ((1 : Int32) <<< (((fX5_bits (12 : Int32) (3 : Int32) x) &&& (3 : Int32)) &&& 31))), (1, .int (fX5_bits (12 : Int32) (3 : Int32) x)), (0, .ref bH)]) hx hb dX5_load_95 hl (by decide) rfl (fun ls hl => ?_)
            refine lv_iload_n hx hb dX5_load_97 rfl (lv_at hl 3 rfl) ?_
            refine lv_iconst (v := 4) hx hb dX5_load_98 (by decide) ?_
            refine lv_icmp_ne (tgt := 110) hx hb dX5_load_99 (by decide) (fun c_99 => ?_) (fun c_99 => ?_)
            · refine lv_iload_n hx hb dX5_load_110 rfl (lv_at hl 3 rfl) ?_
              refine lv_iconst (v := 5) hx hb dX5_load_111 (by decide) ?_
              refine lv_icmp_ne (tgt := 122) hx hb dX5_load_112 (by decide) (fun c_112 => ?_) (fun c_112 => ?_)
              · refine lv_aload_n hx hb dX5_load_122 rfl (lv_at hl 4 rfl) ?_
                refine lv_iload hx hb dX5_load_123 (lv_at hl 0 rfl) ?_
                refine k_mv (w := wR bH bM bR bC jM jR jC) wR_ad (va_runV (As := [.int (((((ush ((r_mem ((fX5_may ((fX5_a x) + (fX5_numberI x)) ((1 : Int32) <<< (((fX5_bits (12 : Int32) (3 : Int32) x) &&& (3 : Int32)) &&& 31)) (4 : Int32) (5 : Int32) x).2)) (((fX5_a x) + (fX5_numberI x)) / (4 : Int32)).toNatClampNeg) ((8 : Int32) * (((fX5_a x) + (fX5_numberI x)) &&& (3 : Int32)))) <<< ((24 : Int32) &&& 31)) >>> ((24 : Int32) &&& 31)) <<< ((16 : Int32) &&& 31)) >>> ((16 : Int32) &&& 31))]) (rest := []) ⟨hx, hb, hml, hown, hB⟩ (mX5_lay l dC dI bH bM bR bC jM jR jC H.size ((fX5_may ((fX5_a x) + (fX5_numberI x)) ((1 : Int32) <<< (((fX5_bits (12 : Int32) (3 : Int32) x) &&& (3 : Int32)) &&& 31)) (4 : Int32) (5 : Int32) x).2) (((((ush ((r_mem ((fX5_may ((fX5_a x) + (fX5_numberI x)) ((1 : Int32) <<< (((fX5_bits (12 : Int32) (3 : Int32) x) &&& (3 : Int32)) &&& 31)) (4 : Int32) (5 : Int32) x).2)) (((fX5_a x) + (fX5_numberI x)) / (4 : Int32)).toNatClampNeg) ((8 : Int32) * (((fX5_a x) + (fX5_numberI x)) &&& (3 : Int32)))) <<< ((24 : Int32) &&& 31)) >>> ((24 : Int32) &&& 31)) <<< ((16 : Int32) &&& 31)) >>> ((16 : Int32) &&& 31))) (cwV 1 hB (gV q_t3_86 q_t3_88 q_s_39 q_t1_4 wX5_lay) rfl rfl rfl hX5_lay ⟨Nat.le_of_ble_eq_true rfl, Nat.le_of_ble_eq_true rfl⟩) ⟨kM_blind NT_blind, va_recv hK hP (ci := 3) (q0 := 0) rfl rfl, kM_pre NT_warm hP hK hD hN⟩ rfl rfl hl.1 rfl (lv_room (Nat.le_of_ble_eq_true rfl)) dX5_load_125 ⟨Nat.zero_le _, Nat.zero_le _⟩) hD hS hA (fun u H locs hw hP hD hS => ?_)
                obtain rfl := hw
                exact W.vret hx hb hr (fun t ht hW => ⟨⟨(fX5_lay (((((ush ((r_mem ((fX5_may ((fX5_a x) + (fX5_numberI x)) ((1 : Int32) <<< (((fX5_bits (12 : Int32) (3 : Int32) x) &&& (3 : Int32)) &&& 31)) (4 : Int32) (5 : Int32) x).2)) (((fX5_a x) + (fX5_numberI x)) / (4 : Int32)).toNatClampNeg) ((8 : Int32) * (((fX5_a x) + (fX5_numberI x)) &&& (3 : Int32)))) <<< ((24 : Int32) &&& 31)) >>> ((24 : Int32) &&& 31)) <<< ((16 : Int32) &&& 31)) >>> ((16 : Int32) &&& 31)) ((fX5_may ((fX5_a x) + (fX5_numberI x)) ((1 : Int32) <<< (((fX5_bits (12 : Int32) (3 : Int32) x) &&& (3 : Int32)) &&& 31)) (4 : Int32) (5 : Int32) x).2)), rfl, (by unfold fX5_load; rw [if_neg c_10, if_pos c_15, if_neg c_47, if_pos c_69, if_pos c_84, if_neg c_99, if_neg c_112] <;> rfl), hpT ht hP⟩, hS.F ht⟩) hS.2.2 dX5_load_128
              · refine lv_iload hx hb dX5_load_115 (lv_at hl 0 rfl) ?_
                refine lv_ldc (v := 65535) hx hb hown (hB _ q_t3_138) dX5_load_117 ?_
                refine lv_iand hx hb dX5_load_119 ?_
                refine lv_istore (lv' := [(4, .int ((((((ush ((r_mem ((fX5_may ((fX5_a x) + (fX5_numberI x)) ((1 : Int32) <<< (((fX5_bits (12 : Int32) (3 : Int32) x) &&& (3 : Int32)) &&& 31)) (4 : Int32) (5 : Int32) x).2)) (((fX5_a x) + (fX5_numberI x)) / (4 : Int32)).toNatClampNeg) ((8 : Int32) * (((fX5_a x) + (fX5_numberI x)) &&& (3 : Int32)))) <<< ((24 : Int32) &&& 31)) >>> ((24 : Int32) &&& 31)) <<< ((16 : Int32) &&& 31)) >>> ((16 : Int32) &&& 31)) &&& (65535 : Int32))), (3, .int ((fX5_a x) + (fX5_numberI x))), (2, .int ((1 : Int32) <<< (((fX5_bits (12 : Int32) (3 : Int32) x) &&& (3 : Int32)) &&& 31))), (1, .int (fX5_bits (12 : Int32) (3 : Int32) x)), (0, .ref bH)]) hx hb dX5_load_120 hl (by decide) rfl (fun ls hl => ?_)
                refine lv_aload_n hx hb dX5_load_122 rfl (lv_at hl 4 rfl) ?_
                refine lv_iload hx hb dX5_load_123 (lv_at hl 0 rfl) ?_
                refine k_mv (w := wR bH bM bR bC jM jR jC) wR_ad (va_runV (As := [.int ((((((ush ((r_mem ((fX5_may ((fX5_a x) + (fX5_numberI x)) ((1 : Int32) <<< (((fX5_bits (12 : Int32) (3 : Int32) x) &&& (3 : Int32)) &&& 31)) (4 : Int32) (5 : Int32) x).2)) (((fX5_a x) + (fX5_numberI x)) / (4 : Int32)).toNatClampNeg) ((8 : Int32) * (((fX5_a x) + (fX5_numberI x)) &&& (3 : Int32)))) <<< ((24 : Int32) &&& 31)) >>> ((24 : Int32) &&& 31)) <<< ((16 : Int32) &&& 31)) >>> ((16 : Int32) &&& 31)) &&& (65535 : Int32))]) (rest := []) ⟨hx, hb, hml, hown, hB⟩ (mX5_lay l dC dI bH bM bR bC jM jR jC H.size ((fX5_may ((fX5_a x) + (fX5_numberI x)) ((1 : Int32) <<< (((fX5_bits (12 : Int32) (3 : Int32) x) &&& (3 : Int32)) &&& 31)) (4 : Int32) (5 : Int32) x).2) ((((((ush ((r_mem ((fX5_may ((fX5_a x) + (fX5_numberI x)) ((1 : Int32) <<< (((fX5_bits (12 : Int32) (3 : Int32) x) &&& (3 : Int32)) &&& 31)) (4 : Int32) (5 : Int32) x).2)) (((fX5_a x) + (fX5_numberI x)) / (4 : Int32)).toNatClampNeg) ((8 : Int32) * (((fX5_a x) + (fX5_numberI x)) &&& (3 : Int32)))) <<< ((24 : Int32) &&& 31)) >>> ((24 : Int32) &&& 31)) <<< ((16 : Int32) &&& 31)) >>> ((16 : Int32) &&& 31)) &&& (65535 : Int32))) (cwV 1 hB (gV q_t3_86 q_t3_88 q_s_39 q_t1_4 wX5_lay) rfl rfl rfl hX5_lay ⟨Nat.le_of_ble_eq_true rfl, Nat.le_of_ble_eq_true rfl⟩) ⟨kM_blind NT_blind, va_recv hK hP (ci := 3) (q0 := 0) rfl rfl, kM_pre NT_warm hP hK hD hN⟩ rfl rfl hl.1 rfl (lv_room (Nat.le_of_ble_eq_true rfl)) dX5_load_125 ⟨Nat.zero_le _, Nat.zero_le _⟩) hD hS hA (fun u H locs hw hP hD hS => ?_)
                obtain rfl := hw
                exact W.vret hx hb hr (fun t ht hW => ⟨⟨(fX5_lay ((((((ush ((r_mem ((fX5_may ((fX5_a x) + (fX5_numberI x)) ((1 : Int32) <<< (((fX5_bits (12 : Int32) (3 : Int32) x) &&& (3 : Int32)) &&& 31)) (4 : Int32) (5 : Int32) x).2)) (((fX5_a x) + (fX5_numberI x)) / (4 : Int32)).toNatClampNeg) ((8 : Int32) * (((fX5_a x) + (fX5_numberI x)) &&& (3 : Int32)))) <<< ((24 : Int32) &&& 31)) >>> ((24 : Int32) &&& 31)) <<< ((16 : Int32) &&& 31)) >>> ((16 : Int32) &&& 31)) &&& (65535 : Int32)) ((fX5_may ((fX5_a x) + (fX5_numberI x)) ((1 : Int32) <<< (((fX5_bits (12 : Int32) (3 : Int32) x) &&& (3 : Int32)) &&& 31)) (4 : Int32) (5 : Int32) x).2)), rfl, (by unfold fX5_load; rw [if_neg c_10, if_pos c_15, if_neg c_47, if_pos c_69, if_pos c_84, if_neg c_99, if_pos c_112] <;> rfl), hpT ht hP⟩, hS.F ht⟩) hS.2.2 dX5_load_128
            · refine lv_iload hx hb dX5_load_102 (lv_at hl 0 rfl) ?_
              refine lv_sipush (v := 255) hx hb dX5_load_104 (by decide) ?_
              refine lv_iand hx hb dX5_load_107 ?_
              refine lv_istore (lv' := [(4, .int ((((((ush ((r_mem ((fX5_may ((fX5_a x) + (fX5_numberI x)) ((1 : Int32) <<< (((fX5_bits (12 : Int32) (3 : Int32) x) &&& (3 : Int32)) &&& 31)) (4 : Int32) (5 : Int32) x).2)) (((fX5_a x) + (fX5_numberI x)) / (4 : Int32)).toNatClampNeg) ((8 : Int32) * (((fX5_a x) + (fX5_numberI x)) &&& (3 : Int32)))) <<< ((24 : Int32) &&& 31)) >>> ((24 : Int32) &&& 31)) <<< ((16 : Int32) &&& 31)) >>> ((16 : Int32) &&& 31)) &&& (255 : Int32))), (3, .int ((fX5_a x) + (fX5_numberI x))), (2, .int ((1 : Int32) <<< (((fX5_bits (12 : Int32) (3 : Int32) x) &&& (3 : Int32)) &&& 31))), (1, .int (fX5_bits (12 : Int32) (3 : Int32) x)), (0, .ref bH)]) hx hb dX5_load_108 hl (by decide) rfl (fun ls hl => ?_)
              refine lv_iload_n hx hb dX5_load_110 rfl (lv_at hl 3 rfl) ?_
              refine lv_iconst (v := 5) hx hb dX5_load_111 (by decide) ?_
              refine lv_icmp_ne (tgt := 122) hx hb dX5_load_112 (by decide) (fun c_112 => ?_) (fun c_112 => ?_)
              · refine lv_aload_n hx hb dX5_load_122 rfl (lv_at hl 4 rfl) ?_
                refine lv_iload hx hb dX5_load_123 (lv_at hl 0 rfl) ?_
                refine k_mv (w := wR bH bM bR bC jM jR jC) wR_ad (va_runV (As := [.int ((((((ush ((r_mem ((fX5_may ((fX5_a x) + (fX5_numberI x)) ((1 : Int32) <<< (((fX5_bits (12 : Int32) (3 : Int32) x) &&& (3 : Int32)) &&& 31)) (4 : Int32) (5 : Int32) x).2)) (((fX5_a x) + (fX5_numberI x)) / (4 : Int32)).toNatClampNeg) ((8 : Int32) * (((fX5_a x) + (fX5_numberI x)) &&& (3 : Int32)))) <<< ((24 : Int32) &&& 31)) >>> ((24 : Int32) &&& 31)) <<< ((16 : Int32) &&& 31)) >>> ((16 : Int32) &&& 31)) &&& (255 : Int32))]) (rest := []) ⟨hx, hb, hml, hown, hB⟩ (mX5_lay l dC dI bH bM bR bC jM jR jC H.size ((fX5_may ((fX5_a x) + (fX5_numberI x)) ((1 : Int32) <<< (((fX5_bits (12 : Int32) (3 : Int32) x) &&& (3 : Int32)) &&& 31)) (4 : Int32) (5 : Int32) x).2) ((((((ush ((r_mem ((fX5_may ((fX5_a x) + (fX5_numberI x)) ((1 : Int32) <<< (((fX5_bits (12 : Int32) (3 : Int32) x) &&& (3 : Int32)) &&& 31)) (4 : Int32) (5 : Int32) x).2)) (((fX5_a x) + (fX5_numberI x)) / (4 : Int32)).toNatClampNeg) ((8 : Int32) * (((fX5_a x) + (fX5_numberI x)) &&& (3 : Int32)))) <<< ((24 : Int32) &&& 31)) >>> ((24 : Int32) &&& 31)) <<< ((16 : Int32) &&& 31)) >>> ((16 : Int32) &&& 31)) &&& (255 : Int32))) (cwV 1 hB (gV q_t3_86 q_t3_88 q_s_39 q_t1_4 wX5_lay) rfl rfl rfl hX5_lay ⟨Nat.le_of_ble_eq_true rfl, Nat.le_of_ble_eq_true rfl⟩) ⟨kM_blind NT_blind, va_recv hK hP (ci := 3) (q0 := 0) rfl rfl, kM_pre NT_warm hP hK hD hN⟩ rfl rfl hl.1 rfl (lv_room (Nat.le_of_ble_eq_true rfl)) dX5_load_125 ⟨Nat.zero_le _, Nat.zero_le _⟩) hD hS hA (fun u H locs hw hP hD hS => ?_)
                obtain rfl := hw
                exact W.vret hx hb hr (fun t ht hW => ⟨⟨(fX5_lay ((((((ush ((r_mem ((fX5_may ((fX5_a x) + (fX5_numberI x)) ((1 : Int32) <<< (((fX5_bits (12 : Int32) (3 : Int32) x) &&& (3 : Int32)) &&& 31)) (4 : Int32) (5 : Int32) x).2)) (((fX5_a x) + (fX5_numberI x)) / (4 : Int32)).toNatClampNeg) ((8 : Int32) * (((fX5_a x) + (fX5_numberI x)) &&& (3 : Int32)))) <<< ((24 : Int32) &&& 31)) >>> ((24 : Int32) &&& 31)) <<< ((16 : Int32) &&& 31)) >>> ((16 : Int32) &&& 31)) &&& (255 : Int32)) ((fX5_may ((fX5_a x) + (fX5_numberI x)) ((1 : Int32) <<< (((fX5_bits (12 : Int32) (3 : Int32) x) &&& (3 : Int32)) &&& 31)) (4 : Int32) (5 : Int32) x).2)), rfl, (by unfold fX5_load; rw [if_neg c_10, if_pos c_15, if_neg c_47, if_pos c_69, if_pos c_84, if_pos c_99, if_neg c_112] <;> rfl), hpT ht hP⟩, hS.F ht⟩) hS.2.2 dX5_load_128
              · refine lv_iload hx hb dX5_load_115 (lv_at hl 0 rfl) ?_
                refine lv_ldc (v := 65535) hx hb hown (hB _ q_t3_138) dX5_load_117 ?_
                refine lv_iand hx hb dX5_load_119 ?_
                refine lv_istore (lv' := [(4, .int (((((((ush ((r_mem ((fX5_may ((fX5_a x) + (fX5_numberI x)) ((1 : Int32) <<< (((fX5_bits (12 : Int32) (3 : Int32) x) &&& (3 : Int32)) &&& 31)) (4 : Int32) (5 : Int32) x).2)) (((fX5_a x) + (fX5_numberI x)) / (4 : Int32)).toNatClampNeg) ((8 : Int32) * (((fX5_a x) + (fX5_numberI x)) &&& (3 : Int32)))) <<< ((24 : Int32) &&& 31)) >>> ((24 : Int32) &&& 31)) <<< ((16 : Int32) &&& 31)) >>> ((16 : Int32) &&& 31)) &&& (255 : Int32)) &&& (65535 : Int32))), (3, .int ((fX5_a x) + (fX5_numberI x))), (2, .int ((1 : Int32) <<< (((fX5_bits (12 : Int32) (3 : Int32) x) &&& (3 : Int32)) &&& 31))), (1, .int (fX5_bits (12 : Int32) (3 : Int32) x)), (0, .ref bH)]) hx hb dX5_load_120 hl (by decide) rfl (fun ls hl => ?_)
                refine lv_aload_n hx hb dX5_load_122 rfl (lv_at hl 4 rfl) ?_
                refine lv_iload hx hb dX5_load_123 (lv_at hl 0 rfl) ?_
                refine k_mv (w := wR bH bM bR bC jM jR jC) wR_ad (va_runV (As := [.int (((((((ush ((r_mem ((fX5_may ((fX5_a x) + (fX5_numberI x)) ((1 : Int32) <<< (((fX5_bits (12 : Int32) (3 : Int32) x) &&& (3 : Int32)) &&& 31)) (4 : Int32) (5 : Int32) x).2)) (((fX5_a x) + (fX5_numberI x)) / (4 : Int32)).toNatClampNeg) ((8 : Int32) * (((fX5_a x) + (fX5_numberI x)) &&& (3 : Int32)))) <<< ((24 : Int32) &&& 31)) >>> ((24 : Int32) &&& 31)) <<< ((16 : Int32) &&& 31)) >>> ((16 : Int32) &&& 31)) &&& (255 : Int32)) &&& (65535 : Int32))]) (rest := []) ⟨hx, hb, hml, hown, hB⟩ (mX5_lay l dC dI bH bM bR bC jM jR jC H.size ((fX5_may ((fX5_a x) + (fX5_numberI x)) ((1 : Int32) <<< (((fX5_bits (12 : Int32) (3 : Int32) x) &&& (3 : Int32)) &&& 31)) (4 : Int32) (5 : Int32) x).2) (((((((ush ((r_mem ((fX5_may ((fX5_a x) + (fX5_numberI x)) ((1 : Int32) <<< (((fX5_bits (12 : Int32) (3 : Int32) x) &&& (3 : Int32)) &&& 31)) (4 : Int32) (5 : Int32) x).2)) (((fX5_a x) + (fX5_numberI x)) / (4 : Int32)).toNatClampNeg) ((8 : Int32) * (((fX5_a x) + (fX5_numberI x)) &&& (3 : Int32)))) <<< ((24 : Int32) &&& 31)) >>> ((24 : Int32) &&& 31)) <<< ((16 : Int32) &&& 31)) >>> ((16 : Int32) &&& 31)) &&& (255 : Int32)) &&& (65535 : Int32))) (cwV 1 hB (gV q_t3_86 q_t3_88 q_s_39 q_t1_4 wX5_lay) rfl rfl rfl hX5_lay ⟨Nat.le_of_ble_eq_true rfl, Nat.le_of_ble_eq_true rfl⟩) ⟨kM_blind NT_blind, va_recv hK hP (ci := 3) (q0 := 0) rfl rfl, kM_pre NT_warm hP hK hD hN⟩ rfl rfl hl.1 rfl (lv_room (Nat.le_of_ble_eq_true rfl)) dX5_load_125 ⟨Nat.zero_le _, Nat.zero_le _⟩) hD hS hA (fun u H locs hw hP hD hS => ?_)
                obtain rfl := hw
                exact W.vret hx hb hr (fun t ht hW => ⟨⟨(fX5_lay (((((((ush ((r_mem ((fX5_may ((fX5_a x) + (fX5_numberI x)) ((1 : Int32) <<< (((fX5_bits (12 : Int32) (3 : Int32) x) &&& (3 : Int32)) &&& 31)) (4 : Int32) (5 : Int32) x).2)) (((fX5_a x) + (fX5_numberI x)) / (4 : Int32)).toNatClampNeg) ((8 : Int32) * (((fX5_a x) + (fX5_numberI x)) &&& (3 : Int32)))) <<< ((24 : Int32) &&& 31)) >>> ((24 : Int32) &&& 31)) <<< ((16 : Int32) &&& 31)) >>> ((16 : Int32) &&& 31)) &&& (255 : Int32)) &&& (65535 : Int32)) ((fX5_may ((fX5_a x) + (fX5_numberI x)) ((1 : Int32) <<< (((fX5_bits (12 : Int32) (3 : Int32) x) &&& (3 : Int32)) &&& 31)) (4 : Int32) (5 : Int32) x).2)), rfl, (by unfold fX5_load; rw [if_neg c_10, if_pos c_15, if_neg c_47, if_pos c_69, if_pos c_84, if_pos c_99, if_pos c_112] <;> rfl), hpT ht hP⟩, hS.F ht⟩) hS.2.2 dX5_load_128
      · exact W.vret hx hb hr (fun t ht hW => ⟨⟨((fX5_may ((fX5_a x) + (fX5_numberI x)) ((1 : Int32) <<< (((fX5_bits (12 : Int32) (3 : Int32) x) &&& (3 : Int32)) &&& 31)) (4 : Int32) (5 : Int32) x).2), rfl, (by unfold fX5_load; rw [if_neg c_10, if_pos c_15, if_pos c_47] <;> rfl), hpT ht hP⟩, hS.F ht⟩) hS.2.2 dX5_load_50
    · refine lv_aload_n hx hb dX5_load_18 rfl (lv_at hl 1 rfl) ?_
      refine k_mv (w := wR bH bM bR bC jM jR jC) wR_ad (va_runV (As := []) (rest := []) ⟨hx, hb, hml, hown, hB⟩ (mX5_none l dC dI bH bM bR bC jM jR jC s.heap.size x) (cwV 0 hB (gV q_t3_102 q_t3_104 q_s_43 q_t1_4 wX5_none) rfl rfl rfl hX5_none ⟨Nat.le_of_ble_eq_true rfl, Nat.le_of_ble_eq_true rfl⟩) ⟨kM_blind NT_blind, va_recv hK hP (ci := 3) (q0 := 0) rfl rfl, kM_pre NT_warm hP hK hD hN⟩ rfl rfl hl.1 rfl (lv_room (Nat.le_of_ble_eq_true rfl)) dX5_load_19 ⟨Nat.zero_le _, Nat.zero_le _⟩) hD hS hA (fun u H locs hw hP hD hS => ?_)
      obtain rfl := hw
      exact W.vret hx hb hr (fun t ht hW => ⟨⟨(fX5_none x), rfl, (by unfold fX5_load; rw [if_neg c_10, if_neg c_15] <;> rfl), hpT ht hP⟩, hS.F ht⟩) hS.2.2 dX5_load_22
def fX5_store (x : SR) : SR := if (fX5_bits (12 : Int32) (3 : Int32) x) ≤ (2 : Int32) then
    if (bi (fX5_may ((fX5_a x) + (fX5_numberS x)) ((1 : Int32) <<< ((fX5_bits (12 : Int32) (3 : Int32) x) &&& 31)) (6 : Int32) (7 : Int32) x).1) = 0 then
      (fX5_may ((fX5_a x) + (fX5_numberS x)) ((1 : Int32) <<< ((fX5_bits (12 : Int32) (3 : Int32) x) &&& 31)) (6 : Int32) (7 : Int32) x).2
    else
      if (fX5_bits (12 : Int32) (3 : Int32) x) = 0 then
        t_mem ((fX5_may ((fX5_a x) + (fX5_numberS x)) ((1 : Int32) <<< ((fX5_bits (12 : Int32) (3 : Int32) x) &&& 31)) (6 : Int32) (7 : Int32) x).2) (upd (r_mem ((fX5_may ((fX5_a x) + (fX5_numberS x)) ((1 : Int32) <<< ((fX5_bits (12 : Int32) (3 : Int32) x) &&& 31)) (6 : Int32) (7 : Int32) x).2)) (((fX5_a x) + (fX5_numberS x)) / (4 : Int32)).toNatClampNeg ((((r_mem ((fX5_may ((fX5_a x) + (fX5_numberS x)) ((1 : Int32) <<< ((fX5_bits (12 : Int32) (3 : Int32) x) &&& 31)) (6 : Int32) (7 : Int32) x).2)) (((fX5_a x) + (fX5_numberS x)) / (4 : Int32)).toNatClampNeg) &&& (((255 : Int32) <<< (((8 : Int32) * (((fX5_a x) + (fX5_numberS x)) &&& (3 : Int32))) &&& 31)) ^^^ (-1 : Int32))) ||| (((fX5_b ((fX5_may ((fX5_a x) + (fX5_numberS x)) ((1 : Int32) <<< ((fX5_bits (12 : Int32) (3 : Int32) x) &&& 31)) (6 : Int32) (7 : Int32) x).2)) <<< (((8 : Int32) * (((fX5_a x) + (fX5_numberS x)) &&& (3 : Int32))) &&& 31)) &&& ((255 : Int32) <<< (((8 : Int32) * (((fX5_a x) + (fX5_numberS x)) &&& (3 : Int32))) &&& 31)))))
      else
        if (fX5_bits (12 : Int32) (3 : Int32) x) = (1 : Int32) then
          t_mem ((fX5_may ((fX5_a x) + (fX5_numberS x)) ((1 : Int32) <<< ((fX5_bits (12 : Int32) (3 : Int32) x) &&& 31)) (6 : Int32) (7 : Int32) x).2) (upd (r_mem ((fX5_may ((fX5_a x) + (fX5_numberS x)) ((1 : Int32) <<< ((fX5_bits (12 : Int32) (3 : Int32) x) &&& 31)) (6 : Int32) (7 : Int32) x).2)) (((fX5_a x) + (fX5_numberS x)) / (4 : Int32)).toNatClampNeg ((((r_mem ((fX5_may ((fX5_a x) + (fX5_numberS x)) ((1 : Int32) <<< ((fX5_bits (12 : Int32) (3 : Int32) x) &&& 31)) (6 : Int32) (7 : Int32) x).2)) (((fX5_a x) + (fX5_numberS x)) / (4 : Int32)).toNatClampNeg) &&& (((65535 : Int32) <<< (((8 : Int32) * (((fX5_a x) + (fX5_numberS x)) &&& (3 : Int32))) &&& 31)) ^^^ (-1 : Int32))) ||| (((fX5_b ((fX5_may ((fX5_a x) + (fX5_numberS x)) ((1 : Int32) <<< ((fX5_bits (12 : Int32) (3 : Int32) x) &&& 31)) (6 : Int32) (7 : Int32) x).2)) <<< (((8 : Int32) * (((fX5_a x) + (fX5_numberS x)) &&& (3 : Int32))) &&& 31)) &&& ((65535 : Int32) <<< (((8 : Int32) * (((fX5_a x) + (fX5_numberS x)) &&& (3 : Int32))) &&& 31)))))
        else
          t_mem ((fX5_may ((fX5_a x) + (fX5_numberS x)) ((1 : Int32) <<< ((fX5_bits (12 : Int32) (3 : Int32) x) &&& 31)) (6 : Int32) (7 : Int32) x).2) (upd (r_mem ((fX5_may ((fX5_a x) + (fX5_numberS x)) ((1 : Int32) <<< ((fX5_bits (12 : Int32) (3 : Int32) x) &&& 31)) (6 : Int32) (7 : Int32) x).2)) (((fX5_a x) + (fX5_numberS x)) / (4 : Int32)).toNatClampNeg ((((r_mem ((fX5_may ((fX5_a x) + (fX5_numberS x)) ((1 : Int32) <<< ((fX5_bits (12 : Int32) (3 : Int32) x) &&& 31)) (6 : Int32) (7 : Int32) x).2)) (((fX5_a x) + (fX5_numberS x)) / (4 : Int32)).toNatClampNeg) &&& ((-1 : Int32) ^^^ (-1 : Int32))) ||| (((fX5_b ((fX5_may ((fX5_a x) + (fX5_numberS x)) ((1 : Int32) <<< ((fX5_bits (12 : Int32) (3 : Int32) x) &&& 31)) (6 : Int32) (7 : Int32) x).2)) <<< (((8 : Int32) * (((fX5_a x) + (fX5_numberS x)) &&& (3 : Int32))) &&& 31)) &&& (-1 : Int32))))
  else
    fX5_none x
set_option maxHeartbeats 4000000 in
set_option maxRecDepth 100000 in
theorem mX5_store (l : Launch) (dC : Nat → ClassId) (dI : Nat → Nat → Nat) (bH bM bR bC jM jR jC : Nat) (sz : Nat) (x : SR) : Met l yX5_store wsX5_store ({ frames := 2, cells := 0, slots := 0, locals := 46 }) (va_Pc [.ref bH] (kM (dC, dI) [(jM, .int), (jR, .int), (jC, .int)] NT (wR bH bM bR bC jM jR jC x) sz)) (va_Qv (fun u => u = fX5_store x) (fun u t => va_P (dC, dI) vwCl (wR bH bM bR bC jM jR jC u) t.heap) (va_A (wR bH bM bR bC jM jR jC x) sz)) 0 0 (va_A (wR bH bM bR bC jM jR jC x) sz) := by
  refine Met.ofW (cc := cX5_store) (maxL := 6) (ret := none) (by decide) rfl ?_
  intro p e s m args below meth c s₁ B hml hv
  obtain ⟨rfl, hsz, hD0, hP, hK, hN⟩ := hv
  have hx := B.exec
  have hb := B.bytes
  have hr := B.returns
  have hB := fun (w : Cond) (h : w ∈ BIG) => atoms_spec (ws := wsX5_store) B.pre w (List.mem_cons_of_mem _ h)
  have hown : s.vm.findClass RX5 = some m.cls := findClass_of_methodNamed B.named
  have hlocks := B.notSynchronized
  subst hsz
  have hD := hD0.self (sz := s.heap.size)
  generalize hAe : va_A (wR bH bM bR bC jM jR jC x) s.heap.size = A at hD ⊢
  have hA : ∀ q : Nat, s.heap.size ≤ q → A q := fun q h => by rw [← hAe]; exact Or.inr h
  have hS : va_S A s.heap s.heap [] := va_S.rf
  have hl := lv_entry ([.ref bH]) (n := 6) (Nat.le_of_ble_eq_true rfl)
  rw [lg_entry_eq]
  generalize (lg_sl ([.ref bH]) ++ List.replicate (6 - (lg_sl ([.ref bH])).length) Slot.unset).toArray = ls at hl ⊢
  have hl : lv_has ls 6 [(0, .ref bH)] := hl
  refine lv_aload_n hx hb dX5_store_0 rfl (lv_at hl 0 rfl) ?_
  refine lv_bipush (v := 12) hx hb dX5_store_1 (by decide) ?_
  refine lv_iconst (v := 3) hx hb dX5_store_3 (by decide) ?_
  refine k_ri (va_runV (As := [.int (12 : Int32), .int (3 : Int32)]) (rest := []) ⟨hx, hb, hml, hown, hB⟩ (mX5_bits l dC dI bH bM bR bC jM jR jC x (12 : Int32) (3 : Int32)) (cwV 2 hB (gV q_t3_78 q_t3_80 q_s_37 q_t1_4 wX5_bits) rfl rfl rfl hX5_bits ⟨Nat.le_of_ble_eq_true rfl, Nat.le_of_ble_eq_true rfl⟩) ⟨kP_blind NT_blind, va_recv hK hP (ci := 3) (q0 := 0) rfl rfl, kP_pre NT_warm hP hK hN⟩ rfl rfl hl.1 rfl (lv_room (Nat.le_of_ble_eq_true rfl)) dX5_store_4 ⟨Nat.zero_le _, Nat.zero_le _⟩) ?_
  refine lv_istore_n (lv' := [(1, .int (fX5_bits (12 : Int32) (3 : Int32) x)), (0, .ref bH)]) hx hb dX5_store_7 rfl hl (by decide) rfl (fun ls hl => ?_)
  refine lv_iload_n hx hb dX5_store_8 rfl (lv_at hl 0 rfl) ?_
  refine lv_iconst (v := 2) hx hb dX5_store_9 (by decide) ?_
  refine lv_icmp_le (tgt := 18) hx hb dX5_store_10 (by decide) (fun c_10 => ?_) (fun c_10 => ?_)
  · refine lv_iconst (v := 1) hx hb dX5_store_18 (by decide) ?_
    refine lv_iload_n hx hb dX5_store_19 rfl (lv_at hl 0 rfl) ?_
    refine lv_ishl hx hb dX5_store_20 ?_
    refine lv_istore_n (lv' := [(2, .int ((1 : Int32) <<< ((fX5_bits (12 : Int32) (3 : Int32) x) &&& 31))), (1, .int (fX5_bits (12 : Int32) (3 : Int32) x)), (0, .ref bH)]) hx hb dX5_store_21 rfl hl (by decide) rfl (fun ls hl => ?_)
    refine lv_aload_n hx hb dX5_store_22 rfl (lv_at hl 2 rfl) ?_
    refine k_ri (va_runV (As := []) (rest := []) ⟨hx, hb, hml, hown, hB⟩ (mX5_a l dC dI bH bM bR bC jM jR jC x) (cwV 0 hB (gV q_t3_106 q_t3_108 q_s_44 q_t1_4 wX5_a) rfl rfl rfl hX5_a ⟨Nat.le_of_ble_eq_true rfl, Nat.le_of_ble_eq_true rfl⟩) ⟨kP_blind NT_blind, va_recv hK hP (ci := 3) (q0 := 0) rfl rfl, kP_pre NT_warm hP hK hN⟩ rfl rfl hl.1 rfl (lv_room (Nat.le_of_ble_eq_true rfl)) dX5_store_23 ⟨Nat.zero_le _, Nat.zero_le _⟩) ?_
    refine lv_aload_n hx hb dX5_store_26 rfl (lv_at hl 2 rfl) ?_
    refine k_ri (va_runV (As := []) (rest := [.int (fX5_a x)]) ⟨hx, hb, hml, hown, hB⟩ (mX5_numberS l dC dI bH bM bR bC jM jR jC x) (cwV 0 hB (gV q_t3_143 q_t3_145 q_s_52 q_t1_4 wX5_numberS) rfl rfl rfl hX5_numberS ⟨Nat.le_of_ble_eq_true rfl, Nat.le_of_ble_eq_true rfl⟩) ⟨kP_blind NT_blind, va_recv hK hP (ci := 3) (q0 := 0) rfl rfl, kP_pre NT_warm hP hK hN⟩ rfl rfl hl.1 rfl (lv_room (Nat.le_of_ble_eq_true rfl)) dX5_store_27 ⟨Nat.zero_le _, Nat.zero_le _⟩) ?_
    refine lv_iadd hx hb dX5_store_30 ?_
    refine lv_istore_n (lv' := [(3, .int ((fX5_a x) + (fX5_numberS x))), (2, .int ((1 : Int32) <<< ((fX5_bits (12 : Int32) (3 : Int32) x) &&& 31))), (1, .int (fX5_bits (12 : Int32) (3 : Int32) x)), (0, .ref bH)]) hx hb dX5_store_31 rfl hl (by decide) rfl (fun ls hl => ?_)
    refine lv_aload_n hx hb dX5_store_32 rfl (lv_at hl 3 rfl) ?_
    refine lv_iload_n hx hb dX5_store_33 rfl (lv_at hl 0 rfl) ?_
    refine lv_iload_n hx hb dX5_store_34 rfl (lv_at hl 1 rfl) ?_
    refine lv_bipush (v := 6) hx hb dX5_store_35 (by decide) ?_
    refine lv_bipush (v := 7) hx hb dX5_store_37 (by decide) ?_
    refine k_mi (w := wR bH bM bR bC jM jR jC) wR_ad (va_runV (As := [.int ((fX5_a x) + (fX5_numberS x)), .int ((1 : Int32) <<< ((fX5_bits (12 : Int32) (3 : Int32) x) &&& 31)), .int (6 : Int32), .int (7 : Int32)]) (rest := []) ⟨hx, hb, hml, hown, hB⟩ (mX5_may l dC dI bH bM bR bC jM jR jC s.heap.size x ((fX5_a x) + (fX5_numberS x)) ((1 : Int32) <<< ((fX5_bits (12 : Int32) (3 : Int32) x) &&& 31)) (6 : Int32) (7 : Int32)) (cwV 4 hB (gV q_t3_134 q_t3_136 q_s_50 q_t1_4 wX5_may) rfl rfl rfl hX5_may ⟨Nat.le_of_ble_eq_true rfl, Nat.le_of_ble_eq_true rfl⟩) ⟨kM_blind NT_blind, va_recv hK hP (ci := 3) (q0 := 0) rfl rfl, kM_pre NT_warm hP hK hD hN⟩ rfl rfl hl.1 rfl (lv_room (Nat.le_of_ble_eq_true rfl)) dX5_store_39 ⟨Nat.zero_le _, Nat.zero_le _⟩) hD hS hA (fun r u H locs hw hP hD hS => ?_)
    obtain ⟨rfl, rfl⟩ := hw
    refine lv_if_ne (tgt := 46) hx hb dX5_store_42 (by decide) (fun c_42 => ?_) (fun c_42 => ?_)
    · refine lv_bipush (v := 8) hx hb dX5_store_46 (by decide) ?_
      refine lv_iload_n hx hb dX5_store_48 rfl (lv_at hl 0 rfl) ?_
      refine lv_iconst (v := 3) hx hb dX5_store_49 (by decide) ?_
      refine lv_iand hx hb dX5_store_50 ?_
      refine lv_imul hx hb dX5_store_51 ?_
      refine lv_istore (lv' := [(4, .int ((8 : Int32) * (((fX5_a x) + (fX5_numberS x)) &&& (3 : Int32)))), (3, .int ((fX5_a x) + (fX5_numberS x))), (2, .int ((1 : Int32) <<< ((fX5_bits (12 : Int32) (3 : Int32) x) &&& 31))), (1, .int (fX5_bits (12 : Int32) (3 : Int32) x)), (0, .ref bH)]) hx hb dX5_store_52 hl (by decide) rfl (fun ls hl => ?_)
      refine lv_iload_n hx hb dX5_store_54 rfl (lv_at hl 3 rfl) ?_
      refine lv_if_ne (tgt := 67) hx hb dX5_store_55 (by decide) (fun c_55 => ?_) (fun c_55 => ?_)
      · refine lv_iload_n hx hb dX5_store_67 rfl (lv_at hl 3 rfl) ?_
        refine lv_iconst (v := 1) hx hb dX5_store_68 (by decide) ?_
        refine lv_icmp_ne (tgt := 80) hx hb dX5_store_69 (by decide) (fun c_69 => ?_) (fun c_69 => ?_)
        · refine lv_iconst (v := -1) hx hb dX5_store_80 (by decide) ?_
          refine lv_istore (lv' := [(5, .int (-1 : Int32)), (4, .int ((8 : Int32) * (((fX5_a x) + (fX5_numberS x)) &&& (3 : Int32)))), (3, .int ((fX5_a x) + (fX5_numberS x))), (2, .int ((1 : Int32) <<< ((fX5_bits (12 : Int32) (3 : Int32) x) &&& 31))), (1, .int (fX5_bits (12 : Int32) (3 : Int32) x)), (0, .ref bH)]) hx hb dX5_store_81 hl (by decide) rfl (fun ls hl => ?_)
          refine lv_aload_n hx hb dX5_store_83 rfl (lv_at hl 5 rfl) ?_
          refine va_get (D := (dC, dI)) (ci := 3) (v := .ref bM) (C := RX5) (T := TX5) (N := 15) hx hb hB iX5 hown hK hP 0 rfl rfl 1 (by decide) (hB _ q_t2_232) (fun _ h9 => h9) rfl dX5_store_84 ?_
          refine lv_iload_n hx hb dX5_store_87 rfl (lv_at hl 2 rfl) ?_
          refine lv_iconst (v := 4) hx hb dX5_store_88 (by decide) ?_
          refine lv_idiv hx hb dX5_store_89 (by decide) ?_
          refine lv_aload_n hx hb dX5_store_90 rfl (lv_at hl 5 rfl) ?_
          refine va_get (D := (dC, dI)) (ci := 3) (v := .ref bM) (C := RX5) (T := TX5) (N := 15) hx hb hB iX5 hown hK hP 0 rfl rfl 1 (by decide) (hB _ q_t2_232) (fun _ h9 => h9) rfl dX5_store_91 ?_
          refine lv_iload_n hx hb dX5_store_94 rfl (lv_at hl 2 rfl) ?_
          refine lv_iconst (v := 4) hx hb dX5_store_95 (by decide) ?_
          refine lv_idiv hx hb dX5_store_96 (by decide) ?_
          refine va_iald hx hb hK hP 1 0 rfl rfl (in_may (sz_and _ 3 (by decide) (by decide)) c_42) dX5_store_97 ?_
          refine lv_iload hx hb dX5_store_98 (lv_at hl 0 rfl) ?_
          refine lv_iconst (v := -1) hx hb dX5_store_100 (by decide) ?_
          refine lv_ixor hx hb dX5_store_101 ?_
          refine lv_iand hx hb dX5_store_102 ?_
          refine lv_aload_n hx hb dX5_store_103 rfl (lv_at hl 5 rfl) ?_
          refine k_ri (va_runV (As := []) (rest := [.int (((r_mem ((fX5_may ((fX5_a x) + (fX5_numberS x)) ((1 : Int32) <<< ((fX5_bits (12 : Int32) (3 : Int32) x) &&& 31)) (6 : Int32) (7 : Int32) x).2)) (((fX5_a x) + (fX5_numberS x)) / (4 : Int32)).toNatClampNeg) &&& ((-1 : Int32) ^^^ (-1 : Int32))), .int (((fX5_a x) + (fX5_numberS x)) / (4 : Int32)), .ref bM]) ⟨hx, hb, hml, hown, hB⟩ (mX5_b l dC dI bH bM bR bC jM jR jC ((fX5_may ((fX5_a x) + (fX5_numberS x)) ((1 : Int32) <<< ((fX5_bits (12 : Int32) (3 : Int32) x) &&& 31)) (6 : Int32) (7 : Int32) x).2)) (cwV 0 hB (gV q_t3_118 q_t3_120 q_s_47 q_t1_4 wX5_b) rfl rfl rfl hX5_b ⟨Nat.le_of_ble_eq_true rfl, Nat.le_of_ble_eq_true rfl⟩) ⟨kP_blind NT_blind, va_recv hK hP (ci := 3) (q0 := 0) rfl rfl, kP_pre NT_warm hP hK hN⟩ rfl rfl hl.1 rfl (lv_room (Nat.le_of_ble_eq_true rfl)) dX5_store_104 ⟨Nat.zero_le _, Nat.zero_le _⟩) ?_
          refine lv_iload hx hb dX5_store_107 (lv_at hl 1 rfl) ?_
          refine lv_ishl hx hb dX5_store_109 ?_
          refine lv_iload hx hb dX5_store_110 (lv_at hl 0 rfl) ?_
          refine lv_iand hx hb dX5_store_112 ?_
          refine lv_ior hx hb dX5_store_113 ?_
          refine va_iast hx hb hK hP hD hS 1 0 rfl rfl (in_may (sz_and _ 3 (by decide) (by decide)) c_42) dX5_store_114 (fun H locs hP hD hS => ?_)
          have hP : va_P (dC, dI) vwCl (wR bH bM bR bC jM jR jC (t_mem ((fX5_may ((fX5_a x) + (fX5_numberS x)) ((1 : Int32) <<< ((fX5_bits (12 : Int32) (3 : Int32) x) &&& 31)) (6 : Int32) (7 : Int32) x).2) (upd (r_mem ((fX5_may ((fX5_a x) + (fX5_numberS x)) ((1 : Int32) <<< ((fX5_bits (12 : Int32) (3 : Int32) x) &&& 31)) (6 : Int32) (7 : Int32) x).2)) (((fX5_a x) + (fX5_numberS x)) / (4 : Int32)).toNatClampNeg ((((r_mem ((fX5_may ((fX5_a x) + (fX5_numberS x)) ((1 : Int32) <<< ((fX5_bits (12 : Int32) (3 : Int32) x) &&& 31)) (6 : Int32) (7 : Int32) x).2)) (((fX5_a x) + (fX5_numberS x)) / (4 : Int32)).toNatClampNeg) &&& ((-1 : Int32) ^^^ (-1 : Int32))) ||| (((fX5_b ((fX5_may ((fX5_a x) + (fX5_numberS x)) ((1 : Int32) <<< ((fX5_bits (12 : Int32) (3 : Int32) x) &&& 31)) (6 : Int32) (7 : Int32) x).2)) <<< (((8 : Int32) * (((fX5_a x) + (fX5_numberS x)) &&& (3 : Int32))) &&& 31)) &&& (-1 : Int32)))))) H := hP
          have hD : va_D A (wR bH bM bR bC jM jR jC (t_mem ((fX5_may ((fX5_a x) + (fX5_numberS x)) ((1 : Int32) <<< ((fX5_bits (12 : Int32) (3 : Int32) x) &&& 31)) (6 : Int32) (7 : Int32) x).2) (upd (r_mem ((fX5_may ((fX5_a x) + (fX5_numberS x)) ((1 : Int32) <<< ((fX5_bits (12 : Int32) (3 : Int32) x) &&& 31)) (6 : Int32) (7 : Int32) x).2)) (((fX5_a x) + (fX5_numberS x)) / (4 : Int32)).toNatClampNeg ((((r_mem ((fX5_may ((fX5_a x) + (fX5_numberS x)) ((1 : Int32) <<< ((fX5_bits (12 : Int32) (3 : Int32) x) &&& 31)) (6 : Int32) (7 : Int32) x).2)) (((fX5_a x) + (fX5_numberS x)) / (4 : Int32)).toNatClampNeg) &&& ((-1 : Int32) ^^^ (-1 : Int32))) ||| (((fX5_b ((fX5_may ((fX5_a x) + (fX5_numberS x)) ((1 : Int32) <<< ((fX5_bits (12 : Int32) (3 : Int32) x) &&& 31)) (6 : Int32) (7 : Int32) x).2)) <<< (((8 : Int32) * (((fX5_a x) + (fX5_numberS x)) &&& (3 : Int32))) &&& 31)) &&& (-1 : Int32)))))) := hD
          exact W.vret hx hb hr (fun t ht hW => ⟨⟨(t_mem ((fX5_may ((fX5_a x) + (fX5_numberS x)) ((1 : Int32) <<< ((fX5_bits (12 : Int32) (3 : Int32) x) &&& 31)) (6 : Int32) (7 : Int32) x).2) (upd (r_mem ((fX5_may ((fX5_a x) + (fX5_numberS x)) ((1 : Int32) <<< ((fX5_bits (12 : Int32) (3 : Int32) x) &&& 31)) (6 : Int32) (7 : Int32) x).2)) (((fX5_a x) + (fX5_numberS x)) / (4 : Int32)).toNatClampNeg ((((r_mem ((fX5_may ((fX5_a x) + (fX5_numberS x)) ((1 : Int32) <<< ((fX5_bits (12 : Int32) (3 : Int32) x) &&& 31)) (6 : Int32) (7 : Int32) x).2)) (((fX5_a x) + (fX5_numberS x)) / (4 : Int32)).toNatClampNeg) &&& ((-1 : Int32) ^^^ (-1 : Int32))) ||| (((fX5_b ((fX5_may ((fX5_a x) + (fX5_numberS x)) ((1 : Int32) <<< ((fX5_bits (12 : Int32) (3 : Int32) x) &&& 31)) (6 : Int32) (7 : Int32) x).2)) <<< (((8 : Int32) * (((fX5_a x) + (fX5_numberS x)) &&& (3 : Int32))) &&& 31)) &&& (-1 : Int32))))), rfl, (by unfold fX5_store; rw [if_pos c_10, if_neg c_42, if_neg c_55, if_neg c_69] <;> rfl), hpT ht hP⟩, hS.F ht⟩) hS.2.2 dX5_store_115
        · refine lv_ldc (v := 65535) hx hb hown (hB _ q_t3_138) dX5_store_72 ?_
          refine lv_iload hx hb dX5_store_74 (lv_at hl 0 rfl) ?_
          refine lv_ishl hx hb dX5_store_76 ?_
          refine lv_goto (tgt := 81) hx hb dX5_store_77 (by decide) ?_
          refine lv_istore (lv' := [(5, .int ((65535 : Int32) <<< (((8 : Int32) * (((fX5_a x) + (fX5_numberS x)) &&& (3 : Int32))) &&& 31))), (4, .int ((8 : Int32) * (((fX5_a x) + (fX5_numberS x)) &&& (3 : Int32)))), (3, .int ((fX5_a x) + (fX5_numberS x))), (2, .int ((1 : Int32) <<< ((fX5_bits (12 : Int32) (3 : Int32) x) &&& 31))), (1, .int (fX5_bits (12 : Int32) (3 : Int32) x)), (0, .ref bH)]) hx hb dX5_store_81 hl (by decide) rfl (fun ls hl => ?_)
          refine lv_aload_n hx hb dX5_store_83 rfl (lv_at hl 5 rfl) ?_
          refine va_get (D := (dC, dI)) (ci := 3) (v := .ref bM) (C := RX5) (T := TX5) (N := 15) hx hb hB iX5 hown hK hP 0 rfl rfl 1 (by decide) (hB _ q_t2_232) (fun _ h9 => h9) rfl dX5_store_84 ?_
          refine lv_iload_n hx hb dX5_store_87 rfl (lv_at hl 2 rfl) ?_
          refine lv_iconst (v := 4) hx hb dX5_store_88 (by decide) ?_
          refine lv_idiv hx hb dX5_store_89 (by decide) ?_
          refine lv_aload_n hx hb dX5_store_90 rfl (lv_at hl 5 rfl) ?_
          refine va_get (D := (dC, dI)) (ci := 3) (v := .ref bM) (C := RX5) (T := TX5) (N := 15) hx hb hB iX5 hown hK hP 0 rfl rfl 1 (by decide) (hB _ q_t2_232) (fun _ h9 => h9) rfl dX5_store_91 ?_
          refine lv_iload_n hx hb dX5_store_94 rfl (lv_at hl 2 rfl) ?_
          refine lv_iconst (v := 4) hx hb dX5_store_95 (by decide) ?_
          refine lv_idiv hx hb dX5_store_96 (by decide) ?_
          refine va_iald hx hb hK hP 1 0 rfl rfl (in_may (sz_and _ 3 (by decide) (by decide)) c_42) dX5_store_97 ?_
          refine lv_iload hx hb dX5_store_98 (lv_at hl 0 rfl) ?_
          refine lv_iconst (v := -1) hx hb dX5_store_100 (by decide) ?_
          refine lv_ixor hx hb dX5_store_101 ?_
          refine lv_iand hx hb dX5_store_102 ?_
          refine lv_aload_n hx hb dX5_store_103 rfl (lv_at hl 5 rfl) ?_
          refine k_ri (va_runV (As := []) (rest := [.int (((r_mem ((fX5_may ((fX5_a x) + (fX5_numberS x)) ((1 : Int32) <<< ((fX5_bits (12 : Int32) (3 : Int32) x) &&& 31)) (6 : Int32) (7 : Int32) x).2)) (((fX5_a x) + (fX5_numberS x)) / (4 : Int32)).toNatClampNeg) &&& (((65535 : Int32) <<< (((8 : Int32) * (((fX5_a x) + (fX5_numberS x)) &&& (3 : Int32))) &&& 31)) ^^^ (-1 : Int32))), .int (((fX5_a x) + (fX5_numberS x)) / (4 : Int32)), .ref bM]) ⟨hx, hb, hml, hown, hB⟩ (mX5_b l dC dI bH bM bR bC jM jR jC ((fX5_may ((fX5_a x) + (fX5_numberS x)) ((1 : Int32) <<< ((fX5_bits (12 : Int32) (3 : Int32) x) &&& 31)) (6 : Int32) (7 : Int32) x).2)) (cwV 0 hB (gV q_t3_118 q_t3_120 q_s_47 q_t1_4 wX5_b) rfl rfl rfl hX5_b ⟨Nat.le_of_ble_eq_true rfl, Nat.le_of_ble_eq_true rfl⟩) ⟨kP_blind NT_blind, va_recv hK hP (ci := 3) (q0 := 0) rfl rfl, kP_pre NT_warm hP hK hN⟩ rfl rfl hl.1 rfl (lv_room (Nat.le_of_ble_eq_true rfl)) dX5_store_104 ⟨Nat.zero_le _, Nat.zero_le _⟩) ?_
          refine lv_iload hx hb dX5_store_107 (lv_at hl 1 rfl) ?_
          refine lv_ishl hx hb dX5_store_109 ?_
          refine lv_iload hx hb dX5_store_110 (lv_at hl 0 rfl) ?_
          refine lv_iand hx hb dX5_store_112 ?_
          refine lv_ior hx hb dX5_store_113 ?_
          refine va_iast hx hb hK hP hD hS 1 0 rfl rfl (in_may (sz_and _ 3 (by decide) (by decide)) c_42) dX5_store_114 (fun H locs hP hD hS => ?_)
          have hP : va_P (dC, dI) vwCl (wR bH bM bR bC jM jR jC (t_mem ((fX5_may ((fX5_a x) + (fX5_numberS x)) ((1 : Int32) <<< ((fX5_bits (12 : Int32) (3 : Int32) x) &&& 31)) (6 : Int32) (7 : Int32) x).2) (upd (r_mem ((fX5_may ((fX5_a x) + (fX5_numberS x)) ((1 : Int32) <<< ((fX5_bits (12 : Int32) (3 : Int32) x) &&& 31)) (6 : Int32) (7 : Int32) x).2)) (((fX5_a x) + (fX5_numberS x)) / (4 : Int32)).toNatClampNeg ((((r_mem ((fX5_may ((fX5_a x) + (fX5_numberS x)) ((1 : Int32) <<< ((fX5_bits (12 : Int32) (3 : Int32) x) &&& 31)) (6 : Int32) (7 : Int32) x).2)) (((fX5_a x) + (fX5_numberS x)) / (4 : Int32)).toNatClampNeg) &&& (((65535 : Int32) <<< (((8 : Int32) * (((fX5_a x) + (fX5_numberS x)) &&& (3 : Int32))) &&& 31)) ^^^ (-1 : Int32))) ||| (((fX5_b ((fX5_may ((fX5_a x) + (fX5_numberS x)) ((1 : Int32) <<< ((fX5_bits (12 : Int32) (3 : Int32) x) &&& 31)) (6 : Int32) (7 : Int32) x).2)) <<< (((8 : Int32) * (((fX5_a x) + (fX5_numberS x)) &&& (3 : Int32))) &&& 31)) &&& ((65535 : Int32) <<< (((8 : Int32) * (((fX5_a x) + (fX5_numberS x)) &&& (3 : Int32))) &&& 31))))))) H := hP
          have hD : va_D A (wR bH bM bR bC jM jR jC (t_mem ((fX5_may ((fX5_a x) + (fX5_numberS x)) ((1 : Int32) <<< ((fX5_bits (12 : Int32) (3 : Int32) x) &&& 31)) (6 : Int32) (7 : Int32) x).2) (upd (r_mem ((fX5_may ((fX5_a x) + (fX5_numberS x)) ((1 : Int32) <<< ((fX5_bits (12 : Int32) (3 : Int32) x) &&& 31)) (6 : Int32) (7 : Int32) x).2)) (((fX5_a x) + (fX5_numberS x)) / (4 : Int32)).toNatClampNeg ((((r_mem ((fX5_may ((fX5_a x) + (fX5_numberS x)) ((1 : Int32) <<< ((fX5_bits (12 : Int32) (3 : Int32) x) &&& 31)) (6 : Int32) (7 : Int32) x).2)) (((fX5_a x) + (fX5_numberS x)) / (4 : Int32)).toNatClampNeg) &&& (((65535 : Int32) <<< (((8 : Int32) * (((fX5_a x) + (fX5_numberS x)) &&& (3 : Int32))) &&& 31)) ^^^ (-1 : Int32))) ||| (((fX5_b ((fX5_may ((fX5_a x) + (fX5_numberS x)) ((1 : Int32) <<< ((fX5_bits (12 : Int32) (3 : Int32) x) &&& 31)) (6 : Int32) (7 : Int32) x).2)) <<< (((8 : Int32) * (((fX5_a x) + (fX5_numberS x)) &&& (3 : Int32))) &&& 31)) &&& ((65535 : Int32) <<< (((8 : Int32) * (((fX5_a x) + (fX5_numberS x)) &&& (3 : Int32))) &&& 31))))))) := hD
          exact W.vret hx hb hr (fun t ht hW => ⟨⟨(t_mem ((fX5_may ((fX5_a x) + (fX5_numberS x)) ((1 : Int32) <<< ((fX5_bits (12 : Int32) (3 : Int32) x) &&& 31)) (6 : Int32) (7 : Int32) x).2) (upd (r_mem ((fX5_may ((fX5_a x) + (fX5_numberS x)) ((1 : Int32) <<< ((fX5_bits (12 : Int32) (3 : Int32) x) &&& 31)) (6 : Int32) (7 : Int32) x).2)) (((fX5_a x) + (fX5_numberS x)) / (4 : Int32)).toNatClampNeg ((((r_mem ((fX5_may ((fX5_a x) + (fX5_numberS x)) ((1 : Int32) <<< ((fX5_bits (12 : Int32) (3 : Int32) x) &&& 31)) (6 : Int32) (7 : Int32) x).2)) (((fX5_a x) + (fX5_numberS x)) / (4 : Int32)).toNatClampNeg) &&& (((65535 : Int32) <<< (((8 : Int32) * (((fX5_a x) + (fX5_numberS x)) &&& (3 : Int32))) &&& 31)) ^^^ (-1 : Int32))) ||| (((fX5_b ((fX5_may ((fX5_a x) + (fX5_numberS x)) ((1 : Int32) <<< ((fX5_bits (12 : Int32) (3 : Int32) x) &&& 31)) (6 : Int32) (7 : Int32) x).2)) <<< (((8 : Int32) * (((fX5_a x) + (fX5_numberS x)) &&& (3 : Int32))) &&& 31)) &&& ((65535 : Int32) <<< (((8 : Int32) * (((fX5_a x) + (fX5_numberS x)) &&& (3 : Int32))) &&& 31)))))), rfl, (by unfold fX5_store; rw [if_pos c_10, if_neg c_42, if_neg c_55, if_pos c_69] <;> rfl), hpT ht hP⟩, hS.F ht⟩) hS.2.2 dX5_store_115
      · refine lv_sipush (v := 255) hx hb dX5_store_58 (by decide) ?_
        refine lv_iload hx hb dX5_store_61 (lv_at hl 0 rfl) ?_
        refine lv_ishl hx hb dX5_store_63 ?_
        refine lv_goto (tgt := 81) hx hb dX5_store_64 (by decide) ?_
        refine lv_istore (lv' := [(5, .int ((255 : Int32) <<< (((8 : Int32) * (((fX5_a x) + (fX5_numberS x)) &&& (3 : Int32))) &&& 31))), (4, .int ((8 : Int32) * (((fX5_a x) + (fX5_numberS x)) &&& (3 : Int32)))), (3, .int ((fX5_a x) + (fX5_numberS x))), (2, .int ((1 : Int32) <<< ((fX5_bits (12 : Int32) (3 : Int32) x) &&& 31))), (1, .int (fX5_bits (12 : Int32) (3 : Int32) x)), (0, .ref bH)]) hx hb dX5_store_81 hl (by decide) rfl (fun ls hl => ?_)
        refine lv_aload_n hx hb dX5_store_83 rfl (lv_at hl 5 rfl) ?_
        refine va_get (D := (dC, dI)) (ci := 3) (v := .ref bM) (C := RX5) (T := TX5) (N := 15) hx hb hB iX5 hown hK hP 0 rfl rfl 1 (by decide) (hB _ q_t2_232) (fun _ h9 => h9) rfl dX5_store_84 ?_
        refine lv_iload_n hx hb dX5_store_87 rfl (lv_at hl 2 rfl) ?_
        refine lv_iconst (v := 4) hx hb dX5_store_88 (by decide) ?_
        refine lv_idiv hx hb dX5_store_89 (by decide) ?_
        refine lv_aload_n hx hb dX5_store_90 rfl (lv_at hl 5 rfl) ?_
        refine va_get (D := (dC, dI)) (ci := 3) (v := .ref bM) (C := RX5) (T := TX5) (N := 15) hx hb hB iX5 hown hK hP 0 rfl rfl 1 (by decide) (hB _ q_t2_232) (fun _ h9 => h9) rfl dX5_store_91 ?_
        refine lv_iload_n hx hb dX5_store_94 rfl (lv_at hl 2 rfl) ?_
        refine lv_iconst (v := 4) hx hb dX5_store_95 (by decide) ?_
        refine lv_idiv hx hb dX5_store_96 (by decide) ?_
        refine va_iald hx hb hK hP 1 0 rfl rfl (in_may (sz_and _ 3 (by decide) (by decide)) c_42) dX5_store_97 ?_
        refine lv_iload hx hb dX5_store_98 (lv_at hl 0 rfl) ?_
        refine lv_iconst (v := -1) hx hb dX5_store_100 (by decide) ?_
        refine lv_ixor hx hb dX5_store_101 ?_
        refine lv_iand hx hb dX5_store_102 ?_
        refine lv_aload_n hx hb dX5_store_103 rfl (lv_at hl 5 rfl) ?_
        refine k_ri (va_runV (As := []) (rest := [.int (((r_mem ((fX5_may ((fX5_a x) + (fX5_numberS x)) ((1 : Int32) <<< ((fX5_bits (12 : Int32) (3 : Int32) x) &&& 31)) (6 : Int32) (7 : Int32) x).2)) (((fX5_a x) + (fX5_numberS x)) / (4 : Int32)).toNatClampNeg) &&& (((255 : Int32) <<< (((8 : Int32) * (((fX5_a x) + (fX5_numberS x)) &&& (3 : Int32))) &&& 31)) ^^^ (-1 : Int32))), .int (((fX5_a x) + (fX5_numberS x)) / (4 : Int32)), .ref bM]) ⟨hx, hb, hml, hown, hB⟩ (mX5_b l dC dI bH bM bR bC jM jR jC ((fX5_may ((fX5_a x) + (fX5_numberS x)) ((1 : Int32) <<< ((fX5_bits (12 : Int32) (3 : Int32) x) &&& 31)) (6 : Int32) (7 : Int32) x).2)) (cwV 0 hB (gV q_t3_118 q_t3_120 q_s_47 q_t1_4 wX5_b) rfl rfl rfl hX5_b ⟨Nat.le_of_ble_eq_true rfl, Nat.le_of_ble_eq_true rfl⟩) ⟨kP_blind NT_blind, va_recv hK hP (ci := 3) (q0 := 0) rfl rfl, kP_pre NT_warm hP hK hN⟩ rfl rfl hl.1 rfl (lv_room (Nat.le_of_ble_eq_true rfl)) dX5_store_104 ⟨Nat.zero_le _, Nat.zero_le _⟩) ?_
        refine lv_iload hx hb dX5_store_107 (lv_at hl 1 rfl) ?_
        refine lv_ishl hx hb dX5_store_109 ?_
        refine lv_iload hx hb dX5_store_110 (lv_at hl 0 rfl) ?_
        refine lv_iand hx hb dX5_store_112 ?_
        refine lv_ior hx hb dX5_store_113 ?_
        refine va_iast hx hb hK hP hD hS 1 0 rfl rfl (in_may (sz_and _ 3 (by decide) (by decide)) c_42) dX5_store_114 (fun H locs hP hD hS => ?_)
        have hP : va_P (dC, dI) vwCl (wR bH bM bR bC jM jR jC (t_mem ((fX5_may ((fX5_a x) + (fX5_numberS x)) ((1 : Int32) <<< ((fX5_bits (12 : Int32) (3 : Int32) x) &&& 31)) (6 : Int32) (7 : Int32) x).2) (upd (r_mem ((fX5_may ((fX5_a x) + (fX5_numberS x)) ((1 : Int32) <<< ((fX5_bits (12 : Int32) (3 : Int32) x) &&& 31)) (6 : Int32) (7 : Int32) x).2)) (((fX5_a x) + (fX5_numberS x)) / (4 : Int32)).toNatClampNeg ((((r_mem ((fX5_may ((fX5_a x) + (fX5_numberS x)) ((1 : Int32) <<< ((fX5_bits (12 : Int32) (3 : Int32) x) &&& 31)) (6 : Int32) (7 : Int32) x).2)) (((fX5_a x) + (fX5_numberS x)) / (4 : Int32)).toNatClampNeg) &&& (((255 : Int32) <<< (((8 : Int32) * (((fX5_a x) + (fX5_numberS x)) &&& (3 : Int32))) &&& 31)) ^^^ (-1 : Int32))) ||| (((fX5_b ((fX5_may ((fX5_a x) + (fX5_numberS x)) ((1 : Int32) <<< ((fX5_bits (12 : Int32) (3 : Int32) x) &&& 31)) (6 : Int32) (7 : Int32) x).2)) <<< (((8 : Int32) * (((fX5_a x) + (fX5_numberS x)) &&& (3 : Int32))) &&& 31)) &&& ((255 : Int32) <<< (((8 : Int32) * (((fX5_a x) + (fX5_numberS x)) &&& (3 : Int32))) &&& 31))))))) H := hP
        have hD : va_D A (wR bH bM bR bC jM jR jC (t_mem ((fX5_may ((fX5_a x) + (fX5_numberS x)) ((1 : Int32) <<< ((fX5_bits (12 : Int32) (3 : Int32) x) &&& 31)) (6 : Int32) (7 : Int32) x).2) (upd (r_mem ((fX5_may ((fX5_a x) + (fX5_numberS x)) ((1 : Int32) <<< ((fX5_bits (12 : Int32) (3 : Int32) x) &&& 31)) (6 : Int32) (7 : Int32) x).2)) (((fX5_a x) + (fX5_numberS x)) / (4 : Int32)).toNatClampNeg ((((r_mem ((fX5_may ((fX5_a x) + (fX5_numberS x)) ((1 : Int32) <<< ((fX5_bits (12 : Int32) (3 : Int32) x) &&& 31)) (6 : Int32) (7 : Int32) x).2)) (((fX5_a x) + (fX5_numberS x)) / (4 : Int32)).toNatClampNeg) &&& (((255 : Int32) <<< (((8 : Int32) * (((fX5_a x) + (fX5_numberS x)) &&& (3 : Int32))) &&& 31)) ^^^ (-1 : Int32))) ||| (((fX5_b ((fX5_may ((fX5_a x) + (fX5_numberS x)) ((1 : Int32) <<< ((fX5_bits (12 : Int32) (3 : Int32) x) &&& 31)) (6 : Int32) (7 : Int32) x).2)) <<< (((8 : Int32) * (((fX5_a x) + (fX5_numberS x)) &&& (3 : Int32))) &&& 31)) &&& ((255 : Int32) <<< (((8 : Int32) * (((fX5_a x) + (fX5_numberS x)) &&& (3 : Int32))) &&& 31))))))) := hD
        exact W.vret hx hb hr (fun t ht hW => ⟨⟨(t_mem ((fX5_may ((fX5_a x) + (fX5_numberS x)) ((1 : Int32) <<< ((fX5_bits (12 : Int32) (3 : Int32) x) &&& 31)) (6 : Int32) (7 : Int32) x).2) (upd (r_mem ((fX5_may ((fX5_a x) + (fX5_numberS x)) ((1 : Int32) <<< ((fX5_bits (12 : Int32) (3 : Int32) x) &&& 31)) (6 : Int32) (7 : Int32) x).2)) (((fX5_a x) + (fX5_numberS x)) / (4 : Int32)).toNatClampNeg ((((r_mem ((fX5_may ((fX5_a x) + (fX5_numberS x)) ((1 : Int32) <<< ((fX5_bits (12 : Int32) (3 : Int32) x) &&& 31)) (6 : Int32) (7 : Int32) x).2)) (((fX5_a x) + (fX5_numberS x)) / (4 : Int32)).toNatClampNeg) &&& (((255 : Int32) <<< (((8 : Int32) * (((fX5_a x) + (fX5_numberS x)) &&& (3 : Int32))) &&& 31)) ^^^ (-1 : Int32))) ||| (((fX5_b ((fX5_may ((fX5_a x) + (fX5_numberS x)) ((1 : Int32) <<< ((fX5_bits (12 : Int32) (3 : Int32) x) &&& 31)) (6 : Int32) (7 : Int32) x).2)) <<< (((8 : Int32) * (((fX5_a x) + (fX5_numberS x)) &&& (3 : Int32))) &&& 31)) &&& ((255 : Int32) <<< (((8 : Int32) * (((fX5_a x) + (fX5_numberS x)) &&& (3 : Int32))) &&& 31)))))), rfl, (by unfold fX5_store; rw [if_pos c_10, if_neg c_42, if_pos c_55] <;> rfl), hpT ht hP⟩, hS.F ht⟩) hS.2.2 dX5_store_115
    · exact W.vret hx hb hr (fun t ht hW => ⟨⟨((fX5_may ((fX5_a x) + (fX5_numberS x)) ((1 : Int32) <<< ((fX5_bits (12 : Int32) (3 : Int32) x) &&& 31)) (6 : Int32) (7 : Int32) x).2), rfl, (by unfold fX5_store; rw [if_pos c_10, if_pos c_42] <;> rfl), hpT ht hP⟩, hS.F ht⟩) hS.2.2 dX5_store_45
  · refine lv_aload_n hx hb dX5_store_13 rfl (lv_at hl 1 rfl) ?_
    refine k_mv (w := wR bH bM bR bC jM jR jC) wR_ad (va_runV (As := []) (rest := []) ⟨hx, hb, hml, hown, hB⟩ (mX5_none l dC dI bH bM bR bC jM jR jC s.heap.size x) (cwV 0 hB (gV q_t3_102 q_t3_104 q_s_43 q_t1_4 wX5_none) rfl rfl rfl hX5_none ⟨Nat.le_of_ble_eq_true rfl, Nat.le_of_ble_eq_true rfl⟩) ⟨kM_blind NT_blind, va_recv hK hP (ci := 3) (q0 := 0) rfl rfl, kM_pre NT_warm hP hK hD hN⟩ rfl rfl hl.1 rfl (lv_room (Nat.le_of_ble_eq_true rfl)) dX5_store_14 ⟨Nat.zero_le _, Nat.zero_le _⟩) hD hS hA (fun u H locs hw hP hD hS => ?_)
    obtain rfl := hw
    exact W.vret hx hb hr (fun t ht hW => ⟨⟨(fX5_none x), rfl, (by unfold fX5_store; rw [if_neg c_10] <;> rfl), hpT ht hP⟩, hS.F ht⟩) hS.2.2 dX5_store_17
def fX5_withNumber (x : SR) : SR := if (fX5_bits (12 : Int32) (3 : Int32) x) = (0 : Int32) then
    fX5_lay ((fX5_a x) + (fX5_numberI x)) x
  else
    if (fX5_bits (12 : Int32) (3 : Int32) x) = (1 : Int32) then
      if (fX5_bits (25 : Int32) (7 : Int32) x) = 0 then
        fX5_lay ((fX5_a x) <<< ((fX5_bits (20 : Int32) (5 : Int32) x) &&& 31)) x
      else
        fX5_none x
    else
      if (fX5_bits (12 : Int32) (3 : Int32) x) = (2 : Int32) then
        if (fX5_numberI x) ≤ (fX5_a x) then
          fX5_lay (0 : Int32) x
        else
          fX5_lay (1 : Int32) x
      else
        if (fX5_bits (12 : Int32) (3 : Int32) x) = (3 : Int32) then
          if (bi (fX5_isBelow (fX5_a x) (fX5_numberI x))) = 0 then
            fX5_lay (0 : Int32) x
          else
            fX5_lay (1 : Int32) x
        else
          if (fX5_bits (12 : Int32) (3 : Int32) x) = (4 : Int32) then
            fX5_lay ((fX5_a x) ^^^ (fX5_numberI x)) x
          else
            if (fX5_bits (12 : Int32) (3 : Int32) x) = (5 : Int32) then
              if (fX5_bits (25 : Int32) (7 : Int32) x) = 0 then
                fX5_lay (ush (fX5_a x) (fX5_bits (20 : Int32) (5 : Int32) x)) x
              else
                if (fX5_bits (25 : Int32) (7 : Int32) x) = (32 : Int32) then
                  fX5_lay ((fX5_a x) >>> ((fX5_bits (20 : Int32) (5 : Int32) x) &&& 31)) x
                else
                  fX5_none x
            else
              if (fX5_bits (12 : Int32) (3 : Int32) x) = (6 : Int32) then
                fX5_lay ((fX5_a x) ||| (fX5_numberI x)) x
              else
                fX5_lay ((fX5_a x) &&& (fX5_numberI x)) x
set_option maxHeartbeats 4000000 in
set_option maxRecDepth 100000 in
theorem mX5_withNumber (l : Launch) (dC : Nat → ClassId) (dI : Nat → Nat → Nat) (bH bM bR bC jM jR jC : Nat) (sz : Nat) (x : SR) : Met l yX5_withNumber wsX5_withNumber ({ frames := 2, cells := 0, slots := 0, locals := 44 }) (va_Pc [.ref bH] (kM (dC, dI) [(jM, .int), (jR, .int), (jC, .int)] NT (wR bH bM bR bC jM jR jC x) sz)) (va_Qv (fun u => u = fX5_withNumber x) (fun u t => va_P (dC, dI) vwCl (wR bH bM bR bC jM jR jC u) t.heap) (va_A (wR bH bM bR bC jM jR jC x) sz)) 0 0 (va_A (wR bH bM bR bC jM jR jC x) sz) := by
  refine Met.ofW (cc := cX5_withNumber) (maxL := 5) (ret := none) (by decide) rfl ?_
  intro p e s m args below meth c s₁ B hml hv
  obtain ⟨rfl, hsz, hD0, hP, hK, hN⟩ := hv
  have hx := B.exec
  have hb := B.bytes
  have hr := B.returns
  have hB := fun (w : Cond) (h : w ∈ BIG) => atoms_spec (ws := wsX5_withNumber) B.pre w (List.mem_cons_of_mem _ h)
  have hown : s.vm.findClass RX5 = some m.cls := findClass_of_methodNamed B.named
  have hlocks := B.notSynchronized
  subst hsz
  have hD := hD0.self (sz := s.heap.size)
  generalize hAe : va_A (wR bH bM bR bC jM jR jC x) s.heap.size = A at hD ⊢
  have hA : ∀ q : Nat, s.heap.size ≤ q → A q := fun q h => by rw [← hAe]; exact Or.inr h
  have hS : va_S A s.heap s.heap [] := va_S.rf
  have hl := lv_entry ([.ref bH]) (n := 5) (Nat.le_of_ble_eq_true rfl)
  rw [lg_entry_eq]
  generalize (lg_sl ([.ref bH]) ++ List.replicate (5 - (lg_sl ([.ref bH])).length) Slot.unset).toArray = ls at hl ⊢
  have hl : lv_has ls 5 [(0, .ref bH)] := hl
  refine lv_aload_n hx hb dX5_withNumber_0 rfl (lv_at hl 0 rfl) ?_
  refine k_ri (va_runV (As := []) (rest := []) ⟨hx, hb, hml, hown, hB⟩ (mX5_a l dC dI bH bM bR bC jM jR jC x) (cwV 0 hB (gV q_t3_106 q_t3_108 q_s_44 q_t1_4 wX5_a) rfl rfl rfl hX5_a ⟨Nat.le_of_ble_eq_true rfl, Nat.le_of_ble_eq_true rfl⟩) ⟨kP_blind NT_blind, va_recv hK hP (ci := 3) (q0 := 0) rfl rfl, kP_pre NT_warm hP hK hN⟩ rfl rfl hl.1 rfl (lv_room (Nat.le_of_ble_eq_true rfl)) dX5_withNumber_1 ⟨Nat.zero_le _, Nat.zero_le _⟩) ?_
  refine lv_istore_n (lv' := [(1, .int (fX5_a x)), (0, .ref bH)]) hx hb dX5_withNumber_4 rfl hl (by decide) rfl (fun ls hl => ?_)
  refine lv_aload_n hx hb dX5_withNumber_5 rfl (lv_at hl 1 rfl) ?_
  refine k_ri (va_runV (As := []) (rest := []) ⟨hx, hb, hml, hown, hB⟩ (mX5_numberI l dC dI bH bM bR bC jM jR jC x) (cwV 0 hB (gV q_t3_110 q_t3_112 q_s_45 q_t1_4 wX5_numberI) rfl rfl rfl hX5_numberI ⟨Nat.le_of_ble_eq_true rfl, Nat.le_of_ble_eq_true rfl⟩) ⟨kP_blind NT_blind, va_recv hK hP (ci := 3) (q0 := 0) rfl rfl, kP_pre NT_warm hP hK hN⟩ rfl rfl hl.1 rfl (lv_room (Nat.le_of_ble_eq_true rfl)) dX5_withNumber_6 ⟨Nat.zero_le _, Nat.zero_le _⟩) ?_
  refine lv_istore_n (lv' := [(2, .int (fX5_numberI x)), (1, .int (fX5_a x)), (0, .ref bH)]) hx hb dX5_withNumber_9 rfl hl (by decide) rfl (fun ls hl => ?_)
  refine lv_aload_n hx hb dX5_withNumber_10 rfl (lv_at hl 2 rfl) ?_
  refine lv_bipush (v := 25) hx hb dX5_withNumber_11 (by decide) ?_
  refine lv_bipush (v := 7) hx hb dX5_withNumber_13 (by decide) ?_
  refine k_ri (va_runV (As := [.int (25 : Int32), .int (7 : Int32)]) (rest := []) ⟨hx, hb, hml, hown, hB⟩ (mX5_bits l dC dI bH bM bR bC jM jR jC x (25 : Int32) (7 : Int32)) (cwV 2 hB (gV q_t3_78 q_t3_80 q_s_37 q_t1_4 wX5_bits) rfl rfl rfl hX5_bits ⟨Nat.le_of_ble_eq_true rfl, Nat.le_of_ble_eq_true rfl⟩) ⟨kP_blind NT_blind, va_recv hK hP (ci := 3) (q0 := 0) rfl rfl, kP_pre NT_warm hP hK hN⟩ rfl rfl hl.1 rfl (lv_room (Nat.le_of_ble_eq_true rfl)) dX5_withNumber_15 ⟨Nat.zero_le _, Nat.zero_le _⟩) ?_
  refine lv_istore_n (lv' := [(3, .int (fX5_bits (25 : Int32) (7 : Int32) x)), (2, .int (fX5_numberI x)), (1, .int (fX5_a x)), (0, .ref bH)]) hx hb dX5_withNumber_18 rfl hl (by decide) rfl (fun ls hl => ?_)
  refine lv_aload_n hx hb dX5_withNumber_19 rfl (lv_at hl 3 rfl) ?_
  refine lv_bipush (v := 20) hx hb dX5_withNumber_20 (by decide) ?_
  refine lv_iconst (v := 5) hx hb dX5_withNumber_22 (by decide) ?_
  refine k_ri (va_runV (As := [.int (20 : Int32), .int (5 : Int32)]) (rest := []) ⟨hx, hb, hml, hown, hB⟩ (mX5_bits l dC dI bH bM bR bC jM jR jC x (20 : Int32) (5 : Int32)) (cwV 2 hB (gV q_t3_78 q_t3_80 q_s_37 q_t1_4 wX5_bits) rfl rfl rfl hX5_bits ⟨Nat.le_of_ble_eq_true rfl, Nat.le_of_ble_eq_true rfl⟩) ⟨kP_blind NT_blind, va_recv hK hP (ci := 3) (q0 := 0) rfl rfl, kP_pre NT_warm hP hK hN⟩ rfl rfl hl.1 rfl (lv_room (Nat.le_of_ble_eq_true rfl)) dX5_withNumber_23 ⟨Nat.zero_le _, Nat.zero_le _⟩) ?_
  refine lv_istore (lv' := [(4, .int (fX5_bits (20 : Int32) (5 : Int32) x)), (3, .int (fX5_bits (25 : Int32) (7 : Int32) x)), (2, .int (fX5_numberI x)), (1, .int (fX5_a x)), (0, .ref bH)]) hx hb dX5_withNumber_26 hl (by decide) rfl (fun ls hl => ?_)
  refine lv_aload_n hx hb dX5_withNumber_28 rfl (lv_at hl 4 rfl) ?_
  refine lv_bipush (v := 12) hx hb dX5_withNumber_29 (by decide) ?_
  refine lv_iconst (v := 3) hx hb dX5_withNumber_31 (by decide) ?_
  refine k_ri (va_runV (As := [.int (12 : Int32), .int (3 : Int32)]) (rest := []) ⟨hx, hb, hml, hown, hB⟩ (mX5_bits l dC dI bH bM bR bC jM jR jC x (12 : Int32) (3 : Int32)) (cwV 2 hB (gV q_t3_78 q_t3_80 q_s_37 q_t1_4 wX5_bits) rfl rfl rfl hX5_bits ⟨Nat.le_of_ble_eq_true rfl, Nat.le_of_ble_eq_true rfl⟩) ⟨kP_blind NT_blind, va_recv hK hP (ci := 3) (q0 := 0) rfl rfl, kP_pre NT_warm hP hK hN⟩ rfl rfl hl.1 rfl (lv_room (Nat.le_of_ble_eq_true rfl)) dX5_withNumber_32 ⟨Nat.zero_le _, Nat.zero_le _⟩) ?_
  by_cases c_35_0 : (fX5_bits (12 : Int32) (3 : Int32) x) = (0 : Int32)
  · refine lv_tableIn (off := 41) (tgt := 76) hx hb dX5_withNumber_35 (by rw [c_35_0]; decide) (by rw [c_35_0]; decide) (by rw [c_35_0]; rfl) (by decide) ?_
    refine lv_aload_n hx hb dX5_withNumber_76 rfl (lv_at hl 4 rfl) ?_
    refine lv_iload_n hx hb dX5_withNumber_77 rfl (lv_at hl 3 rfl) ?_
    refine lv_iload_n hx hb dX5_withNumber_78 rfl (lv_at hl 2 rfl) ?_
    refine lv_iadd hx hb dX5_withNumber_79 ?_
    refine k_mv (w := wR bH bM bR bC jM jR jC) wR_ad (va_runV (As := [.int ((fX5_a x) + (fX5_numberI x))]) (rest := []) ⟨hx, hb, hml, hown, hB⟩ (mX5_lay l dC dI bH bM bR bC jM jR jC s.heap.size x ((fX5_a x) + (fX5_numberI x))) (cwV 1 hB (gV q_t3_86 q_t3_88 q_s_39 q_t1_4 wX5_lay) rfl rfl rfl hX5_lay ⟨Nat.le_of_ble_eq_true rfl, Nat.le_of_ble_eq_true rfl⟩) ⟨kM_blind NT_blind, va_recv hK hP (ci := 3) (q0 := 0) rfl rfl, kM_pre NT_warm hP hK hD hN⟩ rfl rfl hl.1 rfl (lv_room (Nat.le_of_ble_eq_true rfl)) dX5_withNumber_80 ⟨Nat.zero_le _, Nat.zero_le _⟩) hD hS hA (fun u H locs hw hP hD hS => ?_)
    obtain rfl := hw
    exact W.vret hx hb hr (fun t ht hW => ⟨⟨(fX5_lay ((fX5_a x) + (fX5_numberI x)) x), rfl, (by unfold fX5_withNumber; rw [if_pos c_35_0] <;> rfl), hpT ht hP⟩, hS.F ht⟩) hS.2.2 dX5_withNumber_83
  by_cases c_35_1 : (fX5_bits (12 : Int32) (3 : Int32) x) = (1 : Int32)
  · refine lv_tableIn (off := 49) (tgt := 84) hx hb dX5_withNumber_35 (by rw [c_35_1]; decide) (by rw [c_35_1]; decide) (by rw [c_35_1]; rfl) (by decide) ?_
    refine lv_iload_n hx hb dX5_withNumber_84 rfl (lv_at hl 1 rfl) ?_
    refine lv_if_eq (tgt := 95) hx hb dX5_withNumber_85 (by decide) (fun c_85 => ?_) (fun c_85 => ?_)
    · refine lv_aload_n hx hb dX5_withNumber_95 rfl (lv_at hl 4 rfl) ?_
      refine lv_iload_n hx hb dX5_withNumber_96 rfl (lv_at hl 3 rfl) ?_
      refine lv_iload hx hb dX5_withNumber_97 (lv_at hl 0 rfl) ?_
      refine lv_ishl hx hb dX5_withNumber_99 ?_
      refine k_mv (w := wR bH bM bR bC jM jR jC) wR_ad (va_runV (As := [.int ((fX5_a x) <<< ((fX5_bits (20 : Int32) (5 : Int32) x) &&& 31))]) (rest := []) ⟨hx, hb, hml, hown, hB⟩ (mX5_lay l dC dI bH bM bR bC jM jR jC s.heap.size x ((fX5_a x) <<< ((fX5_bits (20 : Int32) (5 : Int32) x) &&& 31))) (cwV 1 hB (gV q_t3_86 q_t3_88 q_s_39 q_t1_4 wX5_lay) rfl rfl rfl hX5_lay ⟨Nat.le_of_ble_eq_true rfl, Nat.le_of_ble_eq_true rfl⟩) ⟨kM_blind NT_blind, va_recv hK hP (ci := 3) (q0 := 0) rfl rfl, kM_pre NT_warm hP hK hD hN⟩ rfl rfl hl.1 rfl (lv_room (Nat.le_of_ble_eq_true rfl)) dX5_withNumber_100 ⟨Nat.zero_le _, Nat.zero_le _⟩) hD hS hA (fun u H locs hw hP hD hS => ?_)
      obtain rfl := hw
      exact W.vret hx hb hr (fun t ht hW => ⟨⟨(fX5_lay ((fX5_a x) <<< ((fX5_bits (20 : Int32) (5 : Int32) x) &&& 31)) x), rfl, (by unfold fX5_withNumber; rw [if_neg c_35_0, if_pos c_35_1, if_pos c_85] <;> rfl), hpT ht hP⟩, hS.F ht⟩) hS.2.2 dX5_withNumber_103
    · refine lv_aload_n hx hb dX5_withNumber_88 rfl (lv_at hl 4 rfl) ?_
      refine k_mv (w := wR bH bM bR bC jM jR jC) wR_ad (va_runV (As := []) (rest := []) ⟨hx, hb, hml, hown, hB⟩ (mX5_none l dC dI bH bM bR bC jM jR jC s.heap.size x) (cwV 0 hB (gV q_t3_102 q_t3_104 q_s_43 q_t1_4 wX5_none) rfl rfl rfl hX5_none ⟨Nat.le_of_ble_eq_true rfl, Nat.le_of_ble_eq_true rfl⟩) ⟨kM_blind NT_blind, va_recv hK hP (ci := 3) (q0 := 0) rfl rfl, kM_pre NT_warm hP hK hD hN⟩ rfl rfl hl.1 rfl (lv_room (Nat.le_of_ble_eq_true rfl)) dX5_withNumber_89 ⟨Nat.zero_le _, Nat.zero_le _⟩) hD hS hA (fun u H locs hw hP hD hS => ?_)
      obtain rfl := hw
      refine lv_goto (tgt := 103) hx hb dX5_withNumber_92 (by decide) ?_
      exact W.vret hx hb hr (fun t ht hW => ⟨⟨(fX5_none x), rfl, (by unfold fX5_withNumber; rw [if_neg c_35_0, if_pos c_35_1, if_neg c_85] <;> rfl), hpT ht hP⟩, hS.F ht⟩) hS.2.2 dX5_withNumber_103
  by_cases c_35_2 : (fX5_bits (12 : Int32) (3 : Int32) x) = (2 : Int32)
  · refine lv_tableIn (off := 69) (tgt := 104) hx hb dX5_withNumber_35 (by rw [c_35_2]; decide) (by rw [c_35_2]; decide) (by rw [c_35_2]; rfl) (by decide) ?_
    refine lv_aload_n hx hb dX5_withNumber_104 rfl (lv_at hl 4 rfl) ?_
    refine lv_iload_n hx hb dX5_withNumber_105 rfl (lv_at hl 3 rfl) ?_
    refine lv_iload_n hx hb dX5_withNumber_106 rfl (lv_at hl 2 rfl) ?_
    refine lv_icmp_ge (tgt := 114) hx hb dX5_withNumber_107 (by decide) (fun c_107 => ?_) (fun c_107 => ?_)
    · refine lv_iconst (v := 0) hx hb dX5_withNumber_114 (by decide) ?_
      refine k_mv (w := wR bH bM bR bC jM jR jC) wR_ad (va_runV (As := [.int (0 : Int32)]) (rest := []) ⟨hx, hb, hml, hown, hB⟩ (mX5_lay l dC dI bH bM bR bC jM jR jC s.heap.size x (0 : Int32)) (cwV 1 hB (gV q_t3_86 q_t3_88 q_s_39 q_t1_4 wX5_lay) rfl rfl rfl hX5_lay ⟨Nat.le_of_ble_eq_true rfl, Nat.le_of_ble_eq_true rfl⟩) ⟨kM_blind NT_blind, va_recv hK hP (ci := 3) (q0 := 0) rfl rfl, kM_pre NT_warm hP hK hD hN⟩ rfl rfl hl.1 rfl (lv_room (Nat.le_of_ble_eq_true rfl)) dX5_withNumber_115 ⟨Nat.zero_le _, Nat.zero_le _⟩) hD hS hA (fun u H locs hw hP hD hS => ?_)
      obtain rfl := hw
      exact W.vret hx hb hr (fun t ht hW => ⟨⟨(fX5_lay (0 : Int32) x), rfl, (by unfold fX5_withNumber; rw [if_neg c_35_0, if_neg c_35_1, if_pos c_35_2, if_pos c_107] <;> rfl), hpT ht hP⟩, hS.F ht⟩) hS.2.2 dX5_withNumber_118
    · refine lv_iconst (v := 1) hx hb dX5_withNumber_110 (by decide) ?_
      refine lv_goto (tgt := 115) hx hb dX5_withNumber_111 (by decide) ?_
      refine k_mv (w := wR bH bM bR bC jM jR jC) wR_ad (va_runV (As := [.int (1 : Int32)]) (rest := []) ⟨hx, hb, hml, hown, hB⟩ (mX5_lay l dC dI bH bM bR bC jM jR jC s.heap.size x (1 : Int32)) (cwV 1 hB (gV q_t3_86 q_t3_88 q_s_39 q_t1_4 wX5_lay) rfl rfl rfl hX5_lay ⟨Nat.le_of_ble_eq_true rfl, Nat.le_of_ble_eq_true rfl⟩) ⟨kM_blind NT_blind, va_recv hK hP (ci := 3) (q0 := 0) rfl rfl, kM_pre NT_warm hP hK hD hN⟩ rfl rfl hl.1 rfl (lv_room (Nat.le_of_ble_eq_true rfl)) dX5_withNumber_115 ⟨Nat.zero_le _, Nat.zero_le _⟩) hD hS hA (fun u H locs hw hP hD hS => ?_)
      obtain rfl := hw
      exact W.vret hx hb hr (fun t ht hW => ⟨⟨(fX5_lay (1 : Int32) x), rfl, (by unfold fX5_withNumber; rw [if_neg c_35_0, if_neg c_35_1, if_pos c_35_2, if_neg c_107] <;> rfl), hpT ht hP⟩, hS.F ht⟩) hS.2.2 dX5_withNumber_118
  by_cases c_35_3 : (fX5_bits (12 : Int32) (3 : Int32) x) = (3 : Int32)
  · refine lv_tableIn (off := 84) (tgt := 119) hx hb dX5_withNumber_35 (by rw [c_35_3]; decide) (by rw [c_35_3]; decide) (by rw [c_35_3]; rfl) (by decide) ?_
    refine lv_aload_n hx hb dX5_withNumber_119 rfl (lv_at hl 4 rfl) ?_
    refine lv_iload_n hx hb dX5_withNumber_120 rfl (lv_at hl 3 rfl) ?_
    refine lv_iload_n hx hb dX5_withNumber_121 rfl (lv_at hl 2 rfl) ?_
    refine k_ri (va_runS (As := [.int (fX5_a x), .int (fX5_numberI x)]) (rest := [.ref bH]) ⟨hx, hb, hml, hown, hB⟩ (mX5_isBelow l (fX5_a x) (fX5_numberI x)) (va_cwS 2 hB (gS q_t3_122 q_t3_123 q_t1_4 wX5_isBelow) rfl rfl rfl hX5_isBelow.2 ⟨Nat.le_of_ble_eq_true rfl, Nat.le_of_ble_eq_true rfl⟩) ⟨fun _ _ _ _ q => q, fun U _ _ => ⟨rfl, trivial⟩⟩ rfl rfl hl.1 rfl (lv_room (Nat.le_of_ble_eq_true rfl)) dX5_withNumber_122 ⟨Nat.zero_le _, Nat.zero_le _⟩) ?_
    refine lv_if_eq (tgt := 132) hx hb dX5_withNumber_125 (by decide) (fun c_125 => ?_) (fun c_125 => ?_)
    · refine lv_iconst (v := 0) hx hb dX5_withNumber_132 (by decide) ?_
      refine k_mv (w := wR bH bM bR bC jM jR jC) wR_ad (va_runV (As := [.int (0 : Int32)]) (rest := []) ⟨hx, hb, hml, hown, hB⟩ (mX5_lay l dC dI bH bM bR bC jM jR jC s.heap.size x (0 : Int32)) (cwV 1 hB (gV q_t3_86 q_t3_88 q_s_39 q_t1_4 wX5_lay) rfl rfl rfl hX5_lay ⟨Nat.le_of_ble_eq_true rfl, Nat.le_of_ble_eq_true rfl⟩) ⟨kM_blind NT_blind, va_recv hK hP (ci := 3) (q0 := 0) rfl rfl, kM_pre NT_warm hP hK hD hN⟩ rfl rfl hl.1 rfl (lv_room (Nat.le_of_ble_eq_true rfl)) dX5_withNumber_133 ⟨Nat.zero_le _, Nat.zero_le _⟩) hD hS hA (fun u H locs hw hP hD hS => ?_)
      obtain rfl := hw
      exact W.vret hx hb hr (fun t ht hW => ⟨⟨(fX5_lay (0 : Int32) x), rfl, (by unfold fX5_withNumber; rw [if_neg c_35_0, if_neg c_35_1, if_neg c_35_2, if_pos c_35_3, if_pos c_125] <;> rfl), hpT ht hP⟩, hS.F ht⟩) hS.2.2 dX5_withNumber_136
    · refine lv_iconst (v := 1) hx hb dX5_withNumber_128 (by decide) ?_
      refine lv_goto (tgt := 133) hx hb dX5_withNumber_129 (by decide) ?_
      refine k_mv (w := wR bH bM bR bC jM jR jC) wR_ad (va_runV (As := [.int (1 : Int32)]) (rest := []) ⟨hx, hb, hml, hown, hB⟩ (mX5_lay l dC dI bH bM bR bC jM jR jC s.heap.size x (1 : Int32)) (cwV 1 hB (gV q_t3_86 q_t3_88 q_s_39 q_t1_4 wX5_lay) rfl rfl rfl hX5_lay ⟨Nat.le_of_ble_eq_true rfl, Nat.le_of_ble_eq_true rfl⟩) ⟨kM_blind NT_blind, va_recv hK hP (ci := 3) (q0 := 0) rfl rfl, kM_pre NT_warm hP hK hD hN⟩ rfl rfl hl.1 rfl (lv_room (Nat.le_of_ble_eq_true rfl)) dX5_withNumber_133 ⟨Nat.zero_le _, Nat.zero_le _⟩) hD hS hA (fun u H locs hw hP hD hS => ?_)
      obtain rfl := hw
      exact W.vret hx hb hr (fun t ht hW => ⟨⟨(fX5_lay (1 : Int32) x), rfl, (by unfold fX5_withNumber; rw [if_neg c_35_0, if_neg c_35_1, if_neg c_35_2, if_pos c_35_3, if_neg c_125] <;> rfl), hpT ht hP⟩, hS.F ht⟩) hS.2.2 dX5_withNumber_136
  by_cases c_35_4 : (fX5_bits (12 : Int32) (3 : Int32) x) = (4 : Int32)
  · refine lv_tableIn (off := 102) (tgt := 137) hx hb dX5_withNumber_35 (by rw [c_35_4]; decide) (by rw [c_35_4]; decide) (by rw [c_35_4]; rfl) (by decide) ?_
    refine lv_aload_n hx hb dX5_withNumber_137 rfl (lv_at hl 4 rfl) ?_
    refine lv_iload_n hx hb dX5_withNumber_138 rfl (lv_at hl 3 rfl) ?_
    refine lv_iload_n hx hb dX5_withNumber_139 rfl (lv_at hl 2 rfl) ?_
    refine lv_ixor hx hb dX5_withNumber_140 ?_
    refine k_mv (w := wR bH bM bR bC jM jR jC) wR_ad (va_runV (As := [.int ((fX5_a x) ^^^ (fX5_numberI x))]) (rest := []) ⟨hx, hb, hml, hown, hB⟩ (mX5_lay l dC dI bH bM bR bC jM jR jC s.heap.size x ((fX5_a x) ^^^ (fX5_numberI x))) (cwV 1 hB (gV q_t3_86 q_t3_88 q_s_39 q_t1_4 wX5_lay) rfl rfl rfl hX5_lay ⟨Nat.le_of_ble_eq_true rfl, Nat.le_of_ble_eq_true rfl⟩) ⟨kM_blind NT_blind, va_recv hK hP (ci := 3) (q0 := 0) rfl rfl, kM_pre NT_warm hP hK hD hN⟩ rfl rfl hl.1 rfl (lv_room (Nat.le_of_ble_eq_true rfl)) dX5_withNumber_141 ⟨Nat.zero_le _, Nat.zero_le _⟩) hD hS hA (fun u H locs hw hP hD hS => ?_)
    obtain rfl := hw
    exact W.vret hx hb hr (fun t ht hW => ⟨⟨(fX5_lay ((fX5_a x) ^^^ (fX5_numberI x)) x), rfl, (by unfold fX5_withNumber; rw [if_neg c_35_0, if_neg c_35_1, if_neg c_35_2, if_neg c_35_3, if_pos c_35_4] <;> rfl), hpT ht hP⟩, hS.F ht⟩) hS.2.2 dX5_withNumber_144
  by_cases c_35_5 : (fX5_bits (12 : Int32) (3 : Int32) x) = (5 : Int32)
  · refine lv_tableIn (off := 110) (tgt := 145) hx hb dX5_withNumber_35 (by rw [c_35_5]; decide) (by rw [c_35_5]; decide) (by rw [c_35_5]; rfl) (by decide) ?_
    refine lv_iload_n hx hb dX5_withNumber_145 rfl (lv_at hl 1 rfl) ?_
    refine lv_if_ne (tgt := 160) hx hb dX5_withNumber_146 (by decide) (fun c_146 => ?_) (fun c_146 => ?_)
    · refine lv_iload_n hx hb dX5_withNumber_160 rfl (lv_at hl 1 rfl) ?_
      refine lv_bipush (v := 32) hx hb dX5_withNumber_161 (by decide) ?_
      refine lv_icmp_ne (tgt := 177) hx hb dX5_withNumber_163 (by decide) (fun c_163 => ?_) (fun c_163 => ?_)
      · refine lv_aload_n hx hb dX5_withNumber_177 rfl (lv_at hl 4 rfl) ?_
        refine k_mv (w := wR bH bM bR bC jM jR jC) wR_ad (va_runV (As := []) (rest := []) ⟨hx, hb, hml, hown, hB⟩ (mX5_none l dC dI bH bM bR bC jM jR jC s.heap.size x) (cwV 0 hB (gV q_t3_102 q_t3_104 q_s_43 q_t1_4 wX5_none) rfl rfl rfl hX5_none ⟨Nat.le_of_ble_eq_true rfl, Nat.le_of_ble_eq_true rfl⟩) ⟨kM_blind NT_blind, va_recv hK hP (ci := 3) (q0 := 0) rfl rfl, kM_pre NT_warm hP hK hD hN⟩ rfl rfl hl.1 rfl (lv_room (Nat.le_of_ble_eq_true rfl)) dX5_withNumber_178 ⟨Nat.zero_le _, Nat.zero_le _⟩) hD hS hA (fun u H locs hw hP hD hS => ?_)
        obtain rfl := hw
        exact W.vret hx hb hr (fun t ht hW => ⟨⟨(fX5_none x), rfl, (by unfold fX5_withNumber; rw [if_neg c_35_0, if_neg c_35_1, if_neg c_35_2, if_neg c_35_3, if_neg c_35_4, if_pos c_35_5, if_neg c_146, if_neg c_163] <;> rfl), hpT ht hP⟩, hS.F ht⟩) hS.2.2 dX5_withNumber_181
      · refine lv_aload_n hx hb dX5_withNumber_166 rfl (lv_at hl 4 rfl) ?_
        refine lv_iload_n hx hb dX5_withNumber_167 rfl (lv_at hl 3 rfl) ?_
        refine lv_iload hx hb dX5_withNumber_168 (lv_at hl 0 rfl) ?_
        refine lv_ishr hx hb dX5_withNumber_170 ?_
        refine k_mv (w := wR bH bM bR bC jM jR jC) wR_ad (va_runV (As := [.int ((fX5_a x) >>> ((fX5_bits (20 : Int32) (5 : Int32) x) &&& 31))]) (rest := []) ⟨hx, hb, hml, hown, hB⟩ (mX5_lay l dC dI bH bM bR bC jM jR jC s.heap.size x ((fX5_a x) >>> ((fX5_bits (20 : Int32) (5 : Int32) x) &&& 31))) (cwV 1 hB (gV q_t3_86 q_t3_88 q_s_39 q_t1_4 wX5_lay) rfl rfl rfl hX5_lay ⟨Nat.le_of_ble_eq_true rfl, Nat.le_of_ble_eq_true rfl⟩) ⟨kM_blind NT_blind, va_recv hK hP (ci := 3) (q0 := 0) rfl rfl, kM_pre NT_warm hP hK hD hN⟩ rfl rfl hl.1 rfl (lv_room (Nat.le_of_ble_eq_true rfl)) dX5_withNumber_171 ⟨Nat.zero_le _, Nat.zero_le _⟩) hD hS hA (fun u H locs hw hP hD hS => ?_)
        obtain rfl := hw
        refine lv_goto (tgt := 181) hx hb dX5_withNumber_174 (by decide) ?_
        exact W.vret hx hb hr (fun t ht hW => ⟨⟨(fX5_lay ((fX5_a x) >>> ((fX5_bits (20 : Int32) (5 : Int32) x) &&& 31)) x), rfl, (by unfold fX5_withNumber; rw [if_neg c_35_0, if_neg c_35_1, if_neg c_35_2, if_neg c_35_3, if_neg c_35_4, if_pos c_35_5, if_neg c_146, if_pos c_163] <;> rfl), hpT ht hP⟩, hS.F ht⟩) hS.2.2 dX5_withNumber_181
    · refine lv_aload_n hx hb dX5_withNumber_149 rfl (lv_at hl 4 rfl) ?_
      refine lv_iload_n hx hb dX5_withNumber_150 rfl (lv_at hl 3 rfl) ?_
      refine lv_iload hx hb dX5_withNumber_151 (lv_at hl 0 rfl) ?_
      refine lv_iushr (v := ush (fX5_a x) (fX5_bits (20 : Int32) (5 : Int32) x)) hx hb dX5_withNumber_153 rfl ?_
      refine k_mv (w := wR bH bM bR bC jM jR jC) wR_ad (va_runV (As := [.int (ush (fX5_a x) (fX5_bits (20 : Int32) (5 : Int32) x))]) (rest := []) ⟨hx, hb, hml, hown, hB⟩ (mX5_lay l dC dI bH bM bR bC jM jR jC s.heap.size x (ush (fX5_a x) (fX5_bits (20 : Int32) (5 : Int32) x))) (cwV 1 hB (gV q_t3_86 q_t3_88 q_s_39 q_t1_4 wX5_lay) rfl rfl rfl hX5_lay ⟨Nat.le_of_ble_eq_true rfl, Nat.le_of_ble_eq_true rfl⟩) ⟨kM_blind NT_blind, va_recv hK hP (ci := 3) (q0 := 0) rfl rfl, kM_pre NT_warm hP hK hD hN⟩ rfl rfl hl.1 rfl (lv_room (Nat.le_of_ble_eq_true rfl)) dX5_withNumber_154 ⟨Nat.zero_le _, Nat.zero_le _⟩) hD hS hA (fun u H locs hw hP hD hS => ?_)
      obtain rfl := hw
      refine lv_goto (tgt := 181) hx hb dX5_withNumber_157 (by decide) ?_
      exact W.vret hx hb hr (fun t ht hW => ⟨⟨(fX5_lay (ush (fX5_a x) (fX5_bits (20 : Int32) (5 : Int32) x)) x), rfl, (by unfold fX5_withNumber; rw [if_neg c_35_0, if_neg c_35_1, if_neg c_35_2, if_neg c_35_3, if_neg c_35_4, if_pos c_35_5, if_pos c_146] <;> rfl), hpT ht hP⟩, hS.F ht⟩) hS.2.2 dX5_withNumber_181
  by_cases c_35_6 : (fX5_bits (12 : Int32) (3 : Int32) x) = (6 : Int32)
  · refine lv_tableIn (off := 147) (tgt := 182) hx hb dX5_withNumber_35 (by rw [c_35_6]; decide) (by rw [c_35_6]; decide) (by rw [c_35_6]; rfl) (by decide) ?_
    refine lv_aload_n hx hb dX5_withNumber_182 rfl (lv_at hl 4 rfl) ?_
    refine lv_iload_n hx hb dX5_withNumber_183 rfl (lv_at hl 3 rfl) ?_
    refine lv_iload_n hx hb dX5_withNumber_184 rfl (lv_at hl 2 rfl) ?_
    refine lv_ior hx hb dX5_withNumber_185 ?_
    refine k_mv (w := wR bH bM bR bC jM jR jC) wR_ad (va_runV (As := [.int ((fX5_a x) ||| (fX5_numberI x))]) (rest := []) ⟨hx, hb, hml, hown, hB⟩ (mX5_lay l dC dI bH bM bR bC jM jR jC s.heap.size x ((fX5_a x) ||| (fX5_numberI x))) (cwV 1 hB (gV q_t3_86 q_t3_88 q_s_39 q_t1_4 wX5_lay) rfl rfl rfl hX5_lay ⟨Nat.le_of_ble_eq_true rfl, Nat.le_of_ble_eq_true rfl⟩) ⟨kM_blind NT_blind, va_recv hK hP (ci := 3) (q0 := 0) rfl rfl, kM_pre NT_warm hP hK hD hN⟩ rfl rfl hl.1 rfl (lv_room (Nat.le_of_ble_eq_true rfl)) dX5_withNumber_186 ⟨Nat.zero_le _, Nat.zero_le _⟩) hD hS hA (fun u H locs hw hP hD hS => ?_)
    obtain rfl := hw
    exact W.vret hx hb hr (fun t ht hW => ⟨⟨(fX5_lay ((fX5_a x) ||| (fX5_numberI x)) x), rfl, (by unfold fX5_withNumber; rw [if_neg c_35_0, if_neg c_35_1, if_neg c_35_2, if_neg c_35_3, if_neg c_35_4, if_neg c_35_5, if_pos c_35_6] <;> rfl), hpT ht hP⟩, hS.F ht⟩) hS.2.2 dX5_withNumber_189
  refine lv_tableOut (tgt := 190) hx hb dX5_withNumber_35 (by have h0 := lv_neT (a := 0) c_35_0 (by decide); have h1 := lv_neT (a := 1) c_35_1 (by decide); have h2 := lv_neT (a := 2) c_35_2 (by decide); have h3 := lv_neT (a := 3) c_35_3 (by decide); have h4 := lv_neT (a := 4) c_35_4 (by decide); have h5 := lv_neT (a := 5) c_35_5 (by decide); have h6 := lv_neT (a := 6) c_35_6 (by decide); omega) (by decide) ?_
  refine lv_aload_n hx hb dX5_withNumber_190 rfl (lv_at hl 4 rfl) ?_
  refine lv_iload_n hx hb dX5_withNumber_191 rfl (lv_at hl 3 rfl) ?_
  refine lv_iload_n hx hb dX5_withNumber_192 rfl (lv_at hl 2 rfl) ?_
  refine lv_iand hx hb dX5_withNumber_193 ?_
  refine k_mv (w := wR bH bM bR bC jM jR jC) wR_ad (va_runV (As := [.int ((fX5_a x) &&& (fX5_numberI x))]) (rest := []) ⟨hx, hb, hml, hown, hB⟩ (mX5_lay l dC dI bH bM bR bC jM jR jC s.heap.size x ((fX5_a x) &&& (fX5_numberI x))) (cwV 1 hB (gV q_t3_86 q_t3_88 q_s_39 q_t1_4 wX5_lay) rfl rfl rfl hX5_lay ⟨Nat.le_of_ble_eq_true rfl, Nat.le_of_ble_eq_true rfl⟩) ⟨kM_blind NT_blind, va_recv hK hP (ci := 3) (q0 := 0) rfl rfl, kM_pre NT_warm hP hK hD hN⟩ rfl rfl hl.1 rfl (lv_room (Nat.le_of_ble_eq_true rfl)) dX5_withNumber_194 ⟨Nat.zero_le _, Nat.zero_le _⟩) hD hS hA (fun u H locs hw hP hD hS => ?_)
  obtain rfl := hw
  exact W.vret hx hb hr (fun t ht hW => ⟨⟨(fX5_lay ((fX5_a x) &&& (fX5_numberI x)) x), rfl, (by unfold fX5_withNumber; rw [if_neg c_35_0, if_neg c_35_1, if_neg c_35_2, if_neg c_35_3, if_neg c_35_4, if_neg c_35_5, if_neg c_35_6] <;> rfl), hpT ht hP⟩, hS.F ht⟩) hS.2.2 dX5_withNumber_197
