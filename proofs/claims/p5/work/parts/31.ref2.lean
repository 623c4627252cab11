def fX5_set (p0 : Int32) (p1 : Int32) (x : SR) : Bool × SR := if (bi (fX5_isAddress p0)) = 0 then
    (false, t_thrown x (0 : Int32))
  else
    (true, t_mem (t_thrown x (0 : Int32)) (upd (r_mem x) (p0 / (4 : Int32)).toNatClampNeg p1))
set_option maxHeartbeats 4000000 in
set_option maxRecDepth 100000 in
theorem mX5_set (l : Launch) (dC : Nat → ClassId) (dI : Nat → Nat → Nat) (bH bM bR bC jM jR jC : Nat) (sz : Nat) (x : SR) (p0 : Int32) (p1 : Int32) : Met l yX5_set wsX5_set ({ frames := 1, cells := 0, slots := 0, locals := 20 }) (va_Pc [.ref bH, .int p0, .int p1] (kM (dC, dI) [(jM, .int), (jR, .int), (jC, .int)] NT (wR bH bM bR bC jM jR jC x) sz)) (va_Qi (fun r u => r = bi (fX5_set p0 p1 x).1 ∧ u = (fX5_set p0 p1 x).2) (fun u t => va_P (dC, dI) vwCl (wR bH bM bR bC jM jR jC u) t.heap) (va_A (wR bH bM bR bC jM jR jC x) sz)) 0 0 (va_A (wR bH bM bR bC jM jR jC x) sz) := by
  refine Met.ofW (cc := cX5_set) (maxL := 3) (ret := (some .boolean)) (by decide) rfl ?_
  intro p e s m args below meth c s₁ B hml hv
  obtain ⟨rfl, hsz, hD0, hP, hK, hN⟩ := hv
  have hx := B.exec
  have hb := B.bytes
  have hr := B.returns
  have hB := fun (w : Cond) (h : w ∈ BIG) => atoms_spec (ws := wsX5_set) B.pre w (List.mem_cons_of_mem _ h)
  have hown : s.vm.findClass RX5 = some m.cls := findClass_of_methodNamed B.named
  have hlocks := B.notSynchronized
  subst hsz
  have hD := hD0.self (sz := s.heap.size)
  generalize hAe : va_A (wR bH bM bR bC jM jR jC x) s.heap.size = A at hD ⊢
  have hA : ∀ q : Nat, s.heap.size ≤ q → A q := fun q h => by rw [← hAe]; exact Or.inr h
  have hS : va_S A s.heap s.heap [] := va_S.rf
  have hl := lv_entry ([.ref bH, .int p0, .int p1]) (n := 3) (Nat.le_of_ble_eq_true rfl)
  rw [lg_entry_eq]
  generalize (lg_sl ([.ref bH, .int p0, .int p1]) ++ List.replicate (3 - (lg_sl ([.ref bH, .int p0, .int p1])).length) Slot.unset).toArray = ls at hl ⊢
  have hl : lv_has ls 3 [(0, .ref bH), (1, .int p0), (2, .int p1)] := hl
  refine lv_aload_n hx hb dX5_set_0 rfl (lv_at hl 0 rfl) ?_
  refine lv_iconst (v := 0) hx hb dX5_set_1 (by decide) ?_
  refine va_put (D := (dC, dI)) (ci := 3) (v := .int (0 : Int32)) (ty := .int) (C := RX5) (T := TX5) (N := 15) hx hb hB iX5 tyX5 tyX5_ok nmX5 hown hK hP hD hS 0 rfl rfl 0 (by decide) (hB _ q_t2_231) (fun _ h9 => h9) rfl (by decide +kernel) rfl rfl (Nat.le_of_ble_eq_true rfl) dX5_set_2 (fun H locs hP hD hS => ?_)
  have hP : va_P (dC, dI) vwCl (wR bH bM bR bC jM jR jC (t_thrown x (0 : Int32))) H := hP
  have hD : va_D A (wR bH bM bR bC jM jR jC (t_thrown x (0 : Int32))) := hD
  refine lv_iload_n hx hb dX5_set_5 rfl (lv_at hl 1 rfl) ?_
  refine k_ri (va_runS (As := [.int p0]) (rest := []) ⟨hx, hb, hml, hown, hB⟩ (mX5_isAddress l p0) (va_cwS 1 hB (gS q_t3_45 q_t3_46 q_t1_4 wX5_isAddress) rfl rfl rfl hX5_isAddress.2 ⟨Nat.le_of_ble_eq_true rfl, Nat.le_of_ble_eq_true rfl⟩) ⟨fun _ _ _ _ q => q, fun U _ _ => ⟨rfl, trivial⟩⟩ rfl rfl hl.1 rfl (lv_room (Nat.le_of_ble_eq_true rfl)) dX5_set_6 ⟨Nat.zero_le _, Nat.zero_le _⟩) ?_
  refine lv_if_ne (tgt := 14) hx hb dX5_set_9 (by decide) (fun c_9 => ?_) (fun c_9 => ?_)
  · refine lv_aload_n hx hb dX5_set_14 rfl (lv_at hl 0 rfl) ?_
    refine va_get (D := (dC, dI)) (ci := 3) (v := .ref bM) (C := RX5) (T := TX5) (N := 15) hx hb hB iX5 hown hK hP 0 rfl rfl 1 (by decide) (hB _ q_t2_232) (fun _ h9 => h9) rfl dX5_set_15 ?_
    refine lv_iload_n hx hb dX5_set_18 rfl (lv_at hl 1 rfl) ?_
    refine lv_iconst (v := 4) hx hb dX5_set_19 (by decide) ?_
    refine lv_idiv hx hb dX5_set_20 (by decide) ?_
    refine lv_iload_n hx hb dX5_set_21 rfl (lv_at hl 2 rfl) ?_
    refine va_iast hx hb hK hP hD hS 1 0 rfl rfl (in_addr c_9) dX5_set_22 (fun H locs hP hD hS => ?_)
    have hP : va_P (dC, dI) vwCl (wR bH bM bR bC jM jR jC (t_mem (t_thrown x (0 : Int32)) (upd (r_mem x) (p0 / (4 : Int32)).toNatClampNeg p1))) H := hP
    have hD : va_D A (wR bH bM bR bC jM jR jC (t_mem (t_thrown x (0 : Int32)) (upd (r_mem x) (p0 / (4 : Int32)).toNatClampNeg p1))) := hD
    refine lv_iconst (v := 1) hx hb dX5_set_23 (by decide) ?_
    exact W.zret (v := (1 : Int32)) hx hb hr rfl (fun t ht hW => ⟨⟨(1 : Int32), (t_mem (t_thrown x (0 : Int32)) (upd (r_mem x) (p0 / (4 : Int32)).toNatClampNeg p1)), rfl, ⟨(by unfold fX5_set; rw [if_neg c_9] <;> rfl), (by unfold fX5_set; rw [if_neg c_9] <;> rfl)⟩, hpT ht hP⟩, hS.F ht⟩) hS.2.2 dX5_set_24
  · refine lv_iconst (v := 0) hx hb dX5_set_12 (by decide) ?_
    exact W.zret (v := (0 : Int32)) hx hb hr rfl (fun t ht hW => ⟨⟨(0 : Int32), (t_thrown x (0 : Int32)), rfl, ⟨(by unfold fX5_set; rw [if_pos c_9] <;> rfl), (by unfold fX5_set; rw [if_pos c_9] <;> rfl)⟩, hpT ht hP⟩, hS.F ht⟩) hS.2.2 dX5_set_13
def fX5_put (p0 : Int32) (p1 : Int32) (x : SR) : Bool × SR := if p0 < (1 : Int32) then
    (false, t_thrown x (0 : Int32))
  else
    if (32 : Int32) < p0 then
      (false, t_thrown x (0 : Int32))
    else
      if p0 = (32 : Int32) then
        if (p1 &&& (3 : Int32)) = 0 then
          if (32 : Int32) ≤ p0 then
            (true, t_stopped (t_pc (t_thrown x (0 : Int32)) p1) false)
          else
            (true, t_reg (t_thrown x (0 : Int32)) (upd (r_reg x) p0.toNatClampNeg p1))
        else
          (false, t_thrown x (0 : Int32))
      else
        if (32 : Int32) ≤ p0 then
          (true, t_stopped (t_pc (t_thrown x (0 : Int32)) p1) false)
        else
          (true, t_reg (t_thrown x (0 : Int32)) (upd (r_reg x) p0.toNatClampNeg p1))
set_option maxHeartbeats 4000000 in
set_option maxRecDepth 100000 in
theorem mX5_put (l : Launch) (dC : Nat → ClassId) (dI : Nat → Nat → Nat) (bH bM bR bC jM jR jC : Nat) (sz : Nat) (x : SR) (p0 : Int32) (p1 : Int32) : Met l yX5_put wsX5_put ({ frames := 0, cells := 0, slots := 0, locals := 0 }) (va_Pc [.ref bH, .int p0, .int p1] (kM (dC, dI) [(jM, .int), (jR, .int), (jC, .int)] NT (wR bH bM bR bC jM jR jC x) sz)) (va_Qi (fun r u => r = bi (fX5_put p0 p1 x).1 ∧ u = (fX5_put p0 p1 x).2) (fun u t => va_P (dC, dI) vwCl (wR bH bM bR bC jM jR jC u) t.heap) (va_A (wR bH bM bR bC jM jR jC x) sz)) 0 0 (va_A (wR bH bM bR bC jM jR jC x) sz) := by
  refine Met.ofW (cc := cX5_put) (maxL := 3) (ret := (some .boolean)) (by decide) rfl ?_
  intro p e s m args below meth c s₁ B hml hv
  obtain ⟨rfl, hsz, hD0, hP, hK, hN⟩ := hv
  have hx := B.exec
  have hb := B.bytes
  have hr := B.returns
  have hB := fun (w : Cond) (h : w ∈ BIG) => atoms_spec (ws := wsX5_put) B.pre w (List.mem_cons_of_mem _ h)
  have hown : s.vm.findClass RX5 = some m.cls := findClass_of_methodNamed B.named
  have hlocks := B.notSynchronized
  subst hsz
  have hD := hD0.self (sz := s.heap.size)
  generalize hAe : va_A (wR bH bM bR bC jM jR jC x) s.heap.size = A at hD ⊢
  have hA : ∀ q : Nat, s.heap.size ≤ q → A q := fun q h => by rw [← hAe]; exact Or.inr h
  have hS : va_S A s.heap s.heap [] := va_S.rf
  have hl := lv_entry ([.ref bH, .int p0, .int p1]) (n := 3) (Nat.le_of_ble_eq_true rfl)
  rw [lg_entry_eq]
  generalize (lg_sl ([.ref bH, .int p0, .int p1]) ++ List.replicate (3 - (lg_sl ([.ref bH, .int p0, .int p1])).length) Slot.unset).toArray = ls at hl ⊢
  have hl : lv_has ls 3 [(0, .ref bH), (1, .int p0), (2, .int p1)] := hl
  refine lv_aload_n hx hb dX5_put_0 rfl (lv_at hl 0 rfl) ?_
  refine lv_iconst (v := 0) hx hb dX5_put_1 (by decide) ?_
  refine va_put (D := (dC, dI)) (ci := 3) (v := .int (0 : Int32)) (ty := .int) (C := RX5) (T := TX5) (N := 15) hx hb hB iX5 tyX5 tyX5_ok nmX5 hown hK hP hD hS 0 rfl rfl 0 (by decide) (hB _ q_t2_231) (fun _ h9 => h9) rfl (by decide +kernel) rfl rfl (Nat.le_of_ble_eq_true rfl) dX5_put_2 (fun H locs hP hD hS => ?_)
  have hP : va_P (dC, dI) vwCl (wR bH bM bR bC jM jR jC (t_thrown x (0 : Int32))) H := hP
  have hD : va_D A (wR bH bM bR bC jM jR jC (t_thrown x (0 : Int32))) := hD
  refine lv_iload_n hx hb dX5_put_5 rfl (lv_at hl 1 rfl) ?_
  refine lv_iconst (v := 1) hx hb dX5_put_6 (by decide) ?_
  refine lv_icmp_lt (tgt := 28) hx hb dX5_put_7 (by decide) (fun c_7 => ?_) (fun c_7 => ?_)
  · refine lv_iconst (v := 0) hx hb dX5_put_28 (by decide) ?_
    exact W.zret (v := (0 : Int32)) hx hb hr rfl (fun t ht hW => ⟨⟨(0 : Int32), (t_thrown x (0 : Int32)), rfl, ⟨(by unfold fX5_put; rw [if_pos c_7] <;> rfl), (by unfold fX5_put; rw [if_pos c_7] <;> rfl)⟩, hpT ht hP⟩, hS.F ht⟩) hS.2.2 dX5_put_29
  · refine lv_iload_n hx hb dX5_put_10 rfl (lv_at hl 1 rfl) ?_
    refine lv_bipush (v := 32) hx hb dX5_put_11 (by decide) ?_
    refine lv_icmp_gt (tgt := 28) hx hb dX5_put_13 (by decide) (fun c_13 => ?_) (fun c_13 => ?_)
    · refine lv_iconst (v := 0) hx hb dX5_put_28 (by decide) ?_
      exact W.zret (v := (0 : Int32)) hx hb hr rfl (fun t ht hW => ⟨⟨(0 : Int32), (t_thrown x (0 : Int32)), rfl, ⟨(by unfold fX5_put; rw [if_neg c_7, if_pos c_13] <;> rfl), (by unfold fX5_put; rw [if_neg c_7, if_pos c_13] <;> rfl)⟩, hpT ht hP⟩, hS.F ht⟩) hS.2.2 dX5_put_29
    · refine lv_iload_n hx hb dX5_put_16 rfl (lv_at hl 1 rfl) ?_
      refine lv_bipush (v := 32) hx hb dX5_put_17 (by decide) ?_
      refine lv_icmp_ne (tgt := 30) hx hb dX5_put_19 (by decide) (fun c_19 => ?_) (fun c_19 => ?_)
      · refine lv_iload_n hx hb dX5_put_30 rfl (lv_at hl 1 rfl) ?_
        refine lv_bipush (v := 32) hx hb dX5_put_31 (by decide) ?_
        refine lv_icmp_ge (tgt := 45) hx hb dX5_put_33 (by decide) (fun c_33 => ?_) (fun c_33 => ?_)
        · refine lv_aload_n hx hb dX5_put_45 rfl (lv_at hl 0 rfl) ?_
          refine lv_iload_n hx hb dX5_put_46 rfl (lv_at hl 2 rfl) ?_
          refine va_put (D := (dC, dI)) (ci := 3) (v := .int p1) (ty := .int) (C := RX5) (T := TX5) (N := 15) hx hb hB iX5 tyX5 tyX5_ok nmX5 hown hK hP hD hS 0 rfl rfl 3 (by decide) (hB _ q_t2_234) (fun _ h9 => h9) rfl (by decide +kernel) rfl rfl (Nat.le_of_ble_eq_true rfl) dX5_put_47 (fun H locs hP hD hS => ?_)
          have hP : va_P (dC, dI) vwCl (wR bH bM bR bC jM jR jC (t_pc (t_thrown x (0 : Int32)) p1)) H := hP
          have hD : va_D A (wR bH bM bR bC jM jR jC (t_pc (t_thrown x (0 : Int32)) p1)) := hD
          refine lv_aload_n hx hb dX5_put_50 rfl (lv_at hl 0 rfl) ?_
          refine lv_iconst (v := 0) hx hb dX5_put_51 (by decide) ?_
          refine va_put (D := (dC, dI)) (ci := 3) (v := .int 0) (ty := .boolean) (C := RX5) (T := TX5) (N := 15) hx hb hB iX5 tyX5 tyX5_ok nmX5 hown hK hP hD hS 0 rfl rfl 6 (by decide) (hB _ q_t2_237) (fun _ h9 => h9) rfl (by decide +kernel) rfl rfl (Nat.le_of_ble_eq_true rfl) dX5_put_52 (fun H locs hP hD hS => ?_)
          have hP : va_P (dC, dI) vwCl (wR bH bM bR bC jM jR jC (t_stopped (t_pc (t_thrown x (0 : Int32)) p1) false)) H := hP
          have hD : va_D A (wR bH bM bR bC jM jR jC (t_stopped (t_pc (t_thrown x (0 : Int32)) p1) false)) := hD
          refine lv_iconst (v := 1) hx hb dX5_put_55 (by decide) ?_
          exact W.zret (v := (1 : Int32)) hx hb hr rfl (fun t ht hW => ⟨⟨(1 : Int32), (t_stopped (t_pc (t_thrown x (0 : Int32)) p1) false), rfl, ⟨(by unfold fX5_put; rw [if_neg c_7, if_neg c_13, if_neg c_19, if_pos c_33] <;> rfl), (by unfold fX5_put; rw [if_neg c_7, if_neg c_13, if_neg c_19, if_pos c_33] <;> rfl)⟩, hpT ht hP⟩, hS.F ht⟩) hS.2.2 dX5_put_56
        · refine lv_aload_n hx hb dX5_put_36 rfl (lv_at hl 0 rfl) ?_
          refine va_get (D := (dC, dI)) (ci := 3) (v := .ref bR) (C := RX5) (T := TX5) (N := 15) hx hb hB iX5 hown hK hP 0 rfl rfl 2 (by decide) (hB _ q_t2_233) (fun _ h9 => h9) rfl dX5_put_37 ?_
          refine lv_iload_n hx hb dX5_put_40 rfl (lv_at hl 1 rfl) ?_
          refine lv_iload_n hx hb dX5_put_41 rfl (lv_at hl 2 rfl) ?_
          refine va_iast hx hb hK hP hD hS 2 1 rfl rfl (in_reg c_7 c_33) dX5_put_42 (fun H locs hP hD hS => ?_)
          have hP : va_P (dC, dI) vwCl (wR bH bM bR bC jM jR jC (t_reg (t_thrown x (0 : Int32)) (upd (r_reg x) p0.toNatClampNeg p1))) H := hP
          have hD : va_D A (wR bH bM bR bC jM jR jC (t_reg (t_thrown x (0 : Int32)) (upd (r_reg x) p0.toNatClampNeg p1))) := hD
          refine lv_iconst (v := 1) hx hb dX5_put_43 (by decide) ?_
          exact W.zret (v := (1 : Int32)) hx hb hr rfl (fun t ht hW => ⟨⟨(1 : Int32), (t_reg (t_thrown x (0 : Int32)) (upd (r_reg x) p0.toNatClampNeg p1)), rfl, ⟨(by unfold fX5_put; rw [if_neg c_7, if_neg c_13, if_neg c_19, if_neg c_33] <;> rfl), (by unfold fX5_put; rw [if_neg c_7, if_neg c_13, if_neg c_19, if_neg c_33] <;> rfl)⟩, hpT ht hP⟩, hS.F ht⟩) hS.2.2 dX5_put_44
      · refine lv_iload_n hx hb dX5_put_22 rfl (lv_at hl 2 rfl) ?_
        refine lv_iconst (v := 3) hx hb dX5_put_23 (by decide) ?_
        refine lv_iand hx hb dX5_put_24 ?_
        refine lv_if_eq (tgt := 30) hx hb dX5_put_25 (by decide) (fun c_25 => ?_) (fun c_25 => ?_)
        · refine lv_iload_n hx hb dX5_put_30 rfl (lv_at hl 1 rfl) ?_
          refine lv_bipush (v := 32) hx hb dX5_put_31 (by decide) ?_
          refine lv_icmp_ge (tgt := 45) hx hb dX5_put_33 (by decide) (fun c_33 => ?_) (fun c_33 => ?_)
          · refine lv_aload_n hx hb dX5_put_45 rfl (lv_at hl 0 rfl) ?_
            refine lv_iload_n hx hb dX5_put_46 rfl (lv_at hl 2 rfl) ?_
            refine va_put (D := (dC, dI)) (ci := 3) (v := .int p1) (ty := .int) (C := RX5) (T := TX5) (N := 15) hx hb hB iX5 tyX5 tyX5_ok nmX5 hown hK hP hD hS 0 rfl rfl 3 (by decide) (hB _ q_t2_234) (fun _ h9 => h9) rfl (by decide +kernel) rfl rfl (Nat.le_of_ble_eq_true rfl) dX5_put_47 (fun H locs hP hD hS => ?_)
            have hP : va_P (dC, dI) vwCl (wR bH bM bR bC jM jR jC (t_pc (t_thrown x (0 : Int32)) p1)) H := hP
            have hD : va_D A (wR bH bM bR bC jM jR jC (t_pc (t_thrown x (0 : Int32)) p1)) := hD
            refine lv_aload_n hx hb dX5_put_50 rfl (lv_at hl 0 rfl) ?_
            refine lv_iconst (v := 0) hx hb dX5_put_51 (by decide) ?_
            refine va_put (D := (dC, dI)) (ci := 3) (v := .int 0) (ty := .boolean) (C := RX5) (T := TX5) (N := 15) hx hb hB iX5 tyX5 tyX5_ok nmX5 hown hK hP hD hS 0 rfl rfl 6 (by decide) (hB _ q_t2_237) (fun _ h9 => h9) rfl (by decide +kernel) rfl rfl (Nat.le_of_ble_eq_true rfl) dX5_put_52 (fun H locs hP hD hS => ?_)
            have hP : va_P (dC, dI) vwCl (wR bH bM bR bC jM jR jC (t_stopped (t_pc (t_thrown x (0 : Int32)) p1) false)) H := hP
            have hD : va_D A (wR bH bM bR bC jM jR jC (t_stopped (t_pc (t_thrown x (0 : Int32)) p1) false)) := hD
            refine lv_iconst (v := 1) hx hb dX5_put_55 (by decide) ?_
            exact W.zret (v := (1 : Int32)) hx hb hr rfl (fun t ht hW => ⟨⟨(1 : Int32), (t_stopped (t_pc (t_thrown x (0 : Int32)) p1) false), rfl, ⟨(by unfold fX5_put; rw [if_neg c_7, if_neg c_13, if_pos c_19, if_pos c_25, if_pos c_33] <;> rfl), (by unfold fX5_put; rw [if_neg c_7, if_neg c_13, if_pos c_19, if_pos c_25, if_pos c_33] <;> rfl)⟩, hpT ht hP⟩, hS.F ht⟩) hS.2.2 dX5_put_56
          · refine lv_aload_n hx hb dX5_put_36 rfl (lv_at hl 0 rfl) ?_
            refine va_get (D := (dC, dI)) (ci := 3) (v := .ref bR) (C := RX5) (T := TX5) (N := 15) hx hb hB iX5 hown hK hP 0 rfl rfl 2 (by decide) (hB _ q_t2_233) (fun _ h9 => h9) rfl dX5_put_37 ?_
            refine lv_iload_n hx hb dX5_put_40 rfl (lv_at hl 1 rfl) ?_
            refine lv_iload_n hx hb dX5_put_41 rfl (lv_at hl 2 rfl) ?_
            refine va_iast hx hb hK hP hD hS 2 1 rfl rfl (in_reg c_7 c_33) dX5_put_42 (fun H locs hP hD hS => ?_)
            have hP : va_P (dC, dI) vwCl (wR bH bM bR bC jM jR jC (t_reg (t_thrown x (0 : Int32)) (upd (r_reg x) p0.toNatClampNeg p1))) H := hP
            have hD : va_D A (wR bH bM bR bC jM jR jC (t_reg (t_thrown x (0 : Int32)) (upd (r_reg x) p0.toNatClampNeg p1))) := hD
            refine lv_iconst (v := 1) hx hb dX5_put_43 (by decide) ?_
            exact W.zret (v := (1 : Int32)) hx hb hr rfl (fun t ht hW => ⟨⟨(1 : Int32), (t_reg (t_thrown x (0 : Int32)) (upd (r_reg x) p0.toNatClampNeg p1)), rfl, ⟨(by unfold fX5_put; rw [if_neg c_7, if_neg c_13, if_pos c_19, if_pos c_25, if_neg c_33] <;> rfl), (by unfold fX5_put; rw [if_neg c_7, if_neg c_13, if_pos c_19, if_pos c_25, if_neg c_33] <;> rfl)⟩, hpT ht hP⟩, hS.F ht⟩) hS.2.2 dX5_put_44
        · refine lv_iconst (v := 0) hx hb dX5_put_28 (by decide) ?_
          exact W.zret (v := (0 : Int32)) hx hb hr rfl (fun t ht hW => ⟨⟨(0 : Int32), (t_thrown x (0 : Int32)), rfl, ⟨(by unfold fX5_put; rw [if_neg c_7, if_neg c_13, if_pos c_19, if_neg c_25] <;> rfl), (by unfold fX5_put; rw [if_neg c_7, if_neg c_13, if_pos c_19, if_neg c_25] <;> rfl)⟩, hpT ht hP⟩, hS.F ht⟩) hS.2.2 dX5_put_29
def fX5_a (x : SR) : Int32 := (r_reg x) (fX5_bits (15 : Int32) (5 : Int32) x).toNatClampNeg
set_option maxHeartbeats 4000000 in
set_option maxRecDepth 100000 in
theorem mX5_a (l : Launch) (dC : Nat → ClassId) (dI : Nat → Nat → Nat) (bH bM bR bC jM jR jC : Nat) (x : SR) : Met l yX5_a wsX5_a ({ frames := 1, cells := 0, slots := 0, locals := 22 }) (va_Pc [.ref bH] (kP (dC, dI) [(jM, .int), (jR, .int), (jC, .int)] NT (wR bH bM bR bC jM jR jC x))) (QcRead ((fX5_a x))) 0 0 (fun _ => False) := by
  refine Met.ofW (cc := cX5_a) (maxL := 1) (ret := (some .int)) (by decide) rfl ?_
  intro p e s m args below meth c s₁ B hml hv
  obtain ⟨rfl, hP, hK, hN⟩ := hv
  have hx := B.exec
  have hb := B.bytes
  have hr := B.returns
  have hB := fun (w : Cond) (h : w ∈ BIG) => atoms_spec (ws := wsX5_a) B.pre w (List.mem_cons_of_mem _ h)
  have hown : s.vm.findClass RX5 = some m.cls := findClass_of_methodNamed B.named
  have hlocks := B.notSynchronized
  have hl := lv_entry ([.ref bH]) (n := 1) (Nat.le_of_ble_eq_true rfl)
  rw [lg_entry_eq]
  generalize (lg_sl ([.ref bH]) ++ List.replicate (1 - (lg_sl ([.ref bH])).length) Slot.unset).toArray = ls at hl ⊢
  have hl : lv_has ls 1 [(0, .ref bH)] := hl
  refine lv_aload_n hx hb dX5_a_0 rfl (lv_at hl 0 rfl) ?_
  refine va_get (D := (dC, dI)) (ci := 3) (v := .ref bR) (C := RX5) (T := TX5) (N := 15) hx hb hB iX5 hown hK hP 0 rfl rfl 2 (by decide) (hB _ q_t2_233) (fun _ h9 => h9) rfl dX5_a_1 ?_
  refine lv_aload_n hx hb dX5_a_4 rfl (lv_at hl 0 rfl) ?_
  refine lv_bipush (v := 15) hx hb dX5_a_5 (by decide) ?_
  refine lv_iconst (v := 5) hx hb dX5_a_7 (by decide) ?_
  refine k_ri (va_runV (As := [.int (15 : Int32), .int (5 : Int32)]) (rest := [.ref bR]) ⟨hx, hb, hml, hown, hB⟩ (mX5_bits l dC dI bH bM bR bC jM jR jC x (15 : Int32) (5 : Int32)) (cwV 2 hB (gV q_t3_78 q_t3_80 q_s_37 q_t1_4 wX5_bits) rfl rfl rfl hX5_bits ⟨Nat.le_of_ble_eq_true rfl, Nat.le_of_ble_eq_true rfl⟩) ⟨kP_blind NT_blind, va_recv hK hP (ci := 3) (q0 := 0) rfl rfl, kP_pre NT_warm hP hK hN⟩ rfl rfl hl.1 rfl (lv_room (Nat.le_of_ble_eq_true rfl)) dX5_a_8 ⟨Nat.zero_le _, Nat.zero_le _⟩) ?_
  refine va_iald hx hb hK hP 2 1 rfl rfl (in_bits5 _ _) dX5_a_11 ?_
  exact W.iret (v := (r_reg x) (fX5_bits (15 : Int32) (5 : Int32) x).toNatClampNeg) hx hb hr (fun t ht hW => ⟨congrArg (fun z => Outcome.returned (some (Value.int z))) rfl, ht⟩) (fun q h => nomatch h) dX5_a_12
def fX5_b (x : SR) : Int32 := (r_reg x) (fX5_bits (20 : Int32) (5 : Int32) x).toNatClampNeg
set_option maxHeartbeats 4000000 in
set_option maxRecDepth 100000 in
theorem mX5_b (l : Launch) (dC : Nat → ClassId) (dI : Nat → Nat → Nat) (bH bM bR bC jM jR jC : Nat) (x : SR) : Met l yX5_b wsX5_b ({ frames := 1, cells := 0, slots := 0, locals := 22 }) (va_Pc [.ref bH] (kP (dC, dI) [(jM, .int), (jR, .int), (jC, .int)] NT (wR bH bM bR bC jM jR jC x))) (QcRead ((fX5_b x))) 0 0 (fun _ => False) := by
  refine Met.ofW (cc := cX5_b) (maxL := 1) (ret := (some .int)) (by decide) rfl ?_
  intro p e s m args below meth c s₁ B hml hv
  obtain ⟨rfl, hP, hK, hN⟩ := hv
  have hx := B.exec
  have hb := B.bytes
  have hr := B.returns
  have hB := fun (w : Cond) (h : w ∈ BIG) => atoms_spec (ws := wsX5_b) B.pre w (List.mem_cons_of_mem _ h)
  have hown : s.vm.findClass RX5 = some m.cls := findClass_of_methodNamed B.named
  have hlocks := B.notSynchronized
  have hl := lv_entry ([.ref bH]) (n := 1) (Nat.le_of_ble_eq_true rfl)
  rw [lg_entry_eq]
  generalize (lg_sl ([.ref bH]) ++ List.replicate (1 - (lg_sl ([.ref bH])).length) Slot.unset).toArray = ls at hl ⊢
  have hl : lv_has ls 1 [(0, .ref bH)] := hl
  refine lv_aload_n hx hb dX5_b_0 rfl (lv_at hl 0 rfl) ?_
  refine va_get (D := (dC, dI)) (ci := 3) (v := .ref bR) (C := RX5) (T := TX5) (N := 15) hx hb hB iX5 hown hK hP 0 rfl rfl 2 (by decide) (hB _ q_t2_233) (fun _ h9 => h9) rfl dX5_b_1 ?_
  refine lv_aload_n hx hb dX5_b_4 rfl (lv_at hl 0 rfl) ?_
  refine lv_bipush (v := 20) hx hb dX5_b_5 (by decide) ?_
  refine lv_iconst (v := 5) hx hb dX5_b_7 (by decide) ?_
  refine k_ri (va_runV (As := [.int (20 : Int32), .int (5 : Int32)]) (rest := [.ref bR]) ⟨hx, hb, hml, hown, hB⟩ (mX5_bits l dC dI bH bM bR bC jM jR jC x (20 : Int32) (5 : Int32)) (cwV 2 hB (gV q_t3_78 q_t3_80 q_s_37 q_t1_4 wX5_bits) rfl rfl rfl hX5_bits ⟨Nat.le_of_ble_eq_true rfl, Nat.le_of_ble_eq_true rfl⟩) ⟨kP_blind NT_blind, va_recv hK hP (ci := 3) (q0 := 0) rfl rfl, kP_pre NT_warm hP hK hN⟩ rfl rfl hl.1 rfl (lv_room (Nat.le_of_ble_eq_true rfl)) dX5_b_8 ⟨Nat.zero_le _, Nat.zero_le _⟩) ?_
  refine va_iald hx hb hK hP 2 1 rfl rfl (in_bits5 _ _) dX5_b_11 ?_
  exact W.iret (v := (r_reg x) (fX5_bits (20 : Int32) (5 : Int32) x).toNatClampNeg) hx hb hr (fun t ht hW => ⟨congrArg (fun z => Outcome.returned (some (Value.int z))) rfl, ht⟩) (fun q h => nomatch h) dX5_b_12
def fX5_lay (p0 : Int32) (x : SR) : SR := if (fX5_bits (7 : Int32) (5 : Int32) x) ≤ 0 then
    x
  else
    t_reg x (upd (r_reg x) (fX5_bits (7 : Int32) (5 : Int32) x).toNatClampNeg p0)
set_option maxHeartbeats 4000000 in
set_option maxRecDepth 100000 in
theorem mX5_lay (l : Launch) (dC : Nat → ClassId) (dI : Nat → Nat → Nat) (bH bM bR bC jM jR jC : Nat) (sz : Nat) (x : SR) (p0 : Int32) : Met l yX5_lay wsX5_lay ({ frames := 1, cells := 0, slots := 0, locals := 22 }) (va_Pc [.ref bH, .int p0] (kM (dC, dI) [(jM, .int), (jR, .int), (jC, .int)] NT (wR bH bM bR bC jM jR jC x) sz)) (va_Qv (fun u => u = fX5_lay p0 x) (fun u t => va_P (dC, dI) vwCl (wR bH bM bR bC jM jR jC u) t.heap) (va_A (wR bH bM bR bC jM jR jC x) sz)) 0 0 (va_A (wR bH bM bR bC jM jR jC x) sz) := by
  refine Met.ofW (cc := cX5_lay) (maxL := 3) (ret := none) (by decide) rfl ?_
  intro p e s m args below meth c s₁ B hml hv
  obtain ⟨rfl, hsz, hD0, hP, hK, hN⟩ := hv
  have hx := B.exec
  have hb := B.bytes
  have hr := B.returns
  have hB := fun (w : Cond) (h : w ∈ BIG) => atoms_spec (ws := wsX5_lay) B.pre w (List.mem_cons_of_mem _ h)
  have hown : s.vm.findClass RX5 = some m.cls := findClass_of_methodNamed B.named
  have hlocks := B.notSynchronized
  subst hsz
  have hD := hD0.self (sz := s.heap.size)
  generalize hAe : va_A (wR bH bM bR bC jM jR jC x) s.heap.size = A at hD ⊢
  have hA : ∀ q : Nat, s.heap.size ≤ q → A q := fun q h => by rw [← hAe]; exact Or.inr h
  have hS : va_S A s.heap s.heap [] := va_S.rf
  have hl := lv_entry ([.ref bH, .int p0]) (n := 3) (Nat.le_of_ble_eq_true rfl)
  rw [lg_entry_eq]
  generalize (lg_sl ([.ref bH, .int p0]) ++ List.replicate (3 - (lg_sl ([.ref bH, .int p0])).length) Slot.unset).toArray = ls at hl ⊢
  have hl : lv_has ls 3 [(0, .ref bH), (1, .int p0)] := hl
  refine lv_aload_n hx hb dX5_lay_0 rfl (lv_at hl 0 rfl) ?_
  refine lv_bipush (v := 7) hx hb dX5_lay_1 (by decide) ?_
  refine lv_iconst (v := 5) hx hb dX5_lay_3 (by decide) ?_
  refine k_ri (va_runV (As := [.int (7 : Int32), .int (5 : Int32)]) (rest := []) ⟨hx, hb, hml, hown, hB⟩ (mX5_bits l dC dI bH bM bR bC jM jR jC x (7 : Int32) (5 : Int32)) (cwV 2 hB (gV q_t3_78 q_t3_80 q_s_37 q_t1_4 wX5_bits) rfl rfl rfl hX5_bits ⟨Nat.le_of_ble_eq_true rfl, Nat.le_of_ble_eq_true rfl⟩) ⟨kP_blind NT_blind, va_recv hK hP (ci := 3) (q0 := 0) rfl rfl, kP_pre NT_warm hP hK hN⟩ rfl rfl hl.1 rfl (lv_room (Nat.le_of_ble_eq_true rfl)) dX5_lay_4 ⟨Nat.zero_le _, Nat.zero_le _⟩) ?_
  refine lv_istore_n (lv' := [(2, .int (fX5_bits (7 : Int32) (5 : Int32) x)), (0, .ref bH), (1, .int p0)]) hx hb dX5_lay_7 rfl hl (by decide) rfl (fun ls hl => ?_)
  refine lv_iload_n hx hb dX5_lay_8 rfl (lv_at hl 0 rfl) ?_
  refine lv_if_le (tgt := 19) hx hb dX5_lay_9 (by decide) (fun c_9 => ?_) (fun c_9 => ?_)
  · exact W.vret hx hb hr (fun t ht hW => ⟨⟨x, rfl, (by unfold fX5_lay; rw [if_pos c_9] <;> rfl), hpT ht hP⟩, hS.F ht⟩) hS.2.2 dX5_lay_19
  · refine lv_aload_n hx hb dX5_lay_12 rfl (lv_at hl 1 rfl) ?_
    refine va_get (D := (dC, dI)) (ci := 3) (v := .ref bR) (C := RX5) (T := TX5) (N := 15) hx hb hB iX5 hown hK hP 0 rfl rfl 2 (by decide) (hB _ q_t2_233) (fun _ h9 => h9) rfl dX5_lay_13 ?_
    refine lv_iload_n hx hb dX5_lay_16 rfl (lv_at hl 0 rfl) ?_
    refine lv_iload_n hx hb dX5_lay_17 rfl (lv_at hl 2 rfl) ?_
    refine va_iast hx hb hK hP hD hS 2 1 rfl rfl (in_bits5 _ _) dX5_lay_18 (fun H locs hP hD hS => ?_)
    have hP : va_P (dC, dI) vwCl (wR bH bM bR bC jM jR jC (t_reg x (upd (r_reg x) (fX5_bits (7 : Int32) (5 : Int32) x).toNatClampNeg p0))) H := hP
    have hD : va_D A (wR bH bM bR bC jM jR jC (t_reg x (upd (r_reg x) (fX5_bits (7 : Int32) (5 : Int32) x).toNatClampNeg p0))) := hD
    exact W.vret hx hb hr (fun t ht hW => ⟨⟨(t_reg x (upd (r_reg x) (fX5_bits (7 : Int32) (5 : Int32) x).toNatClampNeg p0)), rfl, (by unfold fX5_lay; rw [if_neg c_9] <;> rfl), hpT ht hP⟩, hS.F ht⟩) hS.2.2 dX5_lay_19
def fX5_jump (p0 : Int32) (x : SR) : SR := if (bi (fX5_goes p0 x).1) = 0 then
    (fX5_goes p0 x).2
  else
    fX5_lay ((r_pc x) + (4 : Int32)) ((fX5_goes p0 x).2)
set_option maxHeartbeats 4000000 in
set_option maxRecDepth 100000 in
theorem mX5_jump (l : Launch) (dC : Nat → ClassId) (dI : Nat → Nat → Nat) (bH bM bR bC jM jR jC : Nat) (sz : Nat) (x : SR) (p0 : Int32) : Met l yX5_jump wsX5_jump ({ frames := 2, cells := 0, slots := 0, locals := 44 }) (va_Pc [.ref bH, .int p0] (kM (dC, dI) [(jM, .int), (jR, .int), (jC, .int)] NT (wR bH bM bR bC jM jR jC x) sz)) (va_Qv (fun u => u = fX5_jump p0 x) (fun u t => va_P (dC, dI) vwCl (wR bH bM bR bC jM jR jC u) t.heap) (va_A (wR bH bM bR bC jM jR jC x) sz)) 0 0 (va_A (wR bH bM bR bC jM jR jC x) sz) := by
  refine Met.ofW (cc := cX5_jump) (maxL := 3) (ret := none) (by decide) rfl ?_
  intro p e s m args below meth c s₁ B hml hv
  obtain ⟨rfl, hsz, hD0, hP, hK, hN⟩ := hv
  have hx := B.exec
  have hb := B.bytes
  have hr := B.returns
  have hB := fun (w : Cond) (h : w ∈ BIG) => atoms_spec (ws := wsX5_jump) B.pre w (List.mem_cons_of_mem _ h)
  have hown : s.vm.findClass RX5 = some m.cls := findClass_of_methodNamed B.named
  have hlocks := B.notSynchronized
  subst hsz
  have hD := hD0.self (sz := s.heap.size)
  generalize hAe : va_A (wR bH bM bR bC jM jR jC x) s.heap.size = A at hD ⊢
  have hA : ∀ q : Nat, s.heap.size ≤ q → A q := fun q h => by rw [← hAe]; exact Or.inr h
  have hS : va_S A s.heap s.heap [] := va_S.rf
  have hl := lv_entry ([.ref bH, .int p0]) (n := 3) (Nat.le_of_ble_eq_true rfl)
  rw [lg_entry_eq]
  generalize (lg_sl ([.ref bH, .int p0]) ++ List.replicate (3 - (lg_sl ([.ref bH, .int p0])).length) Slot.unset).toArray = ls at hl ⊢
  have hl : lv_has ls 3 [(0, .ref bH), (1, .int p0)] := hl
  refine lv_aload_n hx hb dX5_jump_0 rfl (lv_at hl 0 rfl) ?_
  refine va_get (D := (dC, dI)) (ci := 3) (v := .int (r_pc x)) (C := RX5) (T := TX5) (N := 15) hx hb hB iX5 hown hK hP 0 rfl rfl 3 (by decide) (hB _ q_t2_234) (fun _ h9 => h9) rfl dX5_jump_1 ?_
  refine lv_iconst (v := 4) hx hb dX5_jump_4 (by decide) ?_
  refine lv_iadd hx hb dX5_jump_5 ?_
  refine lv_istore_n (lv' := [(2, .int ((r_pc x) + (4 : Int32))), (0, .ref bH), (1, .int p0)]) hx hb dX5_jump_6 rfl hl (by decide) rfl (fun ls hl => ?_)
  refine lv_aload_n hx hb dX5_jump_7 rfl (lv_at hl 1 rfl) ?_
  refine lv_iload_n hx hb dX5_jump_8 rfl (lv_at hl 2 rfl) ?_
  refine k_mi (w := wR bH bM bR bC jM jR jC) wR_ad (va_runV (As := [.int p0]) (rest := []) ⟨hx, hb, hml, hown, hB⟩ (mX5_goes l dC dI bH bM bR bC jM jR jC s.heap.size x p0) (cwV 1 hB (gV q_t3_98 q_t3_100 q_s_42 q_t1_4 wX5_goes) rfl rfl rfl hX5_goes ⟨Nat.le_of_ble_eq_true rfl, Nat.le_of_ble_eq_true rfl⟩) ⟨kM_blind NT_blind, va_recv hK hP (ci := 3) (q0 := 0) rfl rfl, kM_pre NT_warm hP hK hD hN⟩ rfl rfl hl.1 rfl (lv_room (Nat.le_of_ble_eq_true rfl)) dX5_jump_9 ⟨Nat.zero_le _, Nat.zero_le _⟩) hD hS hA (fun r u H locs hw hP hD hS => ?_)
  obtain ⟨rfl, rfl⟩ := hw
  refine lv_if_eq (tgt := 20) hx hb dX5_jump_12 (by decide) (fun c_12 => ?_) (fun c_12 => ?_)
  · exact W.vret hx hb hr (fun t ht hW => ⟨⟨((fX5_goes p0 x).2), rfl, (by unfold fX5_jump; rw [if_pos c_12] <;> rfl), hpT ht hP⟩, hS.F ht⟩) hS.2.2 dX5_jump_20
  · refine lv_aload_n hx hb dX5_jump_15 rfl (lv_at hl 1 rfl) ?_
    refine lv_iload_n hx hb dX5_jump_16 rfl (lv_at hl 0 rfl) ?_
    refine k_mv (w := wR bH bM bR bC jM jR jC) wR_ad (va_runV (As := [.int ((r_pc x) + (4 : Int32))]) (rest := []) ⟨hx, hb, hml, hown, hB⟩ (mX5_lay l dC dI bH bM bR bC jM jR jC H.size ((fX5_goes p0 x).2) ((r_pc x) + (4 : Int32))) (cwV 1 hB (gV q_t3_86 q_t3_88 q_s_39 q_t1_4 wX5_lay) rfl rfl rfl hX5_lay ⟨Nat.le_of_ble_eq_true rfl, Nat.le_of_ble_eq_true rfl⟩) ⟨kM_blind NT_blind, va_recv hK hP (ci := 3) (q0 := 0) rfl rfl, kM_pre NT_warm hP hK hD hN⟩ rfl rfl hl.1 rfl (lv_room (Nat.le_of_ble_eq_true rfl)) dX5_jump_17 ⟨Nat.zero_le _, Nat.zero_le _⟩) hD hS hA (fun u H locs hw hP hD hS => ?_)
    obtain rfl := hw
    exact W.vret hx hb hr (fun t ht hW => ⟨⟨(fX5_lay ((r_pc x) + (4 : Int32)) ((fX5_goes p0 x).2)), rfl, (by unfold fX5_jump; rw [if_neg c_12] <;> rfl), hpT ht hP⟩, hS.F ht⟩) hS.2.2 dX5_jump_20
def fX5_branch (x : SR) : SR := if (fX5_bits (12 : Int32) (3 : Int32) x) = (0 : Int32) then
    if (fX5_a x) = (fX5_b x) then
      (fX5_goes ((r_pc x) + (fX5_numberB x)) x).2
    else
      x
  else
    if (fX5_bits (12 : Int32) (3 : Int32) x) = (1 : Int32) then
      if (fX5_a x) = (fX5_b x) then
        x
      else
        (fX5_goes ((r_pc x) + (fX5_numberB x)) x).2
    else
      if (fX5_bits (12 : Int32) (3 : Int32) x) = (2 : Int32) then
        fX5_none x
      else
        if (fX5_bits (12 : Int32) (3 : Int32) x) = (3 : Int32) then
          fX5_none x
        else
          if (fX5_bits (12 : Int32) (3 : Int32) x) = (4 : Int32) then
            if (fX5_b x) ≤ (fX5_a x) then
              x
            else
              (fX5_goes ((r_pc x) + (fX5_numberB x)) x).2
          else
            if (fX5_bits (12 : Int32) (3 : Int32) x) = (5 : Int32) then
              if (fX5_a x) < (fX5_b x) then
                x
              else
                (fX5_goes ((r_pc x) + (fX5_numberB x)) x).2
            else
              if (fX5_bits (12 : Int32) (3 : Int32) x) = (6 : Int32) then
                if (bi (fX5_isBelow (fX5_a x) (fX5_b x))) = 0 then
                  x
                else
                  (fX5_goes ((r_pc x) + (fX5_numberB x)) x).2
              else
                if (fX5_bits (12 : Int32) (3 : Int32) x) = (7 : Int32) then
                  if (bi (fX5_isBelow (fX5_a x) (fX5_b x))) = 0 then
                    (fX5_goes ((r_pc x) + (fX5_numberB x)) x).2
                  else
                    x
                else
                  fX5_none x
set_option maxHeartbeats 4000000 in
set_option maxRecDepth 100000 in
theorem mX5_branch (l : Launch) (dC : Nat → ClassId) (dI : Nat → Nat → Nat) (bH bM bR bC jM jR jC : Nat) (sz : Nat) (x : SR) : Met l yX5_branch wsX5_branch ({ frames := 2, cells := 0, slots := 0, locals := 43 }) (va_Pc [.ref bH] (kM (dC, dI) [(jM, .int), (jR, .int), (jC, .int)] NT (wR bH bM bR bC jM jR jC x) sz)) (va_Qv (fun u => u = fX5_branch x) (fun u t => va_P (dC, dI) vwCl (wR bH bM bR bC jM jR jC u) t.heap) (va_A (wR bH bM bR bC jM jR jC x) sz)) 0 0 (va_A (wR bH bM bR bC jM jR jC x) sz) := by
  refine Met.ofW (cc := cX5_branch) (maxL := 4) (ret := none) (by decide) rfl ?_
  intro p e s m args below meth c s₁ B hml hv
  obtain ⟨rfl, hsz, hD0, hP, hK, hN⟩ := hv
  have hx := B.exec
  have hb := B.bytes
  have hr := B.returns
  have hB := fun (w : Cond) (h : w ∈ BIG) => atoms_spec (ws := wsX5_branch) B.pre w (List.mem_cons_of_mem _ h)
  have hown : s.vm.findClass RX5 = some m.cls := findClass_of_methodNamed B.named
  have hlocks := B.notSynchronized
  subst hsz
  have hD := hD0.self (sz := s.heap.size)
  generalize hAe : va_A (wR bH bM bR bC jM jR jC x) s.heap.size = A at hD ⊢
  have hA : ∀ q : Nat, s.heap.size ≤ q → A q := fun q h => by rw [← hAe]; exact Or.inr h
  have hS : va_S A s.heap s.heap [] := va_S.rf
  have hl := lv_entry ([.ref bH]) (n := 4) (Nat.le_of_ble_eq_true rfl)
  rw [lg_entry_eq]
  generalize (lg_sl ([.ref bH]) ++ List.replicate (4 - (lg_sl ([.ref bH])).length) Slot.unset).toArray = ls at hl ⊢
  have hl : lv_has ls 4 [(0, .ref bH)] := hl
  refine lv_aload_n hx hb dX5_branch_0 rfl (lv_at hl 0 rfl) ?_
  refine k_ri (va_runV (As := []) (rest := []) ⟨hx, hb, hml, hown, hB⟩ (mX5_a l dC dI bH bM bR bC jM jR jC x) (cwV 0 hB (gV q_t3_106 q_t3_108 q_s_44 q_t1_4 wX5_a) rfl rfl rfl hX5_a ⟨Nat.le_of_ble_eq_true rfl, Nat.le_of_ble_eq_true rfl⟩) ⟨kP_blind NT_blind, va_recv hK hP (ci := 3) (q0 := 0) rfl rfl, kP_pre NT_warm hP hK hN⟩ rfl rfl hl.1 rfl (lv_room (Nat.le_of_ble_eq_true rfl)) dX5_branch_1 ⟨Nat.zero_le _, Nat.zero_le _⟩) ?_
  refine lv_istore_n (lv' := [(1, .int (fX5_a x)), (0, .ref bH)]) hx hb dX5_branch_4 rfl hl (by decide) rfl (fun ls hl => ?_)
  refine lv_aload_n hx hb dX5_branch_5 rfl (lv_at hl 1 rfl) ?_
  refine k_ri (va_runV (As := []) (rest := []) ⟨hx, hb, hml, hown, hB⟩ (mX5_b l dC dI bH bM bR bC jM jR jC x) (cwV 0 hB (gV q_t3_118 q_t3_120 q_s_47 q_t1_4 wX5_b) rfl rfl rfl hX5_b ⟨Nat.le_of_ble_eq_true rfl, Nat.le_of_ble_eq_true rfl⟩) ⟨kP_blind NT_blind, va_recv hK hP (ci := 3) (q0 := 0) rfl rfl, kP_pre NT_warm hP hK hN⟩ rfl rfl hl.1 rfl (lv_room (Nat.le_of_ble_eq_true rfl)) dX5_branch_6 ⟨Nat.zero_le _, Nat.zero_le _⟩) ?_
  refine lv_istore_n (lv' := [(2, .int (fX5_b x)), (1, .int (fX5_a x)), (0, .ref bH)]) hx hb dX5_branch_9 rfl hl (by decide) rfl (fun ls hl => ?_)
  refine lv_aload_n hx hb dX5_branch_10 rfl (lv_at hl 2 rfl) ?_
  refine lv_bipush (v := 12) hx hb dX5_branch_11 (by decide) ?_
  refine lv_iconst (v := 3) hx hb dX5_branch_13 (by decide) ?_
  refine k_ri (va_runV (As := [.int (12 : Int32), .int (3 : Int32)]) (rest := []) ⟨hx, hb, hml, hown, hB⟩ (mX5_bits l dC dI bH bM bR bC jM jR jC x (12 : Int32) (3 : Int32)) (cwV 2 hB (gV q_t3_78 q_t3_80 q_s_37 q_t1_4 wX5_bits) rfl rfl rfl hX5_bits ⟨Nat.le_of_ble_eq_true rfl, Nat.le_of_ble_eq_true rfl⟩) ⟨kP_blind NT_blind, va_recv hK hP (ci := 3) (q0 := 0) rfl rfl, kP_pre NT_warm hP hK hN⟩ rfl rfl hl.1 rfl (lv_room (Nat.le_of_ble_eq_true rfl)) dX5_branch_14 ⟨Nat.zero_le _, Nat.zero_le _⟩) ?_
  by_cases c_17_0 : (fX5_bits (12 : Int32) (3 : Int32) x) = (0 : Int32)
  · refine lv_tableIn (off := 47) (tgt := 64) hx hb dX5_branch_17 (by rw [c_17_0]; decide) (by rw [c_17_0]; decide) (by rw [c_17_0]; rfl) (by decide) ?_
    refine lv_iload_n hx hb dX5_branch_64 rfl (lv_at hl 1 rfl) ?_
    refine lv_iload_n hx hb dX5_branch_65 rfl (lv_at hl 0 rfl) ?_
    refine lv_icmp_ne (tgt := 73) hx hb dX5_branch_66 (by decide) (fun c_66 => ?_) (fun c_66 => ?_)
    · refine lv_iconst (v := 0) hx hb dX5_branch_73 (by decide) ?_
      refine lv_istore_n (lv' := [(3, .int (0 : Int32)), (2, .int (fX5_b x)), (1, .int (fX5_a x)), (0, .ref bH)]) hx hb dX5_branch_74 rfl hl (by decide) rfl (fun ls hl => ?_)
      refine lv_goto (tgt := 151) hx hb dX5_branch_75 (by decide) ?_
      refine lv_iload_n hx hb dX5_branch_151 rfl (lv_at hl 0 rfl) ?_
      refine lv_if_eq (tgt := 169) hx hb dX5_branch_152 (by decide) (fun _ => ?_) (fun h9 => absurd h9 (by decide))
      exact W.vret hx hb hr (fun t ht hW => ⟨⟨x, rfl, (by unfold fX5_branch; rw [if_pos c_17_0, if_neg c_66] <;> rfl), hpT ht hP⟩, hS.F ht⟩) hS.2.2 dX5_branch_169
    · refine lv_iconst (v := 1) hx hb dX5_branch_69 (by decide) ?_
      refine lv_goto (tgt := 74) hx hb dX5_branch_70 (by decide) ?_
      refine lv_istore_n (lv' := [(3, .int (1 : Int32)), (2, .int (fX5_b x)), (1, .int (fX5_a x)), (0, .ref bH)]) hx hb dX5_branch_74 rfl hl (by decide) rfl (fun ls hl => ?_)
      refine lv_goto (tgt := 151) hx hb dX5_branch_75 (by decide) ?_
      refine lv_iload_n hx hb dX5_branch_151 rfl (lv_at hl 0 rfl) ?_
      refine lv_if_eq (tgt := 169) hx hb dX5_branch_152 (by decide) (fun h9 => absurd h9 (by decide)) (fun _ => ?_)
      refine lv_aload_n hx hb dX5_branch_155 rfl (lv_at hl 3 rfl) ?_
      refine lv_aload_n hx hb dX5_branch_156 rfl (lv_at hl 3 rfl) ?_
      refine va_get (D := (dC, dI)) (ci := 3) (v := .int (r_pc x)) (C := RX5) (T := TX5) (N := 15) hx hb hB iX5 hown hK hP 0 rfl rfl 3 (by decide) (hB _ q_t2_234) (fun _ h9 => h9) rfl dX5_branch_157 ?_
      refine lv_aload_n hx hb dX5_branch_160 rfl (lv_at hl 3 rfl) ?_
      refine k_ri (va_runV (As := []) (rest := [.int (r_pc x), .ref bH]) ⟨hx, hb, hml, hown, hB⟩ (mX5_numberB l dC dI bH bM bR bC jM jR jC x) (cwV 0 hB (gV q_t3_126 q_t3_128 q_s_48 q_t1_4 wX5_numberB) rfl rfl rfl hX5_numberB ⟨Nat.le_of_ble_eq_true rfl, Nat.le_of_ble_eq_true rfl⟩) ⟨kP_blind NT_blind, va_recv hK hP (ci := 3) (q0 := 0) rfl rfl, kP_pre NT_warm hP hK hN⟩ rfl rfl hl.1 rfl (lv_room (Nat.le_of_ble_eq_true rfl)) dX5_branch_161 ⟨Nat.zero_le _, Nat.zero_le _⟩) ?_
      refine lv_iadd hx hb dX5_branch_164 ?_
      refine k_mi (w := wR bH bM bR bC jM jR jC) wR_ad (va_runV (As := [.int ((r_pc x) + (fX5_numberB x))]) (rest := []) ⟨hx, hb, hml, hown, hB⟩ (mX5_goes l dC dI bH bM bR bC jM jR jC s.heap.size x ((r_pc x) + (fX5_numberB x))) (cwV 1 hB (gV q_t3_98 q_t3_100 q_s_42 q_t1_4 wX5_goes) rfl rfl rfl hX5_goes ⟨Nat.le_of_ble_eq_true rfl, Nat.le_of_ble_eq_true rfl⟩) ⟨kM_blind NT_blind, va_recv hK hP (ci := 3) (q0 := 0) rfl rfl, kM_pre NT_warm hP hK hD hN⟩ rfl rfl hl.1 rfl (lv_room (Nat.le_of_ble_eq_true rfl)) dX5_branch_165 ⟨Nat.zero_le _, Nat.zero_le _⟩) hD hS hA (fun r u H locs hw hP hD hS => ?_)
      obtain ⟨rfl, rfl⟩ := hw
      refine lv_pop hx hb dX5_branch_168 rfl ?_
      exact W.vret hx hb hr (fun t ht hW => ⟨⟨((fX5_goes ((r_pc x) + (fX5_numberB x)) x).2), rfl, (by unfold fX5_branch; rw [if_pos c_17_0, if_pos c_66] <;> rfl), hpT ht hP⟩, hS.F ht⟩) hS.2.2 dX5_branch_169
  by_cases c_17_1 : (fX5_bits (12 : Int32) (3 : Int32) x) = (1 : Int32)
  · refine lv_tableIn (off := 61) (tgt := 78) hx hb dX5_branch_17 (by rw [c_17_1]; decide) (by rw [c_17_1]; decide) (by rw [c_17_1]; rfl) (by decide) ?_
    refine lv_iload_n hx hb dX5_branch_78 rfl (lv_at hl 1 rfl) ?_
    refine lv_iload_n hx hb dX5_branch_79 rfl (lv_at hl 0 rfl) ?_
    refine lv_icmp_eq (tgt := 87) hx hb dX5_branch_80 (by decide) (fun c_80 => ?_) (fun c_80 => ?_)
    · refine lv_iconst (v := 0) hx hb dX5_branch_87 (by decide) ?_
      refine lv_istore_n (lv' := [(3, .int (0 : Int32)), (2, .int (fX5_b x)), (1, .int (fX5_a x)), (0, .ref bH)]) hx hb dX5_branch_88 rfl hl (by decide) rfl (fun ls hl => ?_)
      refine lv_goto (tgt := 151) hx hb dX5_branch_89 (by decide) ?_
      refine lv_iload_n hx hb dX5_branch_151 rfl (lv_at hl 0 rfl) ?_
      refine lv_if_eq (tgt := 169) hx hb dX5_branch_152 (by decide) (fun _ => ?_) (fun h9 => absurd h9 (by decide))
      exact W.vret hx hb hr (fun t ht hW => ⟨⟨x, rfl, (by unfold fX5_branch; rw [if_neg c_17_0, if_pos c_17_1, if_pos c_80] <;> rfl), hpT ht hP⟩, hS.F ht⟩) hS.2.2 dX5_branch_169
    · refine lv_iconst (v := 1) hx hb dX5_branch_83 (by decide) ?_
      refine lv_goto (tgt := 88) hx hb dX5_branch_84 (by decide) ?_
      refine lv_istore_n (lv' := [(3, .int (1 : Int32)), (2, .int (fX5_b x)), (1, .int (fX5_a x)), (0, .ref bH)]) hx hb dX5_branch_88 rfl hl (by decide) rfl (fun ls hl => ?_)
      refine lv_goto (tgt := 151) hx hb dX5_branch_89 (by decide) ?_
      refine lv_iload_n hx hb dX5_branch_151 rfl (lv_at hl 0 rfl) ?_
      refine lv_if_eq (tgt := 169) hx hb dX5_branch_152 (by decide) (fun h9 => absurd h9 (by decide)) (fun _ => ?_)
      refine lv_aload_n hx hb dX5_branch_155 rfl (lv_at hl 3 rfl) ?_
      refine lv_aload_n hx hb dX5_branch_156 rfl (lv_at hl 3 rfl) ?_
      refine va_get (D := (dC, dI)) (ci := 3) (v := .int (r_pc x)) (C := RX5) (T := TX5) (N := 15) hx hb hB iX5 hown hK hP 0 rfl rfl 3 (by decide) (hB _ q_t2_234) (fun _ h9 => h9) rfl dX5_branch_157 ?_
      refine lv_aload_n hx hb dX5_branch_160 rfl (lv_at hl 3 rfl) ?_
      refine k_ri (va_runV (As := []) (rest := [.int (r_pc x), .ref bH]) ⟨hx, hb, hml, hown, hB⟩ (mX5_numberB l dC dI bH bM bR bC jM jR jC x) (cwV 0 hB (gV q_t3_126 q_t3_128 q_s_48 q_t1_4 wX5_numberB) rfl rfl rfl hX5_numberB ⟨Nat.le_of_ble_eq_true rfl, Nat.le_of_ble_eq_true rfl⟩) ⟨kP_blind NT_blind, va_recv hK hP (ci := 3) (q0 := 0) rfl rfl, kP_pre NT_warm hP hK hN⟩ rfl rfl hl.1 rfl (lv_room (Nat.le_of_ble_eq_true rfl)) dX5_branch_161 ⟨Nat.zero_le _, Nat.zero_le _⟩) ?_
      refine lv_iadd hx hb dX5_branch_164 ?_
      refine k_mi (w := wR bH bM bR bC jM jR jC) wR_ad (va_runV (As := [.int ((r_pc x) + (fX5_numberB x))]) (rest := []) ⟨hx, hb, hml, hown, hB⟩ (mX5_goes l dC dI bH bM bR bC jM jR jC s.heap.size x ((r_pc x) + (fX5_numberB x))) (cwV 1 hB (gV q_t3_98 q_t3_100 q_s_42 q_t1_4 wX5_goes) rfl rfl rfl hX5_goes ⟨Nat.le_of_ble_eq_true rfl, Nat.le_of_ble_eq_true rfl⟩) ⟨kM_blind NT_blind, va_recv hK hP (ci := 3) (q0 := 0) rfl rfl, kM_pre NT_warm hP hK hD hN⟩ rfl rfl hl.1 rfl (lv_room (Nat.le_of_ble_eq_true rfl)) dX5_branch_165 ⟨Nat.zero_le _, Nat.zero_le _⟩) hD hS hA (fun r u H locs hw hP hD hS => ?_)
      obtain ⟨rfl, rfl⟩ := hw
      refine lv_pop hx hb dX5_branch_168 rfl ?_
      exact W.vret hx hb hr (fun t ht hW => ⟨⟨((fX5_goes ((r_pc x) + (fX5_numberB x)) x).2), rfl, (by unfold fX5_branch; rw [if_neg c_17_0, if_pos c_17_1, if_neg c_80] <;> rfl), hpT ht hP⟩, hS.F ht⟩) hS.2.2 dX5_branch_169
  by_cases c_17_2 : (fX5_bits (12 : Int32) (3 : Int32) x) = (2 : Int32)
  · refine lv_tableIn (off := 129) (tgt := 146) hx hb dX5_branch_17 (by rw [c_17_2]; decide) (by rw [c_17_2]; decide) (by rw [c_17_2]; rfl) (by decide) ?_
    refine lv_aload_n hx hb dX5_branch_146 rfl (lv_at hl 2 rfl) ?_
    refine k_mv (w := wR bH bM bR bC jM jR jC) wR_ad (va_runV (As := []) (rest := []) ⟨hx, hb, hml, hown, hB⟩ (mX5_none l dC dI bH bM bR bC jM jR jC s.heap.size x) (cwV 0 hB (gV q_t3_102 q_t3_104 q_s_43 q_t1_4 wX5_none) rfl rfl rfl hX5_none ⟨Nat.le_of_ble_eq_true rfl, Nat.le_of_ble_eq_true rfl⟩) ⟨kM_blind NT_blind, va_recv hK hP (ci := 3) (q0 := 0) rfl rfl, kM_pre NT_warm hP hK hD hN⟩ rfl rfl hl.1 rfl (lv_room (Nat.le_of_ble_eq_true rfl)) dX5_branch_147 ⟨Nat.zero_le _, Nat.zero_le _⟩) hD hS hA (fun u H locs hw hP hD hS => ?_)
    obtain rfl := hw
    exact W.vret hx hb hr (fun t ht hW => ⟨⟨(fX5_none x), rfl, (by unfold fX5_branch; rw [if_neg c_17_0, if_neg c_17_1, if_pos c_17_2] <;> rfl), hpT ht hP⟩, hS.F ht⟩) hS.2.2 dX5_branch_150
  by_cases c_17_3 : (fX5_bits (12 : Int32) (3 : Int32) x) = (3 : Int32)
  · refine lv_tableIn (off := 129) (tgt := 146) hx hb dX5_branch_17 (by rw [c_17_3]; decide) (by rw [c_17_3]; decide) (by rw [c_17_3]; rfl) (by decide) ?_
    refine lv_aload_n hx hb dX5_branch_146 rfl (lv_at hl 2 rfl) ?_
    refine k_mv (w := wR bH bM bR bC jM jR jC) wR_ad (va_runV (As := []) (rest := []) ⟨hx, hb, hml, hown, hB⟩ (mX5_none l dC dI bH bM bR bC jM jR jC s.heap.size x) (cwV 0 hB (gV q_t3_102 q_t3_104 q_s_43 q_t1_4 wX5_none) rfl rfl rfl hX5_none ⟨Nat.le_of_ble_eq_true rfl, Nat.le_of_ble_eq_true rfl⟩) ⟨kM_blind NT_blind, va_recv hK hP (ci := 3) (q0 := 0) rfl rfl, kM_pre NT_warm hP hK hD hN⟩ rfl rfl hl.1 rfl (lv_room (Nat.le_of_ble_eq_true rfl)) dX5_branch_147 ⟨Nat.zero_le _, Nat.zero_le _⟩) hD hS hA (fun u H locs hw hP hD hS => ?_)
    obtain rfl := hw
    exact W.vret hx hb hr (fun t ht hW => ⟨⟨(fX5_none x), rfl, (by unfold fX5_branch; rw [if_neg c_17_0, if_neg c_17_1, if_neg c_17_2, if_pos c_17_3] <;> rfl), hpT ht hP⟩, hS.F ht⟩) hS.2.2 dX5_branch_150
  by_cases c_17_4 : (fX5_bits (12 : Int32) (3 : Int32) x) = (4 : Int32)
  · refine lv_tableIn (off := 75) (tgt := 92) hx hb dX5_branch_17 (by rw [c_17_4]; decide) (by rw [c_17_4]; decide) (by rw [c_17_4]; rfl) (by decide) ?_
    refine lv_iload_n hx hb dX5_branch_92 rfl (lv_at hl 1 rfl) ?_
    refine lv_iload_n hx hb dX5_branch_93 rfl (lv_at hl 0 rfl) ?_
    refine lv_icmp_ge (tgt := 101) hx hb dX5_branch_94 (by decide) (fun c_94 => ?_) (fun c_94 => ?_)
    · refine lv_iconst (v := 0) hx hb dX5_branch_101 (by decide) ?_
      refine lv_istore_n (lv' := [(3, .int (0 : Int32)), (2, .int (fX5_b x)), (1, .int (fX5_a x)), (0, .ref bH)]) hx hb dX5_branch_102 rfl hl (by decide) rfl (fun ls hl => ?_)
      refine lv_goto (tgt := 151) hx hb dX5_branch_103 (by decide) ?_
      refine lv_iload_n hx hb dX5_branch_151 rfl (lv_at hl 0 rfl) ?_
      refine lv_if_eq (tgt := 169) hx hb dX5_branch_152 (by decide) (fun _ => ?_) (fun h9 => absurd h9 (by decide))
      exact W.vret hx hb hr (fun t ht hW => ⟨⟨x, rfl, (by unfold fX5_branch; rw [if_neg c_17_0, if_neg c_17_1, if_neg c_17_2, if_neg c_17_3, if_pos c_17_4, if_pos c_94] <;> rfl), hpT ht hP⟩, hS.F ht⟩) hS.2.2 dX5_branch_169
    · refine lv_iconst (v := 1) hx hb dX5_branch_97 (by decide) ?_
      refine lv_goto (tgt := 102) hx hb dX5_branch_98 (by decide) ?_
      refine lv_istore_n (lv' := [(3, .int (1 : Int32)), (2, .int (fX5_b x)), (1, .int (fX5_a x)), (0, .ref bH)]) hx hb dX5_branch_102 rfl hl (by decide) rfl (fun ls hl => ?_)
      refine lv_goto (tgt := 151) hx hb dX5_branch_103 (by decide) ?_
      refine lv_iload_n hx hb dX5_branch_151 rfl (lv_at hl 0 rfl) ?_
      refine lv_if_eq (tgt := 169) hx hb dX5_branch_152 (by decide) (fun h9 => absurd h9 (by decide)) (fun _ => ?_)
      refine lv_aload_n hx hb dX5_branch_155 rfl (lv_at hl 3 rfl) ?_
      refine lv_aload_n hx hb dX5_branch_156 rfl (lv_at hl 3 rfl) ?_
      refine va_get (D := (dC, dI)) (ci := 3) (v := .int (r_pc x)) (C := RX5) (T := TX5) (N := 15) hx hb hB iX5 hown hK hP 0 rfl rfl 3 (by decide) (hB _ q_t2_234) (fun _ h9 => h9) rfl dX5_branch_157 ?_
      refine lv_aload_n hx hb dX5_branch_160 rfl (lv_at hl 3 rfl) ?_
      refine k_ri (va_runV (As := []) (rest := [.int (r_pc x), .ref bH]) ⟨hx, hb, hml, hown, hB⟩ (mX5_numberB l dC dI bH bM bR bC jM jR jC x) (cwV 0 hB (gV q_t3_126 q_t3_128 q_s_48 q_t1_4 wX5_numberB) rfl rfl rfl hX5_numberB ⟨Nat.le_of_ble_eq_true rfl, Nat.le_of_ble_eq_true rfl⟩) ⟨kP_blind NT_blind, va_recv hK hP (ci := 3) (q0 := 0) rfl rfl, kP_pre NT_warm hP hK hN⟩ rfl rfl hl.1 rfl (lv_room (Nat.le_of_ble_eq_true rfl)) dX5_branch_161 ⟨Nat.zero_le _, Nat.zero_le _⟩) ?_
      refine lv_iadd hx hb dX5_branch_164 ?_
      refine k_mi (w := wR bH bM bR bC jM jR jC) wR_ad (va_runV (As := [.int ((r_pc x) + (fX5_numberB x))]) (rest := []) ⟨hx, hb, hml, hown, hB⟩ (mX5_goes l dC dI bH bM bR bC jM jR jC s.heap.size x ((r_pc x) + (fX5_numberB x))) (cwV 1 hB (gV q_t3_98 q_t3_100 q_s_42 q_t1_4 wX5_goes) rfl rfl rfl hX5_goes ⟨Nat.le_of_ble_eq_true rfl, Nat.le_of_ble_eq_true rfl⟩) ⟨kM_blind NT_blind, va_recv hK hP (ci := 3) (q0 := 0) rfl rfl, kM_pre NT_warm hP hK hD hN⟩ rfl rfl hl.1 rfl (lv_room (Nat.le_of_ble_eq_true rfl)) dX5_branch_165 ⟨Nat.zero_le _, Nat.zero_le _⟩) hD hS hA (fun r u H locs hw hP hD hS => ?_)
      obtain ⟨rfl, rfl⟩ := hw
      refine lv_pop hx hb dX5_branch_168 rfl ?_
      exact W.vret hx hb hr (fun t ht hW => ⟨⟨((fX5_goes ((r_pc x) + (fX5_numberB x)) x).2), rfl, (by unfold fX5_branch; rw [if_neg c_17_0, if_neg c_17_1, if_neg c_17_2, if_neg c_17_3, if_pos c_17_4, if_neg c_94] <;> rfl), hpT ht hP⟩, hS.F ht⟩) hS.2.2 dX5_branch_169
  by_cases c_17_5 : (fX5_bits (12 : Int32) (3 : Int32) x) = (5 : Int32)
  · refine lv_tableIn (off := 89) (tgt := 106) hx hb dX5_branch_17 (by rw [c_17_5]; decide) (by rw [c_17_5]; decide) (by rw [c_17_5]; rfl) (by decide) ?_
    refine lv_iload_n hx hb dX5_branch_106 rfl (lv_at hl 1 rfl) ?_
    refine lv_iload_n hx hb dX5_branch_107 rfl (lv_at hl 0 rfl) ?_
    refine lv_icmp_lt (tgt := 115) hx hb dX5_branch_108 (by decide) (fun c_108 => ?_) (fun c_108 => ?_)
    · refine lv_iconst (v := 0) hx hb dX5_branch_115 (by decide) ?_
      refine lv_istore_n (lv' := [(3, .int (0 : Int32)), (2, .int (fX5_b x)), (1, .int (fX5_a x)), (0, .ref bH)]) hx hb dX5_branch_116 rfl hl (by decide) rfl (fun ls hl => ?_)
      refine lv_goto (tgt := 151) hx hb dX5_branch_117 (by decide) ?_
      refine lv_iload_n hx hb dX5_branch_151 rfl (lv_at hl 0 rfl) ?_
      refine lv_if_eq (tgt := 169) hx hb dX5_branch_152 (by decide) (fun _ => ?_) (fun h9 => absurd h9 (by decide))
      exact W.vret hx hb hr (fun t ht hW => ⟨⟨x, rfl, (by unfold fX5_branch; rw [if_neg c_17_0, if_neg c_17_1, if_neg c_17_2, if_neg c_17_3, if_neg c_17_4, if_pos c_17_5, if_pos c_108] <;> rfl), hpT ht hP⟩, hS.F ht⟩) hS.2.2 dX5_branch_169
    · refine lv_iconst (v := 1) hx hb dX5_branch_111 (by decide) ?_
      refine lv_goto (tgt := 116) hx hb dX5_branch_112 (by decide) ?_
      refine lv_istore_n (lv' := [(3, .int (1 : Int32)), (2, .int (fX5_b x)), (1, .int (fX5_a x)), (0, .ref bH)]) hx hb dX5_branch_116 rfl hl (by decide) rfl (fun ls hl => ?_)
      refine lv_goto (tgt := 151) hx hb dX5_branch_117 (by decide) ?_
      refine lv_iload_n hx hb dX5_branch_151 rfl (lv_at hl 0 rfl) ?_
      refine lv_if_eq (tgt := 169) hx hb dX5_branch_152 (by decide) (fun h9 => absurd h9 (by decide)) (fun _ => ?_)
      refine lv_aload_n hx hb dX5_branch_155 rfl (lv_at hl 3 rfl) ?_
      refine lv_aload_n hx hb dX5_branch_156 rfl (lv_at hl 3 rfl) ?_
      refine va_get (D := (dC, dI)) (ci := 3) (v := .int (r_pc x)) (C := RX5) (T := TX5) (N := 15) hx hb hB iX5 hown hK hP 0 rfl rfl 3 (by decide) (hB _ q_t2_234) (fun _ h9 => h9) rfl dX5_branch_157 ?_
      refine lv_aload_n hx hb dX5_branch_160 rfl (lv_at hl 3 rfl) ?_
      refine k_ri (va_runV (As := []) (rest := [.int (r_pc x), .ref bH]) ⟨hx, hb, hml, hown, hB⟩ (mX5_numberB l dC dI bH bM bR bC jM jR jC x) (cwV 0 hB (gV q_t3_126 q_t3_128 q_s_48 q_t1_4 wX5_numberB) rfl rfl rfl hX5_numberB ⟨Nat.le_of_ble_eq_true rfl, Nat.le_of_ble_eq_true rfl⟩) ⟨kP_blind NT_blind, va_recv hK hP (ci := 3) (q0 := 0) rfl rfl, kP_pre NT_warm hP hK hN⟩ rfl rfl hl.1 rfl (lv_room (Nat.le_of_ble_eq_true rfl)) dX5_branch_161 ⟨Nat.zero_le _, Nat.zero_le _⟩) ?_
      refine lv_iadd hx hb dX5_branch_164 ?_
      refine k_mi (w := wR bH bM bR bC jM jR jC) wR_ad (va_runV (As := [.int ((r_pc x) + (fX5_numberB x))]) (rest := []) ⟨hx, hb, hml, hown, hB⟩ (mX5_goes l dC dI bH bM bR bC jM jR jC s.heap.size x ((r_pc x) + (fX5_numberB x))) (cwV 1 hB (gV q_t3_98 q_t3_100 q_s_42 q_t1_4 wX5_goes) rfl rfl rfl hX5_goes ⟨Nat.le_of_ble_eq_true rfl, Nat.le_of_ble_eq_true rfl⟩) ⟨kM_blind NT_blind, va_recv hK hP (ci := 3) (q0 := 0) rfl rfl, kM_pre NT_warm hP hK hD hN⟩ rfl rfl hl.1 rfl (lv_room (Nat.le_of_ble_eq_true rfl)) dX5_branch_165 ⟨Nat.zero_le _, Nat.zero_le _⟩) hD hS hA (fun r u H locs hw hP hD hS => ?_)
      obtain ⟨rfl, rfl⟩ := hw
      refine lv_pop hx hb dX5_branch_168 rfl ?_
      exact W.vret hx hb hr (fun t ht hW => ⟨⟨((fX5_goes ((r_pc x) + (fX5_numberB x)) x).2), rfl, (by unfold fX5_branch; rw [if_neg c_17_0, if_neg c_17_1, if_neg c_17_2, if_neg c_17_3, if_neg c_17_4, if_pos c_17_5, if_neg c_108] <;> rfl), hpT ht hP⟩, hS.F ht⟩) hS.2.2 dX5_branch_169
  by_cases c_17_6 : (fX5_bits (12 : Int32) (3 : Int32) x) = (6 : Int32)
  · refine lv_tableIn (off := 103) (tgt := 120) hx hb dX5_branch_17 (by rw [c_17_6]; decide) (by rw [c_17_6]; decide) (by rw [c_17_6]; rfl) (by decide) ?_
    refine lv_iload_n hx hb dX5_branch_120 rfl (lv_at hl 1 rfl) ?_
    refine lv_iload_n hx hb dX5_branch_121 rfl (lv_at hl 0 rfl) ?_
    refine k_ri (va_runS (As := [.int (fX5_a x), .int (fX5_b x)]) (rest := []) ⟨hx, hb, hml, hown, hB⟩ (mX5_isBelow l (fX5_a x) (fX5_b x)) (va_cwS 2 hB (gS q_t3_122 q_t3_123 q_t1_4 wX5_isBelow) rfl rfl rfl hX5_isBelow.2 ⟨Nat.le_of_ble_eq_true rfl, Nat.le_of_ble_eq_true rfl⟩) ⟨fun _ _ _ _ q => q, fun U _ _ => ⟨rfl, trivial⟩⟩ rfl rfl hl.1 rfl (lv_room (Nat.le_of_ble_eq_true rfl)) dX5_branch_122 ⟨Nat.zero_le _, Nat.zero_le _⟩) ?_
    refine lv_istore_n (lv' := [(3, .int (bi (fX5_isBelow (fX5_a x) (fX5_b x)))), (2, .int (fX5_b x)), (1, .int (fX5_a x)), (0, .ref bH)]) hx hb dX5_branch_125 rfl hl (by decide) rfl (fun ls hl => ?_)
    refine lv_goto (tgt := 151) hx hb dX5_branch_126 (by decide) ?_
    refine lv_iload_n hx hb dX5_branch_151 rfl (lv_at hl 0 rfl) ?_
    refine lv_if_eq (tgt := 169) hx hb dX5_branch_152 (by decide) (fun c_152 => ?_) (fun c_152 => ?_)
    · exact W.vret hx hb hr (fun t ht hW => ⟨⟨x, rfl, (by unfold fX5_branch; rw [if_neg c_17_0, if_neg c_17_1, if_neg c_17_2, if_neg c_17_3, if_neg c_17_4, if_neg c_17_5, if_pos c_17_6, if_pos c_152] <;> rfl), hpT ht hP⟩, hS.F ht⟩) hS.2.2 dX5_branch_169
    · refine lv_aload_n hx hb dX5_branch_155 rfl (lv_at hl 3 rfl) ?_
      refine lv_aload_n hx hb dX5_branch_156 rfl (lv_at hl 3 rfl) ?_
      refine va_get (D := (dC, dI)) (ci := 3) (v := .int (r_pc x)) (C := RX5) (T := TX5) (N := 15) hx hb hB iX5 hown hK hP 0 rfl rfl 3 (by decide) (hB _ q_t2_234) (fun _ h9 => h9) rfl dX5_branch_157 ?_
      refine lv_aload_n hx hb dX5_branch_160 rfl (lv_at hl 3 rfl) ?_
      refine k_ri (va_runV (As := []) (rest := [.int (r_pc x), .ref bH]) ⟨hx, hb, hml, hown, hB⟩ (mX5_numberB l dC dI bH bM bR bC jM jR jC x) (cwV 0 hB (gV q_t3_126 q_t3_128 q_s_48 q_t1_4 wX5_numberB) rfl rfl rfl hX5_numberB ⟨Nat.le_of_ble_eq_true rfl, Nat.le_of_ble_eq_true rfl⟩) ⟨kP_blind NT_blind, va_recv hK hP (ci := 3) (q0 := 0) rfl rfl, kP_pre NT_warm hP hK hN⟩ rfl rfl hl.1 rfl (lv_room (Nat.le_of_ble_eq_true rfl)) dX5_branch_161 ⟨Nat.zero_le _, Nat.zero_le _⟩) ?_
      refine lv_iadd hx hb dX5_branch_164 ?_
      refine k_mi (w := wR bH bM bR bC jM jR jC) wR_ad (va_runV (As := [.int ((r_pc x) + (fX5_numberB x))]) (rest := []) ⟨hx, hb, hml, hown, hB⟩ (mX5_goes l dC dI bH bM bR bC jM jR jC s.heap.size x ((r_pc x) + (fX5_numberB x))) (cwV 1 hB (gV q_t3_98 q_t3_100 q_s_42 q_t1_4 wX5_goes) rfl rfl rfl hX5_goes ⟨Nat.le_of_ble_eq_true rfl, Nat.le_of_ble_eq_true rfl⟩) ⟨kM_blind NT_blind, va_recv hK hP (ci := 3) (q0 := 0) rfl rfl, kM_pre NT_warm hP hK hD hN⟩ rfl rfl hl.1 rfl (lv_room (Nat.le_of_ble_eq_true rfl)) dX5_branch_165 ⟨Nat.zero_le _, Nat.zero_le _⟩) hD hS hA (fun r u H locs hw hP hD hS => ?_)
      obtain ⟨rfl, rfl⟩ := hw
      refine lv_pop hx hb dX5_branch_168 rfl ?_
      exact W.vret hx hb hr (fun t ht hW => ⟨⟨((fX5_goes ((r_pc x) + (fX5_numberB x)) x).2), rfl, (by unfold fX5_branch; rw [if_neg c_17_0, if_neg c_17_1, if_neg c_17_2, if_neg c_17_3, if_neg c_17_4, if_neg c_17_5, if_pos c_17_6, if_neg c_152] <;> rfl), hpT ht hP⟩, hS.F ht⟩) hS.2.2 dX5_branch_169
  by_cases c_17_7 : (fX5_bits (12 : Int32) (3 : Int32) x) = (7 : Int32)
  · refine lv_tableIn (off := 112) (tgt := 129) hx hb dX5_branch_17 (by rw [c_17_7]; decide) (by rw [c_17_7]; decide) (by rw [c_17_7]; rfl) (by decide) ?_
    refine lv_iload_n hx hb dX5_branch_129 rfl (lv_at hl 1 rfl) ?_
    refine lv_iload_n hx hb dX5_branch_130 rfl (lv_at hl 0 rfl) ?_
    refine k_ri (va_runS (As := [.int (fX5_a x), .int (fX5_b x)]) (rest := []) ⟨hx, hb, hml, hown, hB⟩ (mX5_isBelow l (fX5_a x) (fX5_b x)) (va_cwS 2 hB (gS q_t3_122 q_t3_123 q_t1_4 wX5_isBelow) rfl rfl rfl hX5_isBelow.2 ⟨Nat.le_of_ble_eq_true rfl, Nat.le_of_ble_eq_true rfl⟩) ⟨fun _ _ _ _ q => q, fun U _ _ => ⟨rfl, trivial⟩⟩ rfl rfl hl.1 rfl (lv_room (Nat.le_of_ble_eq_true rfl)) dX5_branch_131 ⟨Nat.zero_le _, Nat.zero_le _⟩) ?_
    refine lv_if_ne (tgt := 141) hx hb dX5_branch_134 (by decide) (fun c_134 => ?_) (fun c_134 => ?_)
    · refine lv_iconst (v := 0) hx hb dX5_branch_141 (by decide) ?_
      refine lv_istore_n (lv' := [(3, .int (0 : Int32)), (2, .int (fX5_b x)), (1, .int (fX5_a x)), (0, .ref bH)]) hx hb dX5_branch_142 rfl hl (by decide) rfl (fun ls hl => ?_)
      refine lv_goto (tgt := 151) hx hb dX5_branch_143 (by decide) ?_
      refine lv_iload_n hx hb dX5_branch_151 rfl (lv_at hl 0 rfl) ?_
      refine lv_if_eq (tgt := 169) hx hb dX5_branch_152 (by decide) (fun _ => ?_) (fun h9 => absurd h9 (by decide))
      exact W.vret hx hb hr (fun t ht hW => ⟨⟨x, rfl, (by unfold fX5_branch; rw [if_neg c_17_0, if_neg c_17_1, if_neg c_17_2, if_neg c_17_3, if_neg c_17_4, if_neg c_17_5, if_neg c_17_6, if_pos c_17_7, if_neg c_134] <;> rfl), hpT ht hP⟩, hS.F ht⟩) hS.2.2 dX5_branch_169
    · refine lv_iconst (v := 1) hx hb dX5_branch_137 (by decide) ?_
      refine lv_goto (tgt := 142) hx hb dX5_branch_138 (by decide) ?_
      refine lv_istore_n (lv' := [(3, .int (1 : Int32)), (2, .int (fX5_b x)), (1, .int (fX5_a x)), (0, .ref bH)]) hx hb dX5_branch_142 rfl hl (by decide) rfl (fun ls hl => ?_)
      refine lv_goto (tgt := 151) hx hb dX5_branch_143 (by decide) ?_
      refine lv_iload_n hx hb dX5_branch_151 rfl (lv_at hl 0 rfl) ?_
      refine lv_if_eq (tgt := 169) hx hb dX5_branch_152 (by decide) (fun h9 => absurd h9 (by decide)) (fun _ => ?_)
      refine lv_aload_n hx hb dX5_branch_155 rfl (lv_at hl 3 rfl) ?_
      refine lv_aload_n hx hb dX5_branch_156 rfl (lv_at hl 3 rfl) ?_
      refine va_get (D := (dC, dI)) (ci := 3) (v := .int (r_pc x)) (C := RX5) (T := TX5) (N := 15) hx hb hB iX5 hown hK hP 0 rfl rfl 3 (by decide) (hB _ q_t2_234) (fun _ h9 => h9) rfl dX5_branch_157 ?_
      refine lv_aload_n hx hb dX5_branch_160 rfl (lv_at hl 3 rfl) ?_
      refine k_ri (va_runV (As := []) (rest := [.int (r_pc x), .ref bH]) ⟨hx, hb, hml, hown, hB⟩ (mX5_numberB l dC dI bH bM bR bC jM jR jC x) (cwV 0 hB (gV q_t3_126 q_t3_128 q_s_48 q_t1_4 wX5_numberB) rfl rfl rfl hX5_numberB ⟨Nat.le_of_ble_eq_true rfl, Nat.le_of_ble_eq_true rfl⟩) ⟨kP_blind NT_blind, va_recv hK hP (ci := 3) (q0 := 0) rfl rfl, kP_pre NT_warm hP hK hN⟩ rfl rfl hl.1 rfl (lv_room (Nat.le_of_ble_eq_true rfl)) dX5_branch_161 ⟨Nat.zero_le _, Nat.zero_le _⟩) ?_
      refine lv_iadd hx hb dX5_branch_164 ?_
      refine k_mi (w := wR bH bM bR bC jM jR jC) wR_ad (va_runV (As := [.int ((r_pc x) + (fX5_numberB x))]) (rest := []) ⟨hx, hb, hml, hown, hB⟩ (mX5_goes l dC dI bH bM bR bC jM jR jC s.heap.size x ((r_pc x) + (fX5_numberB x))) (cwV 1 hB (gV q_t3_98 q_t3_100 q_s_42 q_t1_4 wX5_goes) rfl rfl rfl hX5_goes ⟨Nat.le_of_ble_eq_true rfl, Nat.le_of_ble_eq_true rfl⟩) ⟨kM_blind NT_blind, va_recv hK hP (ci := 3) (q0 := 0) rfl rfl, kM_pre NT_warm hP hK hD hN⟩ rfl rfl hl.1 rfl (lv_room (Nat.le_of_ble_eq_true rfl)) dX5_branch_165 ⟨Nat.zero_le _, Nat.zero_le _⟩) hD hS hA (fun r u H locs hw hP hD hS => ?_)
      obtain ⟨rfl, rfl⟩ := hw
      refine lv_pop hx hb dX5_branch_168 rfl ?_
      exact W.vret hx hb hr (fun t ht hW => ⟨⟨((fX5_goes ((r_pc x) + (fX5_numberB x)) x).2), rfl, (by unfold fX5_branch; rw [if_neg c_17_0, if_neg c_17_1, if_neg c_17_2, if_neg c_17_3, if_neg c_17_4, if_neg c_17_5, if_neg c_17_6, if_pos c_17_7, if_pos c_134] <;> rfl), hpT ht hP⟩, hS.F ht⟩) hS.2.2 dX5_branch_169
  refine lv_tableOut (tgt := 146) hx hb dX5_branch_17 (by have h0 := lv_neT (a := 0) c_17_0 (by decide); have h1 := lv_neT (a := 1) c_17_1 (by decide); have h2 := lv_neT (a := 2) c_17_2 (by decide); have h3 := lv_neT (a := 3) c_17_3 (by decide); have h4 := lv_neT (a := 4) c_17_4 (by decide); have h5 := lv_neT (a := 5) c_17_5 (by decide); have h6 := lv_neT (a := 6) c_17_6 (by decide); have h7 := lv_neT (a := 7) c_17_7 (by decide); omega) (by decide) ?_
  refine lv_aload_n hx hb dX5_branch_146 rfl (lv_at hl 2 rfl) ?_
  refine k_mv (w := wR bH bM bR bC jM jR jC) wR_ad (va_runV (As := []) (rest := []) ⟨hx, hb, hml, hown, hB⟩ (mX5_none l dC dI bH bM bR bC jM jR jC s.heap.size x) (cwV 0 hB (gV q_t3_102 q_t3_104 q_s_43 q_t1_4 wX5_none) rfl rfl rfl hX5_none ⟨Nat.le_of_ble_eq_true rfl, Nat.le_of_ble_eq_true rfl⟩) ⟨kM_blind NT_blind, va_recv hK hP (ci := 3) (q0 := 0) rfl rfl, kM_pre NT_warm hP hK hD hN⟩ rfl rfl hl.1 rfl (lv_room (Nat.le_of_ble_eq_true rfl)) dX5_branch_147 ⟨Nat.zero_le _, Nat.zero_le _⟩) hD hS hA (fun u H locs hw hP hD hS => ?_)
  obtain rfl := hw
  exact W.vret hx hb hr (fun t ht hW => ⟨⟨(fX5_none x), rfl, (by unfold fX5_branch; rw [if_neg c_17_0, if_neg c_17_1, if_neg c_17_2, if_neg c_17_3, if_neg c_17_4, if_neg c_17_5, if_neg c_17_6, if_neg c_17_7] <;> rfl), hpT ht hP⟩, hS.F ht⟩) hS.2.2 dX5_branch_150
def fX5_has (p0 : Int32) (x : SR) : Int32 := if p0 = (7 : Int32) then
    if (bi (r_line x)) = 0 then
      (0 : Int32)
    else
      (2048 : Int32)
  else
    if p0 = (8 : Int32) then
      r_done x
    else
      (r_ctl x) p0.toNatClampNeg
set_option maxHeartbeats 4000000 in
set_option maxRecDepth 100000 in
theorem mX5_has (l : Launch) (dC : Nat → ClassId) (dI : Nat → Nat → Nat) (bH bM bR bC jM jR jC : Nat) (x : SR) (p0 : Int32) (hc : vp_in p0 9) : Met l yX5_has wsX5_has ({ frames := 0, cells := 0, slots := 0, locals := 0 }) (va_Pc [.ref bH, .int p0] (kP (dC, dI) [(jM, .int), (jR, .int), (jC, .int)] NT (wR bH bM bR bC jM jR jC x))) (QcRead ((fX5_has p0 x))) 0 0 (fun _ => False) := by
  refine Met.ofW (cc := cX5_has) (maxL := 2) (ret := (some .int)) (by decide) rfl ?_
  intro p e s m args below meth c s₁ B hml hv
  obtain ⟨rfl, hP, hK, hN⟩ := hv
  have hx := B.exec
  have hb := B.bytes
  have hr := B.returns
  have hB := fun (w : Cond) (h : w ∈ BIG) => atoms_spec (ws := wsX5_has) B.pre w (List.mem_cons_of_mem _ h)
  have hown : s.vm.findClass RX5 = some m.cls := findClass_of_methodNamed B.named
  have hlocks := B.notSynchronized
  have hl := lv_entry ([.ref bH, .int p0]) (n := 2) (Nat.le_of_ble_eq_true rfl)
  rw [lg_entry_eq]
  generalize (lg_sl ([.ref bH, .int p0]) ++ List.replicate (2 - (lg_sl ([.ref bH, .int p0])).length) Slot.unset).toArray = ls at hl ⊢
  have hl : lv_has ls 2 [(0, .ref bH), (1, .int p0)] := hl
  refine lv_iload_n hx hb dX5_has_0 rfl (lv_at hl 1 rfl) ?_
  refine lv_bipush (v := 7) hx hb dX5_has_1 (by decide) ?_
  refine lv_icmp_ne (tgt := 23) hx hb dX5_has_3 (by decide) (fun c_3 => ?_) (fun c_3 => ?_)
  · refine lv_iload_n hx hb dX5_has_23 rfl (lv_at hl 1 rfl) ?_
    refine lv_bipush (v := 8) hx hb dX5_has_24 (by decide) ?_
    refine lv_icmp_ne (tgt := 36) hx hb dX5_has_26 (by decide) (fun c_26 => ?_) (fun c_26 => ?_)
    · refine lv_aload_n hx hb dX5_has_36 rfl (lv_at hl 0 rfl) ?_
      refine va_get (D := (dC, dI)) (ci := 3) (v := .ref bC) (C := RX5) (T := TX5) (N := 15) hx hb hB iX5 hown hK hP 0 rfl rfl 4 (by decide) (hB _ q_t2_235) (fun _ h9 => h9) rfl dX5_has_37 ?_
      refine lv_iload_n hx hb dX5_has_40 rfl (lv_at hl 1 rfl) ?_
      refine va_iald hx hb hK hP 3 2 rfl rfl hc dX5_has_41 ?_
      exact W.iret (v := (r_ctl x) p0.toNatClampNeg) hx hb hr (fun t ht hW => ⟨congrArg (fun z => Outcome.returned (some (Value.int z))) (by unfold fX5_has; rw [if_neg c_3, if_neg c_26] <;> rfl), ht⟩) (fun q h => nomatch h) dX5_has_42
    · refine lv_aload_n hx hb dX5_has_29 rfl (lv_at hl 0 rfl) ?_
      refine va_get (D := (dC, dI)) (ci := 3) (v := .int (r_done x)) (C := RX5) (T := TX5) (N := 15) hx hb hB iX5 hown hK hP 0 rfl rfl 8 (by decide) (hB _ q_t2_239) (fun _ h9 => h9) rfl dX5_has_30 ?_
      refine lv_goto (tgt := 42) hx hb dX5_has_33 (by decide) ?_
      exact W.iret (v := r_done x) hx hb hr (fun t ht hW => ⟨congrArg (fun z => Outcome.returned (some (Value.int z))) (by unfold fX5_has; rw [if_neg c_3, if_pos c_26] <;> rfl), ht⟩) (fun q h => nomatch h) dX5_has_42
  · refine lv_aload_n hx hb dX5_has_6 rfl (lv_at hl 0 rfl) ?_
    refine va_get (D := (dC, dI)) (ci := 3) (v := .int (bi (r_line x))) (C := RX5) (T := TX5) (N := 15) hx hb hB iX5 hown hK hP 0 rfl rfl 5 (by decide) (hB _ q_t2_236) (fun _ h9 => h9) rfl dX5_has_7 ?_
    refine lv_if_eq (tgt := 19) hx hb dX5_has_10 (by decide) (fun c_10 => ?_) (fun c_10 => ?_)
    · refine lv_iconst (v := 0) hx hb dX5_has_19 (by decide) ?_
      refine lv_goto (tgt := 42) hx hb dX5_has_20 (by decide) ?_
      exact W.iret (v := (0 : Int32)) hx hb hr (fun t ht hW => ⟨congrArg (fun z => Outcome.returned (some (Value.int z))) (by unfold fX5_has; rw [if_pos c_3, if_pos c_10] <;> rfl), ht⟩) (fun q h => nomatch h) dX5_has_42
    · refine lv_sipush (v := 2048) hx hb dX5_has_13 (by decide) ?_
      refine lv_goto (tgt := 42) hx hb dX5_has_16 (by decide) ?_
      exact W.iret (v := (2048 : Int32)) hx hb hr (fun t ht hW => ⟨congrArg (fun z => Outcome.returned (some (Value.int z))) (by unfold fX5_has; rw [if_pos c_3, if_neg c_10] <;> rfl), ht⟩) (fun q h => nomatch h) dX5_has_42
def fX5_become (p0 : Int32) (p1 : Int32) (x : SR) : SR := if p0 = 0 then
    t_ctl x (upd (r_ctl x) p0.toNatClampNeg (p1 &&& (136 : Int32)))
  else
    if p0 = (1 : Int32) then
      t_ctl x (upd (r_ctl x) p0.toNatClampNeg (p1 &&& (2048 : Int32)))
    else
      if p0 = (2 : Int32) then
        t_ctl x (upd (r_ctl x) p0.toNatClampNeg (p1 &&& (-4 : Int32)))
      else
        if p0 = (4 : Int32) then
          t_ctl x (upd (r_ctl x) p0.toNatClampNeg (p1 &&& (-4 : Int32)))
        else
          t_ctl x (upd (r_ctl x) p0.toNatClampNeg p1)
set_option maxHeartbeats 4000000 in
set_option maxRecDepth 100000 in
theorem mX5_become (l : Launch) (dC : Nat → ClassId) (dI : Nat → Nat → Nat) (bH bM bR bC jM jR jC : Nat) (sz : Nat) (x : SR) (p0 : Int32) (p1 : Int32) (hc : vp_in p0 9) : Met l yX5_become wsX5_become ({ frames := 0, cells := 0, slots := 0, locals := 0 }) (va_Pc [.ref bH, .int p0, .int p1] (kM (dC, dI) [(jM, .int), (jR, .int), (jC, .int)] NT (wR bH bM bR bC jM jR jC x) sz)) (va_Qv (fun u => u = fX5_become p0 p1 x) (fun u t => va_P (dC, dI) vwCl (wR bH bM bR bC jM jR jC u) t.heap) (va_A (wR bH bM bR bC jM jR jC x) sz)) 0 0 (va_A (wR bH bM bR bC jM jR jC x) sz) := by
  refine Met.ofW (cc := cX5_become) (maxL := 3) (ret := none) (by decide) rfl ?_
  intro p e s m args below meth c s₁ B hml hv
  obtain ⟨rfl, hsz, hD0, hP, hK, hN⟩ := hv
  have hx := B.exec
  have hb := B.bytes
  have hr := B.returns
  have hB := fun (w : Cond) (h : w ∈ BIG) => atoms_spec (ws := wsX5_become) B.pre w (List.mem_cons_of_mem _ h)
  have hown : s.vm.findClass RX5 = some m.cls := findClass_of_methodNamed B.named
  have hlocks := B.notSynchronized
  subst hsz
  have hD := hD0.self (sz := s.heap.size)
  generalize hAe : va_A (wR bH bM bR bC jM jR jC x) s.heap.size = A at hD ⊢
  have hA : ∀ q : Nat, s.heap.size ≤ q → A q := fun q h => by rw [← hAe]; exact Or.inr h
  have hS : va_S A s.heap s.heap [] := va_S.rf
  have hl := lv_entry ([.ref bH, .int p0, .int p1]) (n := 3) (Nat.le_of_ble_eq_true rfl)
  rw [lg_entry_eq]
  generalize (lg_sl ([.ref bH, .int p0, .int p1]) ++ List.replicate (3 - (lg_sl ([.ref bH, .int p0, .int p1])).length) Slot.unset).toArray = ls at hl ⊢
  have hl : lv_has ls 3 [(0, .ref bH), (1, .int p0), (2, .int p1)] := hl
  refine lv_aload_n hx hb dX5_become_0 rfl (lv_at hl 0 rfl) ?_
  refine va_get (D := (dC, dI)) (ci := 3) (v := .ref bC) (C := RX5) (T := TX5) (N := 15) hx hb hB iX5 hown hK hP 0 rfl rfl 4 (by decide) (hB _ q_t2_235) (fun _ h9 => h9) rfl dX5_become_1 ?_
  refine lv_iload_n hx hb dX5_become_4 rfl (lv_at hl 1 rfl) ?_
  refine lv_iload_n hx hb dX5_become_5 rfl (lv_at hl 1 rfl) ?_
  refine lv_if_ne (tgt := 17) hx hb dX5_become_6 (by decide) (fun c_6 => ?_) (fun c_6 => ?_)
  · refine lv_iload_n hx hb dX5_become_17 rfl (lv_at hl 1 rfl) ?_
    refine lv_iconst (v := 1) hx hb dX5_become_18 (by decide) ?_
    refine lv_icmp_ne (tgt := 30) hx hb dX5_become_19 (by decide) (fun c_19 => ?_) (fun c_19 => ?_)
    · refine lv_iload_n hx hb dX5_become_30 rfl (lv_at hl 1 rfl) ?_
      refine lv_iconst (v := 2) hx hb dX5_become_31 (by decide) ?_
      refine lv_icmp_eq (tgt := 40) hx hb dX5_become_32 (by decide) (fun c_32 => ?_) (fun c_32 => ?_)
      · refine lv_iload_n hx hb dX5_become_40 rfl (lv_at hl 2 rfl) ?_
        refine lv_bipush (v := -4) hx hb dX5_become_41 (by decide) ?_
        refine lv_iand hx hb dX5_become_43 ?_
        refine lv_goto (tgt := 48) hx hb dX5_become_44 (by decide) ?_
        refine va_iast hx hb hK hP hD hS 3 2 rfl rfl hc dX5_become_48 (fun H locs hP hD hS => ?_)
        have hP : va_P (dC, dI) vwCl (wR bH bM bR bC jM jR jC (t_ctl x (upd (r_ctl x) p0.toNatClampNeg (p1 &&& (-4 : Int32))))) H := hP
        have hD : va_D A (wR bH bM bR bC jM jR jC (t_ctl x (upd (r_ctl x) p0.toNatClampNeg (p1 &&& (-4 : Int32))))) := hD
        exact W.vret hx hb hr (fun t ht hW => ⟨⟨(t_ctl x (upd (r_ctl x) p0.toNatClampNeg (p1 &&& (-4 : Int32)))), rfl, (by unfold fX5_become; rw [if_neg c_6, if_neg c_19, if_pos c_32] <;> rfl), hpT ht hP⟩, hS.F ht⟩) hS.2.2 dX5_become_49
      · refine lv_iload_n hx hb dX5_become_35 rfl (lv_at hl 1 rfl) ?_
        refine lv_iconst (v := 4) hx hb dX5_become_36 (by decide) ?_
        refine lv_icmp_ne (tgt := 47) hx hb dX5_become_37 (by decide) (fun c_37 => ?_) (fun c_37 => ?_)
        · refine lv_iload_n hx hb dX5_become_47 rfl (lv_at hl 2 rfl) ?_
          refine va_iast hx hb hK hP hD hS 3 2 rfl rfl hc dX5_become_48 (fun H locs hP hD hS => ?_)
          have hP : va_P (dC, dI) vwCl (wR bH bM bR bC jM jR jC (t_ctl x (upd (r_ctl x) p0.toNatClampNeg p1))) H := hP
          have hD : va_D A (wR bH bM bR bC jM jR jC (t_ctl x (upd (r_ctl x) p0.toNatClampNeg p1))) := hD
          exact W.vret hx hb hr (fun t ht hW => ⟨⟨(t_ctl x (upd (r_ctl x) p0.toNatClampNeg p1)), rfl, (by unfold fX5_become; rw [if_neg c_6, if_neg c_19, if_neg c_32, if_neg c_37] <;> rfl), hpT ht hP⟩, hS.F ht⟩) hS.2.2 dX5_become_49
        · refine lv_iload_n hx hb dX5_become_40 rfl (lv_at hl 2 rfl) ?_
          refine lv_bipush (v := -4) hx hb dX5_become_41 (by decide) ?_
          refine lv_iand hx hb dX5_become_43 ?_
          refine lv_goto (tgt := 48) hx hb dX5_become_44 (by decide) ?_
          refine va_iast hx hb hK hP hD hS 3 2 rfl rfl hc dX5_become_48 (fun H locs hP hD hS => ?_)
          have hP : va_P (dC, dI) vwCl (wR bH bM bR bC jM jR jC (t_ctl x (upd (r_ctl x) p0.toNatClampNeg (p1 &&& (-4 : Int32))))) H := hP
          have hD : va_D A (wR bH bM bR bC jM jR jC (t_ctl x (upd (r_ctl x) p0.toNatClampNeg (p1 &&& (-4 : Int32))))) := hD
          exact W.vret hx hb hr (fun t ht hW => ⟨⟨(t_ctl x (upd (r_ctl x) p0.toNatClampNeg (p1 &&& (-4 : Int32)))), rfl, (by unfold fX5_become; rw [if_neg c_6, if_neg c_19, if_neg c_32, if_pos c_37] <;> rfl), hpT ht hP⟩, hS.F ht⟩) hS.2.2 dX5_become_49
    · refine lv_iload_n hx hb dX5_become_22 rfl (lv_at hl 2 rfl) ?_
      refine lv_sipush (v := 2048) hx hb dX5_become_23 (by decide) ?_
      refine lv_iand hx hb dX5_become_26 ?_
      refine lv_goto (tgt := 48) hx hb dX5_become_27 (by decide) ?_
      refine va_iast hx hb hK hP hD hS 3 2 rfl rfl hc dX5_become_48 (fun H locs hP hD hS => ?_)
      have hP : va_P (dC, dI) vwCl (wR bH bM bR bC jM jR jC (t_ctl x (upd (r_ctl x) p0.toNatClampNeg (p1 &&& (2048 : Int32))))) H := hP
      have hD : va_D A (wR bH bM bR bC jM jR jC (t_ctl x (upd (r_ctl x) p0.toNatClampNeg (p1 &&& (2048 : Int32))))) := hD
      exact W.vret hx hb hr (fun t ht hW => ⟨⟨(t_ctl x (upd (r_ctl x) p0.toNatClampNeg (p1 &&& (2048 : Int32)))), rfl, (by unfold fX5_become; rw [if_neg c_6, if_pos c_19] <;> rfl), hpT ht hP⟩, hS.F ht⟩) hS.2.2 dX5_become_49
  · refine lv_iload_n hx hb dX5_become_9 rfl (lv_at hl 2 rfl) ?_
    refine lv_sipush (v := 136) hx hb dX5_become_10 (by decide) ?_
    refine lv_iand hx hb dX5_become_13 ?_
    refine lv_goto (tgt := 48) hx hb dX5_become_14 (by decide) ?_
    refine va_iast hx hb hK hP hD hS 3 2 rfl rfl hc dX5_become_48 (fun H locs hP hD hS => ?_)
    have hP : va_P (dC, dI) vwCl (wR bH bM bR bC jM jR jC (t_ctl x (upd (r_ctl x) p0.toNatClampNeg (p1 &&& (136 : Int32))))) H := hP
    have hD : va_D A (wR bH bM bR bC jM jR jC (t_ctl x (upd (r_ctl x) p0.toNatClampNeg (p1 &&& (136 : Int32))))) := hD
    exact W.vret hx hb hr (fun t ht hW => ⟨⟨(t_ctl x (upd (r_ctl x) p0.toNatClampNeg (p1 &&& (136 : Int32)))), rfl, (by unfold fX5_become; rw [if_pos c_6] <;> rfl), hpT ht hP⟩, hS.F ht⟩) hS.2.2 dX5_become_49
def fX5_register (p0 : Int32) (x : SR) : Int32 × SR := if p0 < 0 then
    ((0 : Int32), t_thrown x (1 : Int32))
  else
    if p0 ≤ (32 : Int32) then
      if p0 = (32 : Int32) then
        (r_pc x, t_thrown x (0 : Int32))
      else
        ((r_reg x) p0.toNatClampNeg, t_thrown x (0 : Int32))
    else
      ((0 : Int32), t_thrown x (1 : Int32))
set_option maxHeartbeats 4000000 in
set_option maxRecDepth 100000 in
theorem mX5_register (l : Launch) (dC : Nat → ClassId) (dI : Nat → Nat → Nat) (bH bM bR bC jM jR jC : Nat) (sz : Nat) (x : SR) (p0 : Int32) : Met l yX5_register wsX5_register ({ frames := 0, cells := 0, slots := 0, locals := 0 }) (va_Pc [.ref bH, .int p0] (kM (dC, dI) [(jM, .int), (jR, .int), (jC, .int)] NT (wR bH bM bR bC jM jR jC x) sz)) (va_Qi (fun r u => r = (fX5_register p0 x).1 ∧ u = (fX5_register p0 x).2) (fun u t => va_P (dC, dI) vwCl (wR bH bM bR bC jM jR jC u) t.heap) (va_A (wR bH bM bR bC jM jR jC x) sz)) 0 0 (va_A (wR bH bM bR bC jM jR jC x) sz) := by
  refine Met.ofW (cc := cX5_register) (maxL := 2) (ret := (some .int)) (by decide) rfl ?_
  intro p e s m args below meth c s₁ B hml hv
  obtain ⟨rfl, hsz, hD0, hP, hK, hN⟩ := hv
  have hx := B.exec
  have hb := B.bytes
  have hr := B.returns
  have hB := fun (w : Cond) (h : w ∈ BIG) => atoms_spec (ws := wsX5_register) B.pre w (List.mem_cons_of_mem _ h)
  have hown : s.vm.findClass RX5 = some m.cls := findClass_of_methodNamed B.named
  have hlocks := B.notSynchronized
  subst hsz
  have hD := hD0.self (sz := s.heap.size)
  generalize hAe : va_A (wR bH bM bR bC jM jR jC x) s.heap.size = A at hD ⊢
  have hA : ∀ q : Nat, s.heap.size ≤ q → A q := fun q h => by rw [← hAe]; exact Or.inr h
  have hS : va_S A s.heap s.heap [] := va_S.rf
  have hl := lv_entry ([.ref bH, .int p0]) (n := 2) (Nat.le_of_ble_eq_true rfl)
  rw [lg_entry_eq]
  generalize (lg_sl ([.ref bH, .int p0]) ++ List.replicate (2 - (lg_sl ([.ref bH, .int p0])).length) Slot.unset).toArray = ls at hl ⊢
  have hl : lv_has ls 2 [(0, .ref bH), (1, .int p0)] := hl
  refine lv_aload_n hx hb dX5_register_0 rfl (lv_at hl 0 rfl) ?_
  refine lv_iload_n hx hb dX5_register_1 rfl (lv_at hl 1 rfl) ?_
  refine lv_if_lt (tgt := 11) hx hb dX5_register_2 (by decide) (fun c_2 => ?_) (fun c_2 => ?_)
  · refine lv_iconst (v := 1) hx hb dX5_register_11 (by decide) ?_
    refine lv_goto (tgt := 16) hx hb dX5_register_12 (by decide) ?_
    refine va_put (D := (dC, dI)) (ci := 3) (v := .int (1 : Int32)) (ty := .int) (C := RX5) (T := TX5) (N := 15) hx hb hB iX5 tyX5 tyX5_ok nmX5 hown hK hP hD hS 0 rfl rfl 0 (by decide) (hB _ q_t2_231) (fun _ h9 => h9) rfl (by decide +kernel) rfl rfl (Nat.le_of_ble_eq_true rfl) dX5_register_16 (fun H locs hP hD hS => ?_)
    have hP : va_P (dC, dI) vwCl (wR bH bM bR bC jM jR jC (t_thrown x (1 : Int32))) H := hP
    have hD : va_D A (wR bH bM bR bC jM jR jC (t_thrown x (1 : Int32))) := hD
    refine lv_aload_n hx hb dX5_register_19 rfl (lv_at hl 0 rfl) ?_
    refine va_get (D := (dC, dI)) (ci := 3) (v := .int (1 : Int32)) (C := RX5) (T := TX5) (N := 15) hx hb hB iX5 hown hK hP 0 rfl rfl 0 (by decide) (hB _ q_t2_231) (fun _ h9 => h9) rfl dX5_register_20 ?_
    refine lv_if_le (tgt := 30) hx hb dX5_register_23 (by decide) (fun h9 => absurd h9 (by decide)) (fun _ => ?_)
    refine lv_iconst (v := 0) hx hb dX5_register_26 (by decide) ?_
    refine lv_goto (tgt := 49) hx hb dX5_register_27 (by decide) ?_
    exact W.iret (v := (0 : Int32)) hx hb hr (fun t ht hW => ⟨⟨(0 : Int32), (t_thrown x (1 : Int32)), rfl, ⟨(by unfold fX5_register; rw [if_pos c_2] <;> rfl), (by unfold fX5_register; rw [if_pos c_2] <;> rfl)⟩, hpT ht hP⟩, hS.F ht⟩) hS.2.2 dX5_register_49
  · refine lv_iload_n hx hb dX5_register_5 rfl (lv_at hl 1 rfl) ?_
    refine lv_bipush (v := 32) hx hb dX5_register_6 (by decide) ?_
    refine lv_icmp_le (tgt := 15) hx hb dX5_register_8 (by decide) (fun c_8 => ?_) (fun c_8 => ?_)
    · refine lv_iconst (v := 0) hx hb dX5_register_15 (by decide) ?_
      refine va_put (D := (dC, dI)) (ci := 3) (v := .int (0 : Int32)) (ty := .int) (C := RX5) (T := TX5) (N := 15) hx hb hB iX5 tyX5 tyX5_ok nmX5 hown hK hP hD hS 0 rfl rfl 0 (by decide) (hB _ q_t2_231) (fun _ h9 => h9) rfl (by decide +kernel) rfl rfl (Nat.le_of_ble_eq_true rfl) dX5_register_16 (fun H locs hP hD hS => ?_)
      have hP : va_P (dC, dI) vwCl (wR bH bM bR bC jM jR jC (t_thrown x (0 : Int32))) H := hP
      have hD : va_D A (wR bH bM bR bC jM jR jC (t_thrown x (0 : Int32))) := hD
      refine lv_aload_n hx hb dX5_register_19 rfl (lv_at hl 0 rfl) ?_
      refine va_get (D := (dC, dI)) (ci := 3) (v := .int (0 : Int32)) (C := RX5) (T := TX5) (N := 15) hx hb hB iX5 hown hK hP 0 rfl rfl 0 (by decide) (hB _ q_t2_231) (fun _ h9 => h9) rfl dX5_register_20 ?_
      refine lv_if_le (tgt := 30) hx hb dX5_register_23 (by decide) (fun _ => ?_) (fun h9 => absurd h9 (by decide))
      refine lv_iload_n hx hb dX5_register_30 rfl (lv_at hl 1 rfl) ?_
      refine lv_bipush (v := 32) hx hb dX5_register_31 (by decide) ?_
      refine lv_icmp_ne (tgt := 43) hx hb dX5_register_33 (by decide) (fun c_33 => ?_) (fun c_33 => ?_)
      · refine lv_aload_n hx hb dX5_register_43 rfl (lv_at hl 0 rfl) ?_
        refine va_get (D := (dC, dI)) (ci := 3) (v := .ref bR) (C := RX5) (T := TX5) (N := 15) hx hb hB iX5 hown hK hP 0 rfl rfl 2 (by decide) (hB _ q_t2_233) (fun _ h9 => h9) rfl dX5_register_44 ?_
        refine lv_iload_n hx hb dX5_register_47 rfl (lv_at hl 1 rfl) ?_
        refine va_iald hx hb hK hP 2 1 rfl rfl (in_r32 c_2 c_8 c_33) dX5_register_48 ?_
        exact W.iret (v := (r_reg x) p0.toNatClampNeg) hx hb hr (fun t ht hW => ⟨⟨(r_reg x) p0.toNatClampNeg, (t_thrown x (0 : Int32)), rfl, ⟨(by unfold fX5_register; rw [if_neg c_2, if_pos c_8, if_neg c_33] <;> rfl), (by unfold fX5_register; rw [if_neg c_2, if_pos c_8, if_neg c_33] <;> rfl)⟩, hpT ht hP⟩, hS.F ht⟩) hS.2.2 dX5_register_49
      · refine lv_aload_n hx hb dX5_register_36 rfl (lv_at hl 0 rfl) ?_
        refine va_get (D := (dC, dI)) (ci := 3) (v := .int (r_pc x)) (C := RX5) (T := TX5) (N := 15) hx hb hB iX5 hown hK hP 0 rfl rfl 3 (by decide) (hB _ q_t2_234) (fun _ h9 => h9) rfl dX5_register_37 ?_
        refine lv_goto (tgt := 49) hx hb dX5_register_40 (by decide) ?_
        exact W.iret (v := r_pc x) hx hb hr (fun t ht hW => ⟨⟨r_pc x, (t_thrown x (0 : Int32)), rfl, ⟨(by unfold fX5_register; rw [if_neg c_2, if_pos c_8, if_pos c_33] <;> rfl), (by unfold fX5_register; rw [if_neg c_2, if_pos c_8, if_pos c_33] <;> rfl)⟩, hpT ht hP⟩, hS.F ht⟩) hS.2.2 dX5_register_49
    · refine lv_iconst (v := 1) hx hb dX5_register_11 (by decide) ?_
      refine lv_goto (tgt := 16) hx hb dX5_register_12 (by decide) ?_
      refine va_put (D := (dC, dI)) (ci := 3) (v := .int (1 : Int32)) (ty := .int) (C := RX5) (T := TX5) (N := 15) hx hb hB iX5 tyX5 tyX5_ok nmX5 hown hK hP hD hS 0 rfl rfl 0 (by decide) (hB _ q_t2_231) (fun _ h9 => h9) rfl (by decide +kernel) rfl rfl (Nat.le_of_ble_eq_true rfl) dX5_register_16 (fun H locs hP hD hS => ?_)
      have hP : va_P (dC, dI) vwCl (wR bH bM bR bC jM jR jC (t_thrown x (1 : Int32))) H := hP
      have hD : va_D A (wR bH bM bR bC jM jR jC (t_thrown x (1 : Int32))) := hD
      refine lv_aload_n hx hb dX5_register_19 rfl (lv_at hl 0 rfl) ?_
      refine va_get (D := (dC, dI)) (ci := 3) (v := .int (1 : Int32)) (C := RX5) (T := TX5) (N := 15) hx hb hB iX5 hown hK hP 0 rfl rfl 0 (by decide) (hB _ q_t2_231) (fun _ h9 => h9) rfl dX5_register_20 ?_
      refine lv_if_le (tgt := 30) hx hb dX5_register_23 (by decide) (fun h9 => absurd h9 (by decide)) (fun _ => ?_)
      refine lv_iconst (v := 0) hx hb dX5_register_26 (by decide) ?_
      refine lv_goto (tgt := 49) hx hb dX5_register_27 (by decide) ?_
      exact W.iret (v := (0 : Int32)) hx hb hr (fun t ht hW => ⟨⟨(0 : Int32), (t_thrown x (1 : Int32)), rfl, ⟨(by unfold fX5_register; rw [if_neg c_2, if_neg c_8] <;> rfl), (by unfold fX5_register; rw [if_neg c_2, if_neg c_8] <;> rfl)⟩, hpT ht hP⟩, hS.F ht⟩) hS.2.2 dX5_register_49
def fX5_control (p0 : Int32) (x : SR) : Int32 × SR := if (fX5_controlOf p0) = (-1 : Int32) then
    ((0 : Int32), t_thrown x (1 : Int32))
  else
    (fX5_has (fX5_controlOf p0) (t_thrown x (0 : Int32)), t_thrown x (0 : Int32))
set_option maxHeartbeats 4000000 in
set_option maxRecDepth 100000 in
theorem mX5_control (l : Launch) (dC : Nat → ClassId) (dI : Nat → Nat → Nat) (bH bM bR bC jM jR jC : Nat) (sz : Nat) (x : SR) (p0 : Int32) : Met l yX5_control wsX5_control ({ frames := 1, cells := 0, slots := 0, locals := 21 }) (va_Pc [.ref bH, .int p0] (kM (dC, dI) [(jM, .int), (jR, .int), (jC, .int)] NT (wR bH bM bR bC jM jR jC x) sz)) (va_Qi (fun r u => r = (fX5_control p0 x).1 ∧ u = (fX5_control p0 x).2) (fun u t => va_P (dC, dI) vwCl (wR bH bM bR bC jM jR jC u) t.heap) (va_A (wR bH bM bR bC jM jR jC x) sz)) 0 0 (va_A (wR bH bM bR bC jM jR jC x) sz) := by
  refine Met.ofW (cc := cX5_control) (maxL := 3) (ret := (some .int)) (by decide) rfl ?_
  intro p e s m args below meth c s₁ B hml hv
  obtain ⟨rfl, hsz, hD0, hP, hK, hN⟩ := hv
  have hx := B.exec
  have hb := B.bytes
  have hr := B.returns
  have hB := fun (w : Cond) (h : w ∈ BIG) => atoms_spec (ws := wsX5_control) B.pre w (List.mem_cons_of_mem _ h)
  have hown : s.vm.findClass RX5 = some m.cls := findClass_of_methodNamed B.named
  have hlocks := B.notSynchronized
  subst hsz
  have hD := hD0.self (sz := s.heap.size)
  generalize hAe : va_A (wR bH bM bR bC jM jR jC x) s.heap.size = A at hD ⊢
  have hA : ∀ q : Nat, s.heap.size ≤ q → A q := fun q h => by rw [← hAe]; exact Or.inr h
  have hS : va_S A s.heap s.heap [] := va_S.rf
  have hl := lv_entry ([.ref bH, .int p0]) (n := 3) (Nat.le_of_ble_eq_true rfl)
  rw [lg_entry_eq]
  generalize (lg_sl ([.ref bH, .int p0]) ++ List.replicate (3 - (lg_sl ([.ref bH, .int p0])).length) Slot.unset).toArray = ls at hl ⊢
  have hl : lv_has ls 3 [(0, .ref bH), (1, .int p0)] := hl
  refine lv_iload_n hx hb dX5_control_0 rfl (lv_at hl 1 rfl) ?_
  refine k_ri (va_runS (As := [.int p0]) (rest := []) ⟨hx, hb, hml, hown, hB⟩ (mX5_controlOf l p0) (va_cwS 1 hB (gS q_t3_175 q_t3_176 q_t1_4 wX5_controlOf) rfl rfl rfl hX5_controlOf.2 ⟨Nat.le_of_ble_eq_true rfl, Nat.le_of_ble_eq_true rfl⟩) ⟨fun _ _ _ _ q => q, fun U _ _ => ⟨rfl, trivial⟩⟩ rfl rfl hl.1 rfl (lv_room (Nat.le_of_ble_eq_true rfl)) dX5_control_1 ⟨Nat.zero_le _, Nat.zero_le _⟩) ?_
  refine lv_istore_n (lv' := [(2, .int (fX5_controlOf p0)), (0, .ref bH), (1, .int p0)]) hx hb dX5_control_4 rfl hl (by decide) rfl (fun ls hl => ?_)
  refine lv_aload_n hx hb dX5_control_5 rfl (lv_at hl 1 rfl) ?_
  refine lv_iload_n hx hb dX5_control_6 rfl (lv_at hl 0 rfl) ?_
  refine lv_iconst (v := -1) hx hb dX5_control_7 (by decide) ?_
  refine lv_icmp_ne (tgt := 15) hx hb dX5_control_8 (by decide) (fun c_8 => ?_) (fun c_8 => ?_)
  · refine lv_iconst (v := 0) hx hb dX5_control_15 (by decide) ?_
    refine va_put (D := (dC, dI)) (ci := 3) (v := .int (0 : Int32)) (ty := .int) (C := RX5) (T := TX5) (N := 15) hx hb hB iX5 tyX5 tyX5_ok nmX5 hown hK hP hD hS 0 rfl rfl 0 (by decide) (hB _ q_t2_231) (fun _ h9 => h9) rfl (by decide +kernel) rfl rfl (Nat.le_of_ble_eq_true rfl) dX5_control_16 (fun H locs hP hD hS => ?_)
    have hP : va_P (dC, dI) vwCl (wR bH bM bR bC jM jR jC (t_thrown x (0 : Int32))) H := hP
    have hD : va_D A (wR bH bM bR bC jM jR jC (t_thrown x (0 : Int32))) := hD
    refine lv_iload_n hx hb dX5_control_19 rfl (lv_at hl 0 rfl) ?_
    refine lv_iconst (v := -1) hx hb dX5_control_20 (by decide) ?_
    refine lv_icmp_ne (tgt := 28) hx hb dX5_control_21 (by decide) (fun _ => ?_) (fun h9 => absurd h9 c_8)
    refine lv_aload_n hx hb dX5_control_28 rfl (lv_at hl 1 rfl) ?_
    refine lv_iload_n hx hb dX5_control_29 rfl (lv_at hl 0 rfl) ?_
    refine k_ri (va_runV (As := [.int (fX5_controlOf p0)]) (rest := []) ⟨hx, hb, hml, hown, hB⟩ (mX5_has l dC dI bH bM bR bC jM jR jC (t_thrown x (0 : Int32)) (fX5_controlOf p0) (in_ctl c_8)) (cwV 1 hB (gV q_t3_178 q_t3_180 q_s_58 q_t1_4 wX5_has) rfl rfl rfl hX5_has ⟨Nat.le_of_ble_eq_true rfl, Nat.le_of_ble_eq_true rfl⟩) ⟨kP_blind NT_blind, va_recv hK hP (ci := 3) (q0 := 0) rfl rfl, kP_pre NT_warm hP hK hN⟩ rfl rfl hl.1 rfl (lv_room (Nat.le_of_ble_eq_true rfl)) dX5_control_30 ⟨Nat.zero_le _, Nat.zero_le _⟩) ?_
    exact W.iret (v := fX5_has (fX5_controlOf p0) (t_thrown x (0 : Int32))) hx hb hr (fun t ht hW => ⟨⟨fX5_has (fX5_controlOf p0) (t_thrown x (0 : Int32)), (t_thrown x (0 : Int32)), rfl, ⟨(by unfold fX5_control; rw [if_neg c_8] <;> rfl), (by unfold fX5_control; rw [if_neg c_8] <;> rfl)⟩, hpT ht hP⟩, hS.F ht⟩) hS.2.2 dX5_control_33
  · refine lv_iconst (v := 1) hx hb dX5_control_11 (by decide) ?_
    refine lv_goto (tgt := 16) hx hb dX5_control_12 (by decide) ?_
    refine va_put (D := (dC, dI)) (ci := 3) (v := .int (1 : Int32)) (ty := .int) (C := RX5) (T := TX5) (N := 15) hx hb hB iX5 tyX5 tyX5_ok nmX5 hown hK hP hD hS 0 rfl rfl 0 (by decide) (hB _ q_t2_231) (fun _ h9 => h9) rfl (by decide +kernel) rfl rfl (Nat.le_of_ble_eq_true rfl) dX5_control_16 (fun H locs hP hD hS => ?_)
    have hP : va_P (dC, dI) vwCl (wR bH bM bR bC jM jR jC (t_thrown x (1 : Int32))) H := hP
    have hD : va_D A (wR bH bM bR bC jM jR jC (t_thrown x (1 : Int32))) := hD
    refine lv_iload_n hx hb dX5_control_19 rfl (lv_at hl 0 rfl) ?_
    refine lv_iconst (v := -1) hx hb dX5_control_20 (by decide) ?_
    refine lv_icmp_ne (tgt := 28) hx hb dX5_control_21 (by decide) (fun h9 => absurd c_8 h9) (fun _ => ?_)
    refine lv_iconst (v := 0) hx hb dX5_control_24 (by decide) ?_
    refine lv_goto (tgt := 33) hx hb dX5_control_25 (by decide) ?_
    exact W.iret (v := (0 : Int32)) hx hb hr (fun t ht hW => ⟨⟨(0 : Int32), (t_thrown x (1 : Int32)), rfl, ⟨(by unfold fX5_control; rw [if_pos c_8] <;> rfl), (by unfold fX5_control; rw [if_pos c_8] <;> rfl)⟩, hpT ht hP⟩, hS.F ht⟩) hS.2.2 dX5_control_33
def fX5_word (p0 : Int32) (x : SR) : Int32 × SR := if (bi (fX5_isAddress p0)) = 0 then
    ((0 : Int32), t_thrown x (1 : Int32))
  else
    ((r_mem x) (p0 / (4 : Int32)).toNatClampNeg, t_thrown x (0 : Int32))
set_option maxHeartbeats 4000000 in
set_option maxRecDepth 100000 in
theorem mX5_word (l : Launch) (dC : Nat → ClassId) (dI : Nat → Nat → Nat) (bH bM bR bC jM jR jC : Nat) (sz : Nat) (x : SR) (p0 : Int32) : Met l yX5_word wsX5_word ({ frames := 1, cells := 0, slots := 0, locals := 20 }) (va_Pc [.ref bH, .int p0] (kM (dC, dI) [(jM, .int), (jR, .int), (jC, .int)] NT (wR bH bM bR bC jM jR jC x) sz)) (va_Qi (fun r u => r = (fX5_word p0 x).1 ∧ u = (fX5_word p0 x).2) (fun u t => va_P (dC, dI) vwCl (wR bH bM bR bC jM jR jC u) t.heap) (va_A (wR bH bM bR bC jM jR jC x) sz)) 0 0 (va_A (wR bH bM bR bC jM jR jC x) sz) := by
  refine Met.ofW (cc := cX5_word) (maxL := 2) (ret := (some .int)) (by decide) rfl ?_
  intro p e s m args below meth c s₁ B hml hv
  obtain ⟨rfl, hsz, hD0, hP, hK, hN⟩ := hv
  have hx := B.exec
  have hb := B.bytes
  have hr := B.returns
  have hB := fun (w : Cond) (h : w ∈ BIG) => atoms_spec (ws := wsX5_word) B.pre w (List.mem_cons_of_mem _ h)
  have hown : s.vm.findClass RX5 = some m.cls := findClass_of_methodNamed B.named
  have hlocks := B.notSynchronized
  subst hsz
  have hD := hD0.self (sz := s.heap.size)
  generalize hAe : va_A (wR bH bM bR bC jM jR jC x) s.heap.size = A at hD ⊢
  have hA : ∀ q : Nat, s.heap.size ≤ q → A q := fun q h => by rw [← hAe]; exact Or.inr h
  have hS : va_S A s.heap s.heap [] := va_S.rf
  have hl := lv_entry ([.ref bH, .int p0]) (n := 2) (Nat.le_of_ble_eq_true rfl)
  rw [lg_entry_eq]
  generalize (lg_sl ([.ref bH, .int p0]) ++ List.replicate (2 - (lg_sl ([.ref bH, .int p0])).length) Slot.unset).toArray = ls at hl ⊢
  have hl : lv_has ls 2 [(0, .ref bH), (1, .int p0)] := hl
  refine lv_aload_n hx hb dX5_word_0 rfl (lv_at hl 0 rfl) ?_
  refine lv_iload_n hx hb dX5_word_1 rfl (lv_at hl 1 rfl) ?_
  refine k_ri (va_runS (As := [.int p0]) (rest := [.ref bH]) ⟨hx, hb, hml, hown, hB⟩ (mX5_isAddress l p0) (va_cwS 1 hB (gS q_t3_45 q_t3_46 q_t1_4 wX5_isAddress) rfl rfl rfl hX5_isAddress.2 ⟨Nat.le_of_ble_eq_true rfl, Nat.le_of_ble_eq_true rfl⟩) ⟨fun _ _ _ _ q => q, fun U _ _ => ⟨rfl, trivial⟩⟩ rfl rfl hl.1 rfl (lv_room (Nat.le_of_ble_eq_true rfl)) dX5_word_2 ⟨Nat.zero_le _, Nat.zero_le _⟩) ?_
  refine lv_if_eq (tgt := 12) hx hb dX5_word_5 (by decide) (fun c_5 => ?_) (fun c_5 => ?_)
  · refine lv_iconst (v := 1) hx hb dX5_word_12 (by decide) ?_
    refine va_put (D := (dC, dI)) (ci := 3) (v := .int (1 : Int32)) (ty := .int) (C := RX5) (T := TX5) (N := 15) hx hb hB iX5 tyX5 tyX5_ok nmX5 hown hK hP hD hS 0 rfl rfl 0 (by decide) (hB _ q_t2_231) (fun _ h9 => h9) rfl (by decide +kernel) rfl rfl (Nat.le_of_ble_eq_true rfl) dX5_word_13 (fun H locs hP hD hS => ?_)
    have hP : va_P (dC, dI) vwCl (wR bH bM bR bC jM jR jC (t_thrown x (1 : Int32))) H := hP
    have hD : va_D A (wR bH bM bR bC jM jR jC (t_thrown x (1 : Int32))) := hD
    refine lv_aload_n hx hb dX5_word_16 rfl (lv_at hl 0 rfl) ?_
    refine va_get (D := (dC, dI)) (ci := 3) (v := .int (1 : Int32)) (C := RX5) (T := TX5) (N := 15) hx hb hB iX5 hown hK hP 0 rfl rfl 0 (by decide) (hB _ q_t2_231) (fun _ h9 => h9) rfl dX5_word_17 ?_
    refine lv_if_le (tgt := 27) hx hb dX5_word_20 (by decide) (fun h9 => absurd h9 (by decide)) (fun _ => ?_)
    refine lv_iconst (v := 0) hx hb dX5_word_23 (by decide) ?_
    refine lv_goto (tgt := 35) hx hb dX5_word_24 (by decide) ?_
    exact W.iret (v := (0 : Int32)) hx hb hr (fun t ht hW => ⟨⟨(0 : Int32), (t_thrown x (1 : Int32)), rfl, ⟨(by unfold fX5_word; rw [if_pos c_5] <;> rfl), (by unfold fX5_word; rw [if_pos c_5] <;> rfl)⟩, hpT ht hP⟩, hS.F ht⟩) hS.2.2 dX5_word_35
  · refine lv_iconst (v := 0) hx hb dX5_word_8 (by decide) ?_
    refine lv_goto (tgt := 13) hx hb dX5_word_9 (by decide) ?_
    refine va_put (D := (dC, dI)) (ci := 3) (v := .int (0 : Int32)) (ty := .int) (C := RX5) (T := TX5) (N := 15) hx hb hB iX5 tyX5 tyX5_ok nmX5 hown hK hP hD hS 0 rfl rfl 0 (by decide) (hB _ q_t2_231) (fun _ h9 => h9) rfl (by decide +kernel) rfl rfl (Nat.le_of_ble_eq_true rfl) dX5_word_13 (fun H locs hP hD hS => ?_)
    have hP : va_P (dC, dI) vwCl (wR bH bM bR bC jM jR jC (t_thrown x (0 : Int32))) H := hP
    have hD : va_D A (wR bH bM bR bC jM jR jC (t_thrown x (0 : Int32))) := hD
    refine lv_aload_n hx hb dX5_word_16 rfl (lv_at hl 0 rfl) ?_
    refine va_get (D := (dC, dI)) (ci := 3) (v := .int (0 : Int32)) (C := RX5) (T := TX5) (N := 15) hx hb hB iX5 hown hK hP 0 rfl rfl 0 (by decide) (hB _ q_t2_231) (fun _ h9 => h9) rfl dX5_word_17 ?_
    refine lv_if_le (tgt := 27) hx hb dX5_word_20 (by decide) (fun _ => ?_) (fun h9 => absurd h9 (by decide))
    refine lv_aload_n hx hb dX5_word_27 rfl (lv_at hl 0 rfl) ?_
    refine va_get (D := (dC, dI)) (ci := 3) (v := .ref bM) (C := RX5) (T := TX5) (N := 15) hx hb hB iX5 hown hK hP 0 rfl rfl 1 (by decide) (hB _ q_t2_232) (fun _ h9 => h9) rfl dX5_word_28 ?_
    refine lv_iload_n hx hb dX5_word_31 rfl (lv_at hl 1 rfl) ?_
    refine lv_iconst (v := 4) hx hb dX5_word_32 (by decide) ?_
    refine lv_idiv hx hb dX5_word_33 (by decide) ?_
    refine va_iald hx hb hK hP 1 0 rfl rfl (in_addr c_5) dX5_word_34 ?_
    exact W.iret (v := (r_mem x) (p0 / (4 : Int32)).toNatClampNeg) hx hb hr (fun t ht hW => ⟨⟨(r_mem x) (p0 / (4 : Int32)).toNatClampNeg, (t_thrown x (0 : Int32)), rfl, ⟨(by unfold fX5_word; rw [if_neg c_5] <;> rfl), (by unfold fX5_word; rw [if_neg c_5] <;> rfl)⟩, hpT ht hP⟩, hS.F ht⟩) hS.2.2 dX5_word_35
