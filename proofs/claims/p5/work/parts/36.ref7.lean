def runR : Nat → Int32 → Int32 → SR → Int32 × SR
  | 0, _, c, x => (c, x)
  | k + 1, n, c, x => if n ≤ c then
      (c, x)
    else
      if (bi (r_stopped x)) = 0 then
        if (100000 : Int32) ≤ (r_steps x) then
          (c, x)
        else
          runR k n (c + 1) (fX5_step x)
      else
        (c, x)
theorem runR_s (k : Nat) (n c : Int32) (x : SR) : runR (k + 1) n c x = (if n ≤ c then
      (c, x)
    else
      if (bi (r_stopped x)) = 0 then
        if (100000 : Int32) ≤ (r_steps x) then
          (c, x)
        else
          runR k n (c + 1) (fX5_step x)
      else
        (c, x)) := rfl
set_option maxHeartbeats 4000000 in
set_option maxRecDepth 100000 in
theorem runR_loop {p : Program} {l : Launch} {e : Env} {s : State} {m : MethodId} {args : Array Value} {below : List Frame} {meth : Method} {c : Code} {dC : Nat → ClassId} {dI : Nat → Nat → Nat} {bH bM bR bC jM jR jC : Nat} {A : Nat → Prop} (hx : p.tables.exec = Jvm.exec) (hb : c.code = cX5_run) (hr : meth.sig.returnType = some .int) (hlocks : meth.locks = false) (hml : c.maxLocals = 3) (hown : s.vm.findClass RX5 = some m.cls) (hB : ∀ w ∈ BIG, w.before args s = true) (hK : va_K (dC, dI) vwCl [(jM, .int), (jR, .int), (jC, .int)] s) (hN : NT s) (hA : ∀ q : Nat, s.heap.size ≤ q → A q) (N : Nat) (hN9 : N ≤ 1000) :
    ∀ (k i : Nat), i ≤ N → N < i + k → ∀ (x : SR) (H : Heap) (locs : List Loc) (ls : Array Slot), va_P (dC, dI) vwCl (wR bH bM bR bC jM jR jC x) H → va_D A (wR bH bM bR bC jM jR jC x) → va_S A s.heap H locs → lv_has ls 3 [(0, .ref bH), (1, .int (nI N)), (2, .int (nI i))] → W p l e (headSpec wsX5_run ({ frames := 6, cells := 0, slots := 0, locals := 134 })).room s m args below meth c H locs 0 0 (MQ below (va_Qi (fun r u => r = (runR k (nI N) (nI i) x).1 ∧ u = (runR k (nI N) (nI i) x).2) (fun u t => va_P (dC, dI) vwCl (wR bH bM bR bC jM jR jC u) t.heap) A) args s 0 0 A) (F0 m 40 ls []) := by
  intro k
  induction k with
  | zero => intro i h1 h2; omega
  | succ k ih =>
    intro i h1 h2 x H locs ls hP hD hS hl
    refine lv_iload_n hx hb dX5_run_40 rfl (lv_at hl 2 rfl) ?_
    refine lv_iload_n hx hb dX5_run_41 rfl (lv_at hl 1 rfl) ?_
    refine lv_icmp_ge (tgt := 71) hx hb dX5_run_42 (by decide) (fun c_42 => ?_) (fun c_42 => ?_)
    · refine lv_iload_n hx hb dX5_run_71 rfl (lv_at hl 2 rfl) ?_
      exact W.iret (v := nI i) hx hb hr (fun t ht hW => ⟨⟨nI i, x, rfl, ⟨(by (rw [runR_s, if_pos c_42] <;> rfl)), (by (rw [runR_s, if_pos c_42] <;> rfl))⟩, hpT ht hP⟩, hS.F ht⟩) hS.2.2 dX5_run_72
    · refine lv_aload_n hx hb dX5_run_45 rfl (lv_at hl 0 rfl) ?_
      refine va_get (D := (dC, dI)) (ci := 3) (v := .int (bi (r_stopped x))) (C := RX5) (T := TX5) (N := 15) hx hb hB iX5 hown hK hP 0 rfl rfl 6 (by decide) (hB _ q_t2_237) (fun _ h9 => h9) rfl dX5_run_46 ?_
      refine lv_if_ne (tgt := 71) hx hb dX5_run_49 (by decide) (fun c_49 => ?_) (fun c_49 => ?_)
      · refine lv_iload_n hx hb dX5_run_71 rfl (lv_at hl 2 rfl) ?_
        exact W.iret (v := nI i) hx hb hr (fun t ht hW => ⟨⟨nI i, x, rfl, ⟨(by (rw [runR_s, if_neg c_42, if_neg c_49] <;> rfl)), (by (rw [runR_s, if_neg c_42, if_neg c_49] <;> rfl))⟩, hpT ht hP⟩, hS.F ht⟩) hS.2.2 dX5_run_72
      · refine lv_aload_n hx hb dX5_run_52 rfl (lv_at hl 0 rfl) ?_
        refine va_get (D := (dC, dI)) (ci := 3) (v := .int (r_steps x)) (C := RX5) (T := TX5) (N := 15) hx hb hB iX5 hown hK hP 0 rfl rfl 7 (by decide) (hB _ q_t2_238) (fun _ h9 => h9) rfl dX5_run_53 ?_
        refine lv_ldc (v := 100000) hx hb hown (hB _ q_t3_64) dX5_run_56 ?_
        refine lv_icmp_ge (tgt := 71) hx hb dX5_run_58 (by decide) (fun c_58 => ?_) (fun c_58 => ?_)
        · refine lv_iload_n hx hb dX5_run_71 rfl (lv_at hl 2 rfl) ?_
          exact W.iret (v := nI i) hx hb hr (fun t ht hW => ⟨⟨nI i, x, rfl, ⟨(by (rw [runR_s, if_neg c_42, if_pos c_49, if_pos c_58] <;> rfl)), (by (rw [runR_s, if_neg c_42, if_pos c_49, if_pos c_58] <;> rfl))⟩, hpT ht hP⟩, hS.F ht⟩) hS.2.2 dX5_run_72
        · refine lv_aload_n hx hb dX5_run_61 rfl (lv_at hl 0 rfl) ?_
          refine k_mv (w := wR bH bM bR bC jM jR jC) wR_ad (va_runV (As := []) (rest := []) ⟨hx, hb, hml, hown, hB⟩ (mX5_step l dC dI bH bM bR bC jM jR jC H.size x) (cwV 0 hB (gV q_t3_65 q_t3_67 q_s_34 q_t1_4 wX5_step) rfl rfl rfl hX5_step ⟨Nat.le_of_ble_eq_true rfl, Nat.le_of_ble_eq_true rfl⟩) ⟨kM_blind NT_blind, va_recv hK hP (ci := 3) (q0 := 0) rfl rfl, kM_pre NT_warm hP hK hD hN⟩ rfl rfl hl.1 rfl (lv_room (Nat.le_of_ble_eq_true rfl)) dX5_run_62 ⟨Nat.zero_le _, Nat.zero_le _⟩) hD hS hA (fun u H locs hw hP hD hS => ?_)
          obtain rfl := hw
          refine lv_iinc (v := (nI i) + (1 : Int32)) (lv' := [(2, .int ((nI i) + (1 : Int32))), (0, .ref bH), (1, .int (nI N))]) hx hb dX5_run_65 hl (k := 2) rfl rfl (by decide) rfl (fun ls hl => ?_)
          refine lv_goto (tgt := 40) hx hb dX5_run_68 (by decide) ?_
          have hlt : i < N := Nat.lt_of_not_le fun q => c_42 (nI_le q (by omega))
          have hl : lv_has ls 3 [(0, .ref bH), (1, .int (nI N)), (2, .int (nI (i + 1)))] := by rw [← nI_1]; exact lv_sub hl [1, 2, 0] rfl
          have e9 : runR (k + 1) (nI N) (nI i) x = runR k (nI N) (nI (i + 1)) (fX5_step x) := by (rw [runR_s, if_neg c_42, if_pos c_49, if_neg c_58, nI_1] <;> rfl)
          rw [e9]
          exact ih (i + 1) (by omega) (by omega) (fX5_step x) H _ ls hP hD hS hl
def fX5_run (p0 : Int32) (x : SR) : Int32 × SR := if p0 < (1 : Int32) then
    ((fX5_raise (1 : Int32) x).1, (fX5_raise (1 : Int32) x).2)
  else
    if p0 ≤ (1000 : Int32) then
      if (r_steps x) = (100000 : Int32) then
        ((fX5_raise (2 : Int32) x).1, (fX5_raise (2 : Int32) x).2)
      else
        runR 1001 p0 0 (t_thrown x (0 : Int32))
    else
      ((fX5_raise (1 : Int32) x).1, (fX5_raise (1 : Int32) x).2)
set_option maxHeartbeats 4000000 in
set_option maxRecDepth 100000 in
theorem mX5_run (l : Launch) (dC : Nat → ClassId) (dI : Nat → Nat → Nat) (bH bM bR bC jM jR jC : Nat) (sz : Nat) (x : SR) (p0 : Int32) : Met l yX5_run wsX5_run ({ frames := 6, cells := 0, slots := 0, locals := 134 }) (va_Pc [.ref bH, .int p0] (kM (dC, dI) [(jM, .int), (jR, .int), (jC, .int)] NT (wR bH bM bR bC jM jR jC x) sz)) (va_Qi (fun r u => r = (fX5_run p0 x).1 ∧ u = (fX5_run p0 x).2) (fun u t => va_P (dC, dI) vwCl (wR bH bM bR bC jM jR jC u) t.heap) (va_A (wR bH bM bR bC jM jR jC x) sz)) 0 0 (va_A (wR bH bM bR bC jM jR jC x) sz) := by
  refine Met.ofW (cc := cX5_run) (maxL := 3) (ret := (some .int)) (by decide) rfl ?_
  intro p e s m args below meth c s₁ B hml hv
  obtain ⟨rfl, hsz, hD0, hP, hK, hN⟩ := hv
  have hx := B.exec
  have hb := B.bytes
  have hr := B.returns
  have hB := fun (w : Cond) (h : w ∈ BIG) => atoms_spec (ws := wsX5_run) B.pre w (List.mem_cons_of_mem _ h)
  have hown : s.vm.findClass RX5 = some m.cls := findClass_of_methodNamed B.named
  have hlocks := B.notSynchronized
  subst hsz
  have hD := hD0.self (sz := s.heap.size)
  generalize hAe : va_A (wR bH bM bR bC jM jR jC x) s.heap.size = A at hD ⊢
  have hA : ∀ q : Nat, s.heap.size ≤ q → A q := fun q h => by rw [← hAe]; exact Or.inr h
  have hS : va_S A s.heap s.heap [] := va_S.rf
  have hl := lv_entry ([.ref bH, .int p0]) (n := 3) (Nat.le_of_ble_eq_true rfl)
  rw [lg_entry_eq]
  generalize (lg_sl ([.ref bH, .int p0]) ++ List.replicate (3 - (lg_sl ([.ref bH, .int p0])).length) Slot.unset).toArray = ls at hl ⊢
  have hl : lv_has ls 3 [(0, .ref bH), (1, .int p0)] := hl
  refine lv_iload_n hx hb dX5_run_0 rfl (lv_at hl 1 rfl) ?_
  refine lv_iconst (v := 1) hx hb dX5_run_1 (by decide) ?_
  refine lv_icmp_lt (tgt := 12) hx hb dX5_run_2 (by decide) (fun c_2 => ?_) (fun c_2 => ?_)
  · refine lv_aload_n hx hb dX5_run_12 rfl (lv_at hl 0 rfl) ?_
    refine lv_iconst (v := 1) hx hb dX5_run_13 (by decide) ?_
    refine k_mi (w := wR bH bM bR bC jM jR jC) wR_ad (va_runV (As := [.int (1 : Int32)]) (rest := []) ⟨hx, hb, hml, hown, hB⟩ (mX5_raise l dC dI bH bM bR bC jM jR jC s.heap.size x (1 : Int32)) (cwV 1 hB (gV q_t3_60 q_t3_62 q_s_33 q_t1_4 wX5_raise) rfl rfl rfl hX5_raise ⟨Nat.le_of_ble_eq_true rfl, Nat.le_of_ble_eq_true rfl⟩) ⟨kM_blind NT_blind, va_recv hK hP (ci := 3) (q0 := 0) rfl rfl, kM_pre NT_warm hP hK hD hN⟩ rfl rfl hl.1 rfl (lv_room (Nat.le_of_ble_eq_true rfl)) dX5_run_14 ⟨Nat.zero_le _, Nat.zero_le _⟩) hD hS hA (fun r u H locs hw hP hD hS => ?_)
    obtain ⟨rfl, rfl⟩ := hw
    exact W.iret (v := (fX5_raise (1 : Int32) x).1) hx hb hr (fun t ht hW => ⟨⟨(fX5_raise (1 : Int32) x).1, ((fX5_raise (1 : Int32) x).2), rfl, ⟨(by unfold fX5_run; rw [if_pos c_2] <;> rfl), (by unfold fX5_run; rw [if_pos c_2] <;> rfl)⟩, hpT ht hP⟩, hS.F ht⟩) hS.2.2 dX5_run_17
  · refine lv_iload_n hx hb dX5_run_5 rfl (lv_at hl 1 rfl) ?_
    refine lv_sipush (v := 1000) hx hb dX5_run_6 (by decide) ?_
    refine lv_icmp_le (tgt := 18) hx hb dX5_run_9 (by decide) (fun c_9 => ?_) (fun c_9 => ?_)
    · refine lv_aload_n hx hb dX5_run_18 rfl (lv_at hl 0 rfl) ?_
      refine va_get (D := (dC, dI)) (ci := 3) (v := .int (r_steps x)) (C := RX5) (T := TX5) (N := 15) hx hb hB iX5 hown hK hP 0 rfl rfl 7 (by decide) (hB _ q_t2_238) (fun _ h9 => h9) rfl dX5_run_19 ?_
      refine lv_ldc (v := 100000) hx hb hown (hB _ q_t3_64) dX5_run_22 ?_
      refine lv_icmp_ne (tgt := 33) hx hb dX5_run_24 (by decide) (fun c_24 => ?_) (fun c_24 => ?_)
      · refine lv_aload_n hx hb dX5_run_33 rfl (lv_at hl 0 rfl) ?_
        refine lv_iconst (v := 0) hx hb dX5_run_34 (by decide) ?_
        refine va_put (D := (dC, dI)) (ci := 3) (v := .int (0 : Int32)) (ty := .int) (C := RX5) (T := TX5) (N := 15) hx hb hB iX5 tyX5 tyX5_ok nmX5 hown hK hP hD hS 0 rfl rfl 0 (by decide) (hB _ q_t2_231) (fun _ h9 => h9) rfl (by decide +kernel) rfl rfl (Nat.le_of_ble_eq_true rfl) dX5_run_35 (fun H locs hP hD hS => ?_)
        have hP : va_P (dC, dI) vwCl (wR bH bM bR bC jM jR jC (t_thrown x (0 : Int32))) H := hP
        have hD : va_D A (wR bH bM bR bC jM jR jC (t_thrown x (0 : Int32))) := hD
        refine lv_iconst (v := 0) hx hb dX5_run_38 (by decide) ?_
        refine lv_istore_n (lv' := [(2, .int (0 : Int32)), (0, .ref bH), (1, .int p0)]) hx hb dX5_run_39 rfl hl (by decide) rfl (fun ls hl => ?_)
        obtain ⟨N, hN9, rfl⟩ := nI_of2 (M := 1000) (n := 1000) (by decide) (fun q => c_2 (Int32.lt_trans q (by decide))) c_9
        have hl : lv_has ls 3 [(0, .ref bH), (1, .int (nI N)), (2, .int (nI 0))] := by rw [nI_0]; exact lv_sub hl [1, 2, 0] rfl
        have e9 : fX5_run (nI N) x = runR 1001 (nI N) (nI 0) (t_thrown x (0 : Int32)) := by (unfold fX5_run; rw [if_neg c_2, if_pos c_9, if_neg c_24, nI_0] <;> rfl)
        rw [e9]
        exact runR_loop hx hb hr hlocks hml hown hB hK hN hA N hN9 1001 0 (by omega) (by omega) (t_thrown x (0 : Int32)) H _ ls hP hD hS hl
      · refine lv_aload_n hx hb dX5_run_27 rfl (lv_at hl 0 rfl) ?_
        refine lv_iconst (v := 2) hx hb dX5_run_28 (by decide) ?_
        refine k_mi (w := wR bH bM bR bC jM jR jC) wR_ad (va_runV (As := [.int (2 : Int32)]) (rest := []) ⟨hx, hb, hml, hown, hB⟩ (mX5_raise l dC dI bH bM bR bC jM jR jC s.heap.size x (2 : Int32)) (cwV 1 hB (gV q_t3_60 q_t3_62 q_s_33 q_t1_4 wX5_raise) rfl rfl rfl hX5_raise ⟨Nat.le_of_ble_eq_true rfl, Nat.le_of_ble_eq_true rfl⟩) ⟨kM_blind NT_blind, va_recv hK hP (ci := 3) (q0 := 0) rfl rfl, kM_pre NT_warm hP hK hD hN⟩ rfl rfl hl.1 rfl (lv_room (Nat.le_of_ble_eq_true rfl)) dX5_run_29 ⟨Nat.zero_le _, Nat.zero_le _⟩) hD hS hA (fun r u H locs hw hP hD hS => ?_)
        obtain ⟨rfl, rfl⟩ := hw
        exact W.iret (v := (fX5_raise (2 : Int32) x).1) hx hb hr (fun t ht hW => ⟨⟨(fX5_raise (2 : Int32) x).1, ((fX5_raise (2 : Int32) x).2), rfl, ⟨(by unfold fX5_run; rw [if_neg c_2, if_pos c_9, if_pos c_24] <;> rfl), (by unfold fX5_run; rw [if_neg c_2, if_pos c_9, if_pos c_24] <;> rfl)⟩, hpT ht hP⟩, hS.F ht⟩) hS.2.2 dX5_run_32
    · refine lv_aload_n hx hb dX5_run_12 rfl (lv_at hl 0 rfl) ?_
      refine lv_iconst (v := 1) hx hb dX5_run_13 (by decide) ?_
      refine k_mi (w := wR bH bM bR bC jM jR jC) wR_ad (va_runV (As := [.int (1 : Int32)]) (rest := []) ⟨hx, hb, hml, hown, hB⟩ (mX5_raise l dC dI bH bM bR bC jM jR jC s.heap.size x (1 : Int32)) (cwV 1 hB (gV q_t3_60 q_t3_62 q_s_33 q_t1_4 wX5_raise) rfl rfl rfl hX5_raise ⟨Nat.le_of_ble_eq_true rfl, Nat.le_of_ble_eq_true rfl⟩) ⟨kM_blind NT_blind, va_recv hK hP (ci := 3) (q0 := 0) rfl rfl, kM_pre NT_warm hP hK hD hN⟩ rfl rfl hl.1 rfl (lv_room (Nat.le_of_ble_eq_true rfl)) dX5_run_14 ⟨Nat.zero_le _, Nat.zero_le _⟩) hD hS hA (fun r u H locs hw hP hD hS => ?_)
      obtain ⟨rfl, rfl⟩ := hw
      exact W.iret (v := (fX5_raise (1 : Int32) x).1) hx hb hr (fun t ht hW => ⟨⟨(fX5_raise (1 : Int32) x).1, ((fX5_raise (1 : Int32) x).2), rfl, ⟨(by unfold fX5_run; rw [if_neg c_2, if_neg c_9] <;> rfl), (by unfold fX5_run; rw [if_neg c_2, if_neg c_9] <;> rfl)⟩, hpT ht hP⟩, hS.F ht⟩) hS.2.2 dX5_run_17
