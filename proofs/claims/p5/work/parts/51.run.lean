theorem code_ne {α : Type} {c : Int32} {y : α} (h : c ≠ 0) : ¬ (c, y).1 = 0 := h
theorem bool_ne {α : Type} {y : α} : ¬ (true, y).1 = false := fun h => Bool.noConfusion h
theorem run_ok {α : Type} {b : Bool} {y : α} (h : ((if b = true then (2 : Int32) else (0 : Int32), y)).1 = 0) : b = false := by
  cases b with
  | false => rfl
  | true => exact absurd h (by rw [if_pos rfl]; exact code_ne (by decide))
def runD : Nat → Int32 → Int32 → St → Bool × Int32 × St
  | 0, _, c, x => (false, c, x)
  | k + 1, n, c, x => if n ≤ c then
      (false, c, x)
    else
      if (bi (g_stop x)) = 0 then
        if okfX4_refuseBeyondLimit x = true then
          runD k n (c + 1) (fX4_step x)
        else
          (true, c, x)
      else
        (false, c, x)
theorem runD_s (k : Nat) (n c : Int32) (x : St) : runD (k + 1) n c x = (if n ≤ c then
      (false, c, x)
    else
      if (bi (g_stop x)) = 0 then
        if okfX4_refuseBeyondLimit x = true then
          runD k n (c + 1) (fX4_step x)
        else
          (true, c, x)
      else
        (false, c, x)) := rfl
set_option maxHeartbeats 4000000 in
set_option maxRecDepth 100000 in
theorem runD_loop {p : Program} {l : Launch} {e : Env} {s : State} {m : MethodId} {args : Array Value} {below : List Frame} {meth : Method} {c : Code} {dC : Nat → ClassId} {dI : Nat → Nat → Nat} {aH aM aW aC aR iW iR : Nat} {A : Nat → Prop} (hx : p.tables.exec = Jvm.exec) (hb : c.code = cX4_run) (hr : meth.sig.returnType = some .int) (hlocks : meth.locks = false) (hml : c.maxLocals = 3) (hown : s.vm.findClass RX4 = some m.cls) (hB : ∀ w ∈ BIG, w.before args s = true) (hK : va_K (dC, dI) vwCl [(iW, .int), (iR, .int)] s) (hN : NW s) (hA : ∀ q : Nat, s.heap.size ≤ q → A q) (N : Nat) (hN9 : N ≤ 1000) :
    ∀ (k i : Nat), i ≤ N → N < i + k → ∀ (x : St), (runD k (nI N) (nI i) x).1 = false → ∀ (H : Heap) (locs : List Loc) (ls : Array Slot), va_P (dC, dI) vwCl (wD aH aM aW aC aR iW iR x) H → va_D A (wD aH aM aW aC aR iW iR x) → va_S A s.heap H locs → lv_has ls 3 [(0, .ref aH), (1, .int (nI N)), (2, .int (nI i))] → W p l e (headSpec wsX4_run ({ frames := 6, cells := 0, slots := 0, locals := 134 })).room s m args below meth c H locs 0 0 (MQ below (va_Qi (fun r u => r = (runD k (nI N) (nI i) x).2.1 ∧ u = (runD k (nI N) (nI i) x).2.2) (fun u t => va_P (dC, dI) vwCl (wD aH aM aW aC aR iW iR u) t.heap) A) args s 0 0 A) (F0 m 28 ls []) := by
  intro k
  induction k with
  | zero => intro i h1 h2; omega
  | succ k ih =>
    intro i h1 h2 x hok H locs ls hP hD hS hl
    refine lv_iload_n hx hb dX4_run_28 rfl (lv_at hl 2 rfl) ?_
    refine lv_iload_n hx hb dX4_run_29 rfl (lv_at hl 1 rfl) ?_
    refine lv_icmp_ge (tgt := 54) hx hb dX4_run_30 (by decide) (fun c_30 => ?_) (fun c_30 => ?_)
    · refine lv_iload_n hx hb dX4_run_54 rfl (lv_at hl 2 rfl) ?_
      exact W.iret (v := nI i) hx hb hr (fun t ht hW => ⟨⟨nI i, x, rfl, ⟨(by (rw [runD_s, if_pos c_30] <;> rfl)), (by (rw [runD_s, if_pos c_30] <;> rfl))⟩, hpT ht hP⟩, hS.F ht⟩) hS.2.2 dX4_run_55
    · refine lv_aload_n hx hb dX4_run_33 rfl (lv_at hl 0 rfl) ?_
      refine va_get (D := (dC, dI)) (ci := 2) (v := .int (bi (g_stop x))) (C := RX4) (T := TX4) (N := 7) hx hb hB iX4 hown hK hP 0 rfl rfl 4 (by decide) (hB _ q_t1_74) (fun _ h9 => h9) rfl dX4_run_34 ?_
      refine lv_if_ne (tgt := 54) hx hb dX4_run_37 (by decide) (fun c_37 => ?_) (fun c_37 => ?_)
      · refine lv_iload_n hx hb dX4_run_54 rfl (lv_at hl 2 rfl) ?_
        exact W.iret (v := nI i) hx hb hr (fun t ht hW => ⟨⟨nI i, x, rfl, ⟨(by (rw [runD_s, if_neg c_30, if_neg c_37] <;> rfl)), (by (rw [runD_s, if_neg c_30, if_neg c_37] <;> rfl))⟩, hpT ht hP⟩, hS.F ht⟩) hS.2.2 dX4_run_55
      · refine lv_aload_n hx hb dX4_run_40 rfl (lv_at hl 0 rfl) ?_
        by_cases c_41 : okfX4_refuseBeyondLimit x = true
        · refine k_rv (va_runV (As := []) (rest := []) ⟨hx, hb, hml, hown, hB⟩ (mX4_refuseBeyondLimit l dC dI aH aM aW aC aR iW iR x c_41) (cwV 0 hB (gV q_t1_220 q_t1_222 q_s_6 q_t1_1 wX4_refuseBeyondLimit) rfl rfl rfl hX4_refuseBeyondLimit ⟨Nat.le_of_ble_eq_true rfl, Nat.le_of_ble_eq_true rfl⟩) ⟨kP_blind NW_blind, va_recv hK hP (ci := 2) (q0 := 0) rfl rfl, kP_pre NW_warm hP hK hN⟩ rfl rfl hl.1 rfl (lv_room (Nat.le_of_ble_eq_true rfl)) dX4_run_41 ⟨Nat.zero_le _, Nat.zero_le _⟩) ?_
          refine lv_aload_n hx hb dX4_run_44 rfl (lv_at hl 0 rfl) ?_
          refine k_mv (w := wD aH aM aW aC aR iW iR) wD_ad (va_runV (As := []) (rest := []) ⟨hx, hb, hml, hown, hB⟩ (mX4_step l dC dI aH aM aW aC aR iW iR H.size x) (cwV 0 hB (gV q_t2_1 q_t2_3 q_s_7 q_t1_1 wX4_step) rfl rfl rfl hX4_step ⟨Nat.le_of_ble_eq_true rfl, Nat.le_of_ble_eq_true rfl⟩) ⟨kM_blind NW_blind, va_recv hK hP (ci := 2) (q0 := 0) rfl rfl, kM_pre NW_warm hP hK hD hN⟩ rfl rfl hl.1 rfl (lv_room (Nat.le_of_ble_eq_true rfl)) dX4_run_45 ⟨Nat.zero_le _, Nat.zero_le _⟩) hD hS hA (fun u H locs hw hP hD hS => ?_)
          obtain rfl := hw
          refine lv_iinc (v := (nI i) + (1 : Int32)) (lv' := [(2, .int ((nI i) + (1 : Int32))), (0, .ref aH), (1, .int (nI N))]) hx hb dX4_run_48 hl (k := 2) rfl rfl (by decide) rfl (fun ls hl => ?_)
          refine lv_goto (tgt := 28) hx hb dX4_run_51 (by decide) ?_
          have hlt : i < N := Nat.lt_of_not_le fun q => c_30 (nI_le q (by omega))
          have hl : lv_has ls 3 [(0, .ref aH), (1, .int (nI N)), (2, .int (nI (i + 1)))] := by rw [← nI_1]; exact lv_sub hl [1, 2, 0] rfl
          have e9 : runD (k + 1) (nI N) (nI i) x = runD k (nI N) (nI (i + 1)) (fX4_step x) := by (rw [runD_s, if_neg c_30, if_pos c_37, if_pos c_41, nI_1] <;> rfl)
          rw [e9] at hok ⊢
          exact ih (i + 1) (by omega) (by omega) (fX4_step x) hok H _ ls hP hD hS hl
        · exact absurd hok (by rw [runD_s, if_neg c_30, if_pos c_37, if_neg c_41]; exact bool_ne)
def fX4_run (p0 : Int32) (x : St) : Int32 × Int32 × St := if p0 < (1 : Int32) then
    ((1 : Int32), 0, x)
  else
    if p0 ≤ (1000 : Int32) then
      if okfX4_refuseBeyondLimit x = true then
        (if (runD 1001 p0 0 x).1 = true then (2 : Int32) else (0 : Int32), (runD 1001 p0 0 x).2)
      else
        ((2 : Int32), 0, x)
    else
      ((1 : Int32), 0, x)
set_option maxHeartbeats 4000000 in
set_option maxRecDepth 100000 in
theorem mX4_run (l : Launch) (dC : Nat → ClassId) (dI : Nat → Nat → Nat) (aH aM aW aC aR iW iR : Nat) (sz : Nat) (x : St) (p0 : Int32) (hok : (fX4_run p0 x).1 = 0) : Met l yX4_run wsX4_run ({ frames := 6, cells := 0, slots := 0, locals := 134 }) (va_Pc [.ref aH, .int p0] (kM (dC, dI) [(iW, .int), (iR, .int)] NW (wD aH aM aW aC aR iW iR x) sz)) (va_Qi (fun r u => r = (fX4_run p0 x).2.1 ∧ u = (fX4_run p0 x).2.2) (fun u t => va_P (dC, dI) vwCl (wD aH aM aW aC aR iW iR u) t.heap) (va_A (wD aH aM aW aC aR iW iR x) sz)) 0 0 (va_A (wD aH aM aW aC aR iW iR x) sz) := by
  refine Met.ofW (cc := cX4_run) (maxL := 3) (ret := (some .int)) (by decide) rfl ?_
  intro p e s m args below meth c s₁ B hml hv
  obtain ⟨rfl, hsz, hD0, hP, hK, hN⟩ := hv
  have hx := B.exec
  have hb := B.bytes
  have hr := B.returns
  have hB := fun (w : Cond) (h : w ∈ BIG) => atoms_spec (ws := wsX4_run) B.pre w (List.mem_cons_of_mem _ h)
  have hown : s.vm.findClass RX4 = some m.cls := findClass_of_methodNamed B.named
  have hlocks := B.notSynchronized
  subst hsz
  have hD := hD0.self (sz := s.heap.size)
  generalize hAe : va_A (wD aH aM aW aC aR iW iR x) s.heap.size = A at hD ⊢
  have hA : ∀ q : Nat, s.heap.size ≤ q → A q := fun q h => by rw [← hAe]; exact Or.inr h
  have hS : va_S A s.heap s.heap [] := va_S.rf
  have hl := lv_entry ([.ref aH, .int p0]) (n := 3) (Nat.le_of_ble_eq_true rfl)
  rw [lg_entry_eq]
  generalize (lg_sl ([.ref aH, .int p0]) ++ List.replicate (3 - (lg_sl ([.ref aH, .int p0])).length) Slot.unset).toArray = ls at hl ⊢
  have hl : lv_has ls 3 [(0, .ref aH), (1, .int p0)] := hl
  refine lv_iload_n hx hb dX4_run_0 rfl (lv_at hl 1 rfl) ?_
  refine lv_iconst (v := 1) hx hb dX4_run_1 (by decide) ?_
  refine lv_icmp_lt (tgt := 12) hx hb dX4_run_2 (by decide) (fun c_2 => ?_) (fun c_2 => ?_)
  · exact absurd hok (by unfold fX4_run; rw [if_pos c_2]; exact code_ne (by decide))
  · refine lv_iload_n hx hb dX4_run_5 rfl (lv_at hl 1 rfl) ?_
    refine lv_sipush (v := 1000) hx hb dX4_run_6 (by decide) ?_
    refine lv_icmp_le (tgt := 22) hx hb dX4_run_9 (by decide) (fun c_9 => ?_) (fun c_9 => ?_)
    · refine lv_aload_n hx hb dX4_run_22 rfl (lv_at hl 0 rfl) ?_
      by_cases c_23 : okfX4_refuseBeyondLimit x = true
      · refine k_rv (va_runV (As := []) (rest := []) ⟨hx, hb, hml, hown, hB⟩ (mX4_refuseBeyondLimit l dC dI aH aM aW aC aR iW iR x c_23) (cwV 0 hB (gV q_t1_220 q_t1_222 q_s_6 q_t1_1 wX4_refuseBeyondLimit) rfl rfl rfl hX4_refuseBeyondLimit ⟨Nat.le_of_ble_eq_true rfl, Nat.le_of_ble_eq_true rfl⟩) ⟨kP_blind NW_blind, va_recv hK hP (ci := 2) (q0 := 0) rfl rfl, kP_pre NW_warm hP hK hN⟩ rfl rfl hl.1 rfl (lv_room (Nat.le_of_ble_eq_true rfl)) dX4_run_23 ⟨Nat.zero_le _, Nat.zero_le _⟩) ?_
        refine lv_iconst (v := 0) hx hb dX4_run_26 (by decide) ?_
        refine lv_istore_n (lv' := [(2, .int (0 : Int32)), (0, .ref aH), (1, .int p0)]) hx hb dX4_run_27 rfl hl (by decide) rfl (fun ls hl => ?_)
        obtain ⟨N, hN9, rfl⟩ := nI_of2 (M := 1000) (n := 1000) (by decide) (fun q => c_2 (Int32.lt_trans q (by decide))) c_9
        have hl : lv_has ls 3 [(0, .ref aH), (1, .int (nI N)), (2, .int (nI 0))] := by rw [nI_0]; exact lv_sub hl [1, 2, 0] rfl
        have e9 : fX4_run (nI N) x = (if (runD 1001 (nI N) (nI 0) x).1 = true then (2 : Int32) else (0 : Int32), (runD 1001 (nI N) (nI 0) x).2) := by (unfold fX4_run; rw [if_neg c_2, if_pos c_9, if_pos c_23, nI_0] <;> rfl)
        rw [e9] at hok ⊢
        have hok := run_ok hok
        exact runD_loop hx hb hr hlocks hml hown hB hK hN hA N hN9 1001 0 (by omega) (by omega) x hok s.heap _ ls hP hD hS hl
      · exact absurd hok (by unfold fX4_run; rw [if_neg c_2, if_pos c_9, if_neg c_23]; exact code_ne (by decide))
    · exact absurd hok (by unfold fX4_run; rw [if_neg c_2, if_neg c_9]; exact code_ne (by decide))
