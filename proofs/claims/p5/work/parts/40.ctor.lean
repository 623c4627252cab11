set_option maxHeartbeats 4000000 in
set_option maxRecDepth 100000 in
theorem mX3_init (l : Launch) (dC : Nat → ClassId) (dI : Nat → Nat → Nat) (aM sz : Nat) : Met l yX3_init wsX3_init ({ frames := 1, cells := 1, slots := 1024, locals := 12 }) (va_Pc [.ref aM] (kM (dC, dI) [] NT [(aM, .inr (1, [.null]))] sz)) (va_Qv (fun _ : Nat × Nat => True) (fun u t => va_P (dC, dI) vwCl [(aM, .inr (1, [.ref u.1])), (u.1, .inl (u.2, 1024, .inl (fun _ => 0)))] t.heap ∧ va_K (dC, dI) vwCl [(u.2, .int)] t ∧ va_D (va_A [(aM, .inr (1, [.null]))] sz) [(aM, .inr (1, [.ref u.1])), (u.1, .inl (u.2, 1024, .inl (fun _ => 0)))]) (va_A [(aM, .inr (1, [.null]))] sz)) 1 1024 (va_A [(aM, .inr (1, [.null]))] sz) := by
  refine Met.ofW (cc := cX3_init) (maxL := 1) (ret := none) (by decide) rfl ?_
  intro p e s m args below meth c s₁ B hml hv
  obtain ⟨rfl, hsz, hD0, hP, hK, hN⟩ := hv
  have hx := B.exec
  have hb := B.bytes
  have hr := B.returns
  have hB := fun (w : Cond) (h : w ∈ BIG) => atoms_spec (ws := wsX3_init) B.pre w (List.mem_cons_of_mem _ h)
  have hown : s.vm.findClass RX3 = some m.cls := findClass_of_methodNamed B.named
  have hlocks := B.notSynchronized
  have hin : meth.name = "<init>" := (name_of_methodNamed B.named B.method).1
  subst hsz
  have hD := hD0.self (sz := s.heap.size)
  generalize hAe : va_A [(aM, .inr (1, [.null]))] s.heap.size = A at hD ⊢
  have hA : ∀ q : Nat, s.heap.size ≤ q → A q := fun q h => by rw [← hAe]; exact Or.inr h
  have hS : va_S A s.heap s.heap [] := va_S.rf
  have hl := lv_entry ([.ref aM]) (n := 1) (Nat.le_of_ble_eq_true rfl)
  rw [lg_entry_eq]
  generalize (lg_sl ([.ref aM]) ++ List.replicate (1 - (lg_sl ([.ref aM])).length) Slot.unset).toArray = ls at hl ⊢
  have hl : lv_has ls 1 [(0, .ref aM)] := hl
  refine lv_aload_n hx hb dX3_init_0 rfl (lv_at hl 0 rfl) ?_
  refine W.objInit hx hb hown (hB _ q_t1_27) (hB _ q_t1_20) (hB _ q_t1_21) rfl (by rw [hml]; exact hl.1) rfl dX3_init_1 (Nat.le_of_ble_eq_true rfl) (Nat.le_of_ble_eq_true rfl) ?_
  refine W.eq (g2 := F0 m 4 ls []) rfl ?_
  refine lv_aload_n hx hb dX3_init_4 rfl (lv_at hl 0 rfl) ?_
  refine lv_sipush (v := 1024) hx hb dX3_init_5 (by decide) ?_
  refine va_newa (atype := .int) (N' := 1024) (a0 := (1024, .inl (fun _ => 0))) (ty := .int) hx hb (hB _ q_t1_32) rfl hK hP hD hS hA (fun _ => rfl) (by decide) (by decide) (by decide) (Nat.le_of_ble_eq_true rfl) (Nat.le_of_ble_eq_true rfl) dX3_init_8 (fun q cA H hK hP hD hS => ?_)
  have hP : va_P (dC, dI) vwCl [(aM, .inr (1, [.null])), (q, .inl (cA, 1024, .inl (fun _ => 0)))] H := hP
  have hD : va_D A [(aM, .inr (1, [.null])), (q, .inl (cA, 1024, .inl (fun _ => 0)))] := hD
  have hK : va_K (dC, dI) vwCl [(cA, .int)] s := hK
  refine W.widen (k := 1) (n := 1024) (by omega) (by omega) ?_
  refine va_putF (D := (dC, dI)) (ci := 1) (v := .ref q) (ty := .array .int) (C := RX3) (T := TX3) (N := 1) hx hb hB iX3 tyX3 tyX3_ok nmX3 hown hK hP hD hS 0 rfl rfl 0 (by decide) (hB _ q_t1_28) (fun _ h9 => h9) rfl hin rfl (by decide +kernel) rfl rfl (Nat.le_of_ble_eq_true rfl) dX3_init_10 (fun H locs hP hD hS => ?_)
  have hP : va_P (dC, dI) vwCl [(aM, .inr (1, [.ref q])), (q, .inl (cA, 1024, .inl (fun _ => 0)))] H := hP
  have hD : va_D A [(aM, .inr (1, [.ref q])), (q, .inl (cA, 1024, .inl (fun _ => 0)))] := hD
  exact W.vret hx hb hr (fun t ht hW => ⟨⟨(q, cA), rfl, trivial, hpT ht hP, va_K.moved hW.alike hK, hD⟩, hS.F ht⟩) hS.2.2 dX3_init_13
set_option maxHeartbeats 4000000 in
set_option maxRecDepth 100000 in
theorem mX2_init (l : Launch) (dC : Nat → ClassId) (dI : Nat → Nat → Nat) (aC sz : Nat) : Met l yX2_init wsX2_init ({ frames := 1, cells := 0, slots := 0, locals := 12 }) (va_Pc [.ref aC] (kM (dC, dI) [] NT [(aC, .inr (0, [.int 0, .int 0, .int 0, .int 0, .int 0, .int 0, .int 0, .int 0, .int 0]))] sz)) (va_Qv (fun _ : Unit => True) (fun _ t => va_P (dC, dI) vwCl [(aC, .inr (0, [.int 0, .int 0, .int 0, .int 0, .int 0, .int 0, .int 0, .int 0, .int 0]))] t.heap) (va_A [(aC, .inr (0, [.int 0, .int 0, .int 0, .int 0, .int 0, .int 0, .int 0, .int 0, .int 0]))] sz)) 0 0 (va_A [(aC, .inr (0, [.int 0, .int 0, .int 0, .int 0, .int 0, .int 0, .int 0, .int 0, .int 0]))] sz) := by
  refine Met.ofW (cc := cX2_init) (maxL := 1) (ret := none) (by decide) rfl ?_
  intro p e s m args below meth c s₁ B hml hv
  obtain ⟨rfl, hsz, hD0, hP, hK, hN⟩ := hv
  have hx := B.exec
  have hb := B.bytes
  have hr := B.returns
  have hB := fun (w : Cond) (h : w ∈ BIG) => atoms_spec (ws := wsX2_init) B.pre w (List.mem_cons_of_mem _ h)
  have hown : s.vm.findClass RX2 = some m.cls := findClass_of_methodNamed B.named
  have hlocks := B.notSynchronized
  have hin : meth.name = "<init>" := (name_of_methodNamed B.named B.method).1
  subst hsz
  have hD := hD0.self (sz := s.heap.size)
  generalize hAe : va_A [(aC, .inr (0, [.int 0, .int 0, .int 0, .int 0, .int 0, .int 0, .int 0, .int 0, .int 0]))] s.heap.size = A at hD ⊢
  have hA : ∀ q : Nat, s.heap.size ≤ q → A q := fun q h => by rw [← hAe]; exact Or.inr h
  have hS : va_S A s.heap s.heap [] := va_S.rf
  have hl := lv_entry ([.ref aC]) (n := 1) (Nat.le_of_ble_eq_true rfl)
  rw [lg_entry_eq]
  generalize (lg_sl ([.ref aC]) ++ List.replicate (1 - (lg_sl ([.ref aC])).length) Slot.unset).toArray = ls at hl ⊢
  have hl : lv_has ls 1 [(0, .ref aC)] := hl
  refine lv_aload_n hx hb dX2_init_0 rfl (lv_at hl 0 rfl) ?_
  refine W.objInit hx hb hown (hB _ q_t1_38) (hB _ q_t1_20) (hB _ q_t1_21) rfl (by rw [hml]; exact hl.1) rfl dX2_init_1 (Nat.le_of_ble_eq_true rfl) (Nat.le_of_ble_eq_true rfl) ?_
  refine W.eq (g2 := F0 m 4 ls []) rfl ?_
  exact W.vret hx hb hr (fun t ht hW => ⟨⟨(), rfl, trivial, hpT ht hP⟩, hS.F ht⟩) hS.2.2 dX2_init_4
def x00 : St := (0, false, 0, 0, (fun _ => 0), (fun _ => 0), 0, 0, 0, 0, 0, 0, 0, 0, false)
set_option maxHeartbeats 4000000 in
set_option maxRecDepth 100000 in
theorem mX4_init (l : Launch) (dC : Nat → ClassId) (dI : Nat → Nat → Nat) (aH sz : Nat) : Met l yX4_init wsX4_init ({ frames := 2, cells := 4, slots := 1066, locals := 32 }) (va_Pc [.ref aH] (kM (dC, dI) [] NW [(aH, .inr (2, [.null, .null, .null, .int 0, .int 0, .int 0, .int 0]))] sz)) (va_Qv (fun _ : Nat × Nat × Nat × Nat × Nat × Nat => True) (fun u t => va_P (dC, dI) vwCl (wD aH u.1 u.2.1 u.2.2.1 u.2.2.2.1 u.2.2.2.2.1 u.2.2.2.2.2 x00) t.heap ∧ va_K (dC, dI) vwCl [(u.2.2.2.2.1, .int), (u.2.2.2.2.2, .int)] t ∧ va_D (va_A [(aH, .inr (2, [.null, .null, .null, .int 0, .int 0, .int 0, .int 0]))] sz) (wD aH u.1 u.2.1 u.2.2.1 u.2.2.2.1 u.2.2.2.2.1 u.2.2.2.2.2 x00)) (va_A [(aH, .inr (2, [.null, .null, .null, .int 0, .int 0, .int 0, .int 0]))] sz)) 4 1066 (va_A [(aH, .inr (2, [.null, .null, .null, .int 0, .int 0, .int 0, .int 0]))] sz) := by
  refine Met.ofW (cc := cX4_init) (maxL := 1) (ret := none) (by decide) rfl ?_
  intro p e s m args below meth c s₁ B hml hv
  obtain ⟨rfl, hsz, hD0, hP, hK, hN⟩ := hv
  have hx := B.exec
  have hb := B.bytes
  have hr := B.returns
  have hB := fun (w : Cond) (h : w ∈ BIG) => atoms_spec (ws := wsX4_init) B.pre w (List.mem_cons_of_mem _ h)
  have hown : s.vm.findClass RX4 = some m.cls := findClass_of_methodNamed B.named
  have hlocks := B.notSynchronized
  have hin : meth.name = "<init>" := (name_of_methodNamed B.named B.method).1
  subst hsz
  have hD := hD0.self (sz := s.heap.size)
  generalize hAe : va_A [(aH, .inr (2, [.null, .null, .null, .int 0, .int 0, .int 0, .int 0]))] s.heap.size = A at hD ⊢
  have hA : ∀ q : Nat, s.heap.size ≤ q → A q := fun q h => by rw [← hAe]; exact Or.inr h
  have hS : va_S A s.heap s.heap [] := va_S.rf
  have hl := lv_entry ([.ref aH]) (n := 1) (Nat.le_of_ble_eq_true rfl)
  rw [lg_entry_eq]
  generalize (lg_sl ([.ref aH]) ++ List.replicate (1 - (lg_sl ([.ref aH])).length) Slot.unset).toArray = ls at hl ⊢
  have hl : lv_has ls 1 [(0, .ref aH)] := hl
  refine lv_aload_n hx hb dX4_init_0 rfl (lv_at hl 0 rfl) ?_
  refine W.objInit hx hb hown (hB _ q_t1_19) (hB _ q_t1_20) (hB _ q_t1_21) rfl (by rw [hml]; exact hl.1) rfl dX4_init_1 (Nat.le_of_ble_eq_true rfl) (Nat.le_of_ble_eq_true rfl) ?_
  refine W.eq (g2 := F0 m 4 ls []) rfl ?_
  refine lv_aload_n hx hb dX4_init_4 rfl (lv_at hl 0 rfl) ?_
  refine va_new (ci := 1) (fs := [.null]) (C := RX3) (T := TX3) (N := 1) hx hb hB iX3 tyX3 tyX3_ok hown (hB _ q_t1_22) (hB _ q_t1_23) (hB _ q_t1_2) hK hP hD hS hA rfl (fun j hj => by rcases (show j = 0 by omega) with rfl <;> rfl) (Nat.le_of_ble_eq_true rfl) (Nat.le_of_ble_eq_true rfl) dX4_init_5 (fun aM H hP hD hS => ?_)
  have hP : va_P (dC, dI) vwCl [(aH, .inr (2, [.null, .null, .null, .int 0, .int 0, .int 0, .int 0])), (aM, .inr (1, [.null]))] H := hP
  have hD : va_D A [(aH, .inr (2, [.null, .null, .null, .int 0, .int 0, .int 0, .int 0])), (aM, .inr (1, [.null]))] := hD
  refine W.widen (k := 1) (n := 1) (by omega) (by omega) ?_
  refine lv_dup hx hb dX4_init_8 rfl ?_
  have hPc := hP.sub (ws' := [(aM, .inr (1, [.null]))]) [1] rfl
  have hDc := hD.sub (ws' := [(aM, .inr (1, [.null]))]) [1] (by decide) rfl
  have hKc := hK.sub (tys' := []) [] rfl
  have hFc := va_free (wc := [(aM, .inr (1, [.null]))]) hD hS hA [1] rfl
  refine va_callv (va_runIN (As := []) (rest := [.ref aM, .ref aH]) ⟨hx, hb, hml, hown, hB⟩ (mX3_init l dC dI aM H.size) ⟨va_cnB 0 hB (good_in wX3_init) rfl rfl rfl (hN _ (List.mem_of_getElem? (i := 0) rfl)) (hB _ q_t1_2) hX3_init.2 ⟨Nat.le_of_ble_eq_true rfl, Nat.le_of_ble_eq_true rfl⟩, rfl, hB _ q_t1_25⟩ ⟨kM_blind NT_blind, kM_pre NT_warm hPc hKc hDc trivial⟩ rfl rfl hl.1 rfl (lv_room (Nat.le_of_ble_eq_true rfl)) dX4_init_9 ⟨Nat.le_of_ble_eq_true rfl, Nat.le_of_ble_eq_true rfl⟩) hS (fun q _ h => hFc q h) hFc (fun u t H1 locs ht hvm hw hB1 hz1 hk1 hS => ?_)
  obtain ⟨aW, iW⟩ := u
  obtain ⟨hP1, hK1, hD1⟩ := hB1
  rw [ht] at hP1
  have hK1 := va_K.moved hvm.symm hK1
  obtain ⟨hP, hD⟩ := va_join (wr := [(aH, .inr (2, [.null, .null, .null, .int 0, .int 0, .int 0, .int 0]))]) (w1 := [(aM, .inr (1, [.ref aW])), (aW, .inl (iW, 1024, .inl (fun _ => 0)))]) hP hD [1] [0] rfl rfl (by decide) (by decide) hk1 hFc hP1 hD1
  have hK : va_K (dC, dI) vwCl [(iW, .int)] s := hK1
  generalize H1 = H at hP hS ⊢
  have hP := hP.sub (ws' := [(aH, .inr (2, [.null, .null, .null, .int 0, .int 0, .int 0, .int 0])), (aM, .inr (1, [.ref aW])), (aW, .inl (iW, 1024, .inl (fun _ => 0)))]) [0, 1, 2] rfl
  have hD := hD.sub (ws' := [(aH, .inr (2, [.null, .null, .null, .int 0, .int 0, .int 0, .int 0])), (aM, .inr (1, [.ref aW])), (aW, .inl (iW, 1024, .inl (fun _ => 0)))]) [0, 1, 2] (by decide) rfl
  refine W.widen (k := 2) (n := 1025) (by omega) (by omega) ?_
  refine va_putF (D := (dC, dI)) (ci := 2) (v := .ref aM) (ty := .object "HartDesk$Memory") (C := RX4) (T := TX4) (N := 7) hx hb hB iX4 tyX4 tyX4_ok nmX4 hown hK hP hD hS 0 rfl rfl 0 (by decide) (hB _ q_t1_70) (fun _ h9 => h9) rfl hin rfl (by decide +kernel) rfl rfl (Nat.le_of_ble_eq_true rfl) dX4_init_12 (fun H locs hP hD hS => ?_)
  have hP : va_P (dC, dI) vwCl [(aH, .inr (2, [.ref aM, .null, .null, .int 0, .int 0, .int 0, .int 0])), (aM, .inr (1, [.ref aW])), (aW, .inl (iW, 1024, .inl (fun _ => 0)))] H := hP
  have hD : va_D A [(aH, .inr (2, [.ref aM, .null, .null, .int 0, .int 0, .int 0, .int 0])), (aM, .inr (1, [.ref aW])), (aW, .inl (iW, 1024, .inl (fun _ => 0)))] := hD
  refine lv_aload_n hx hb dX4_init_15 rfl (lv_at hl 0 rfl) ?_
  refine va_new (ci := 0) (fs := [.int 0, .int 0, .int 0, .int 0, .int 0, .int 0, .int 0, .int 0, .int 0]) (C := RX2) (T := TX2) (N := 9) hx hb hB iX2 tyX2 tyX2_ok hown (hB _ q_t1_33) (hB _ q_t1_34) (hB _ q_t1_3) hK hP hD hS hA rfl (fun j hj => by rcases (show j = 0 ∨ j = 1 ∨ j = 2 ∨ j = 3 ∨ j = 4 ∨ j = 5 ∨ j = 6 ∨ j = 7 ∨ j = 8 by omega) with rfl | rfl | rfl | rfl | rfl | rfl | rfl | rfl | rfl <;> rfl) (Nat.le_of_ble_eq_true rfl) (Nat.le_of_ble_eq_true rfl) dX4_init_16 (fun aC H hP hD hS => ?_)
  have hP : va_P (dC, dI) vwCl [(aH, .inr (2, [.ref aM, .null, .null, .int 0, .int 0, .int 0, .int 0])), (aM, .inr (1, [.ref aW])), (aW, .inl (iW, 1024, .inl (fun _ => 0))), (aC, .inr (0, [.int 0, .int 0, .int 0, .int 0, .int 0, .int 0, .int 0, .int 0, .int 0]))] H := hP
  have hD : va_D A [(aH, .inr (2, [.ref aM, .null, .null, .int 0, .int 0, .int 0, .int 0])), (aM, .inr (1, [.ref aW])), (aW, .inl (iW, 1024, .inl (fun _ => 0))), (aC, .inr (0, [.int 0, .int 0, .int 0, .int 0, .int 0, .int 0, .int 0, .int 0, .int 0]))] := hD
  refine W.widen (k := 3) (n := 1034) (by omega) (by omega) ?_
  refine lv_dup hx hb dX4_init_19 rfl ?_
  have hPc := hP.sub (ws' := [(aC, .inr (0, [.int 0, .int 0, .int 0, .int 0, .int 0, .int 0, .int 0, .int 0, .int 0]))]) [3] rfl
  have hDc := hD.sub (ws' := [(aC, .inr (0, [.int 0, .int 0, .int 0, .int 0, .int 0, .int 0, .int 0, .int 0, .int 0]))]) [3] (by decide) rfl
  have hKc := hK.sub (tys' := []) [] rfl
  have hFc := va_free (wc := [(aC, .inr (0, [.int 0, .int 0, .int 0, .int 0, .int 0, .int 0, .int 0, .int 0, .int 0]))]) hD hS hA [3] rfl
  refine va_callv (va_runIN (As := []) (rest := [.ref aC, .ref aH]) ⟨hx, hb, hml, hown, hB⟩ (mX2_init l dC dI aC H.size) ⟨va_cnB 0 hB (good_in wX2_init) rfl rfl rfl (hN _ (List.mem_of_getElem? (i := 1) rfl)) (hB _ q_t1_3) hX2_init.2 ⟨Nat.le_of_ble_eq_true rfl, Nat.le_of_ble_eq_true rfl⟩, rfl, hB _ q_t1_36⟩ ⟨kM_blind NT_blind, kM_pre NT_warm hPc hKc hDc trivial⟩ rfl rfl hl.1 rfl (lv_room (Nat.le_of_ble_eq_true rfl)) dX4_init_20 ⟨Nat.le_of_ble_eq_true rfl, Nat.le_of_ble_eq_true rfl⟩) hS (fun q _ h => hFc q h) hFc (fun u t H1 locs ht hvm hw hB1 hz1 hk1 hS => ?_)
  have hP1 : va_P (dC, dI) vwCl [(aC, .inr (0, [.int 0, .int 0, .int 0, .int 0, .int 0, .int 0, .int 0, .int 0, .int 0]))] H1 := by rw [← ht]; exact hB1
  have hD1 : va_D (va_A [(aC, .inr (0, [.int 0, .int 0, .int 0, .int 0, .int 0, .int 0, .int 0, .int 0, .int 0]))] H.size) [(aC, .inr (0, [.int 0, .int 0, .int 0, .int 0, .int 0, .int 0, .int 0, .int 0, .int 0]))] := hDc.self (sz := H.size)
  obtain ⟨hP, hD⟩ := va_join (wr := [(aH, .inr (2, [.ref aM, .null, .null, .int 0, .int 0, .int 0, .int 0])), (aM, .inr (1, [.ref aW])), (aW, .inl (iW, 1024, .inl (fun _ => 0)))]) (w1 := [(aC, .inr (0, [.int 0, .int 0, .int 0, .int 0, .int 0, .int 0, .int 0, .int 0, .int 0]))]) hP hD [3] [0, 1, 2] rfl rfl (by decide) (by decide) hk1 hFc hP1 hD1
  have hK : va_K (dC, dI) vwCl [(iW, .int)] s := hK
  generalize H1 = H at hP hS ⊢
  have hP := hP.sub (ws' := [(aH, .inr (2, [.ref aM, .null, .null, .int 0, .int 0, .int 0, .int 0])), (aM, .inr (1, [.ref aW])), (aW, .inl (iW, 1024, .inl (fun _ => 0))), (aC, .inr (0, [.int 0, .int 0, .int 0, .int 0, .int 0, .int 0, .int 0, .int 0, .int 0]))]) [0, 1, 2, 3] rfl
  have hD := hD.sub (ws' := [(aH, .inr (2, [.ref aM, .null, .null, .int 0, .int 0, .int 0, .int 0])), (aM, .inr (1, [.ref aW])), (aW, .inl (iW, 1024, .inl (fun _ => 0))), (aC, .inr (0, [.int 0, .int 0, .int 0, .int 0, .int 0, .int 0, .int 0, .int 0, .int 0]))]) [0, 1, 2, 3] (by decide) rfl
  refine W.widen (k := 3) (n := 1034) (by omega) (by omega) ?_
  refine va_putF (D := (dC, dI)) (ci := 2) (v := .ref aC) (ty := .object "HartDesk$Controls") (C := RX4) (T := TX4) (N := 7) hx hb hB iX4 tyX4 tyX4_ok nmX4 hown hK hP hD hS 0 rfl rfl 1 (by decide) (hB _ q_t1_71) (fun _ h9 => h9) rfl hin rfl (by decide +kernel) rfl rfl (Nat.le_of_ble_eq_true rfl) dX4_init_23 (fun H locs hP hD hS => ?_)
  have hP : va_P (dC, dI) vwCl [(aH, .inr (2, [.ref aM, .ref aC, .null, .int 0, .int 0, .int 0, .int 0])), (aM, .inr (1, [.ref aW])), (aW, .inl (iW, 1024, .inl (fun _ => 0))), (aC, .inr (0, [.int 0, .int 0, .int 0, .int 0, .int 0, .int 0, .int 0, .int 0, .int 0]))] H := hP
  have hD : va_D A [(aH, .inr (2, [.ref aM, .ref aC, .null, .int 0, .int 0, .int 0, .int 0])), (aM, .inr (1, [.ref aW])), (aW, .inl (iW, 1024, .inl (fun _ => 0))), (aC, .inr (0, [.int 0, .int 0, .int 0, .int 0, .int 0, .int 0, .int 0, .int 0, .int 0]))] := hD
  refine lv_aload_n hx hb dX4_init_26 rfl (lv_at hl 0 rfl) ?_
  refine lv_bipush (v := 32) hx hb dX4_init_27 (by decide) ?_
  refine va_newa (atype := .int) (N' := 32) (a0 := (32, .inl (fun _ => 0))) (ty := .int) hx hb (hB _ q_t1_32) rfl hK hP hD hS hA (fun _ => rfl) (by decide) (by decide) (by decide) (Nat.le_of_ble_eq_true rfl) (Nat.le_of_ble_eq_true rfl) dX4_init_29 (fun aR iR H hK hP hD hS => ?_)
  have hP : va_P (dC, dI) vwCl [(aH, .inr (2, [.ref aM, .ref aC, .null, .int 0, .int 0, .int 0, .int 0])), (aM, .inr (1, [.ref aW])), (aW, .inl (iW, 1024, .inl (fun _ => 0))), (aC, .inr (0, [.int 0, .int 0, .int 0, .int 0, .int 0, .int 0, .int 0, .int 0, .int 0])), (aR, .inl (iR, 32, .inl (fun _ => 0)))] H := hP
  have hD : va_D A [(aH, .inr (2, [.ref aM, .ref aC, .null, .int 0, .int 0, .int 0, .int 0])), (aM, .inr (1, [.ref aW])), (aW, .inl (iW, 1024, .inl (fun _ => 0))), (aC, .inr (0, [.int 0, .int 0, .int 0, .int 0, .int 0, .int 0, .int 0, .int 0, .int 0])), (aR, .inl (iR, 32, .inl (fun _ => 0)))] := hD
  have hK : va_K (dC, dI) vwCl [(iW, .int), (iR, .int)] s := hK
  refine W.widen (k := 4) (n := 1066) (by omega) (by omega) ?_
  refine va_putF (D := (dC, dI)) (ci := 2) (v := .ref aR) (ty := .array .int) (C := RX4) (T := TX4) (N := 7) hx hb hB iX4 tyX4 tyX4_ok nmX4 hown hK hP hD hS 0 rfl rfl 2 (by decide) (hB _ q_t1_72) (fun _ h9 => h9) rfl hin rfl (by decide +kernel) rfl rfl (Nat.le_of_ble_eq_true rfl) dX4_init_31 (fun H locs hP hD hS => ?_)
  have hP : va_P (dC, dI) vwCl [(aH, .inr (2, [.ref aM, .ref aC, .ref aR, .int 0, .int 0, .int 0, .int 0])), (aM, .inr (1, [.ref aW])), (aW, .inl (iW, 1024, .inl (fun _ => 0))), (aC, .inr (0, [.int 0, .int 0, .int 0, .int 0, .int 0, .int 0, .int 0, .int 0, .int 0])), (aR, .inl (iR, 32, .inl (fun _ => 0)))] H := hP
  have hD : va_D A [(aH, .inr (2, [.ref aM, .ref aC, .ref aR, .int 0, .int 0, .int 0, .int 0])), (aM, .inr (1, [.ref aW])), (aW, .inl (iW, 1024, .inl (fun _ => 0))), (aC, .inr (0, [.int 0, .int 0, .int 0, .int 0, .int 0, .int 0, .int 0, .int 0, .int 0])), (aR, .inl (iR, 32, .inl (fun _ => 0)))] := hD
  exact W.vret hx hb hr (fun t ht hW => ⟨⟨(aM, aW, aC, aR, iW, iR), rfl, trivial, hpT ht hP, va_K.moved hW.alike hK, hD⟩, hS.F ht⟩) hS.2.2 dX4_init_34
def y00 : SR := (0, 0, false, false, 0, 0, 0, 0, false, 0, 0, 0, (fun _ => 0), (fun _ => 0), (fun _ => 0))
set_option maxHeartbeats 4000000 in
set_option maxRecDepth 100000 in
theorem mX5_init (l : Launch) (dC : Nat → ClassId) (dI : Nat → Nat → Nat) (bH sz : Nat) : Met l yX5_init wsX5_init ({ frames := 1, cells := 3, slots := 1065, locals := 12 }) (va_Pc [.ref bH] (kM (dC, dI) [] NT [(bH, .inr (3, [.int 0, .null, .null, .int 0, .null, .int 0, .int 0, .int 0, .int 0, .int 0, .int 0, .int 0, .int 0, .int 0, .int 0]))] sz)) (va_Qv (fun _ : Nat × Nat × Nat × Nat × Nat × Nat => True) (fun u t => va_P (dC, dI) vwCl (wR bH u.1 u.2.1 u.2.2.1 u.2.2.2.1 u.2.2.2.2.1 u.2.2.2.2.2 y00) t.heap ∧ va_K (dC, dI) vwCl [(u.2.2.2.1, .int), (u.2.2.2.2.1, .int), (u.2.2.2.2.2, .int)] t ∧ va_D (va_A [(bH, .inr (3, [.int 0, .null, .null, .int 0, .null, .int 0, .int 0, .int 0, .int 0, .int 0, .int 0, .int 0, .int 0, .int 0, .int 0]))] sz) (wR bH u.1 u.2.1 u.2.2.1 u.2.2.2.1 u.2.2.2.2.1 u.2.2.2.2.2 y00)) (va_A [(bH, .inr (3, [.int 0, .null, .null, .int 0, .null, .int 0, .int 0, .int 0, .int 0, .int 0, .int 0, .int 0, .int 0, .int 0, .int 0]))] sz)) 3 1065 (va_A [(bH, .inr (3, [.int 0, .null, .null, .int 0, .null, .int 0, .int 0, .int 0, .int 0, .int 0, .int 0, .int 0, .int 0, .int 0, .int 0]))] sz) := by
  refine Met.ofW (cc := cX5_init) (maxL := 1) (ret := none) (by decide) rfl ?_
  intro p e s m args below meth c s₁ B hml hv
  obtain ⟨rfl, hsz, hD0, hP, hK, hN⟩ := hv
  have hx := B.exec
  have hb := B.bytes
  have hr := B.returns
  have hB := fun (w : Cond) (h : w ∈ BIG) => atoms_spec (ws := wsX5_init) B.pre w (List.mem_cons_of_mem _ h)
  have hown : s.vm.findClass RX5 = some m.cls := findClass_of_methodNamed B.named
  have hlocks := B.notSynchronized
  have hin : meth.name = "<init>" := (name_of_methodNamed B.named B.method).1
  subst hsz
  have hD := hD0.self (sz := s.heap.size)
  generalize hAe : va_A [(bH, .inr (3, [.int 0, .null, .null, .int 0, .null, .int 0, .int 0, .int 0, .int 0, .int 0, .int 0, .int 0, .int 0, .int 0, .int 0]))] s.heap.size = A at hD ⊢
  have hA : ∀ q : Nat, s.heap.size ≤ q → A q := fun q h => by rw [← hAe]; exact Or.inr h
  have hS : va_S A s.heap s.heap [] := va_S.rf
  have hl := lv_entry ([.ref bH]) (n := 1) (Nat.le_of_ble_eq_true rfl)
  rw [lg_entry_eq]
  generalize (lg_sl ([.ref bH]) ++ List.replicate (1 - (lg_sl ([.ref bH])).length) Slot.unset).toArray = ls at hl ⊢
  have hl : lv_has ls 1 [(0, .ref bH)] := hl
  refine lv_aload_n hx hb dX5_init_0 rfl (lv_at hl 0 rfl) ?_
  refine W.objInit hx hb hown (hB _ q_t2_230) (hB _ q_t1_20) (hB _ q_t1_21) rfl (by rw [hml]; exact hl.1) rfl dX5_init_1 (Nat.le_of_ble_eq_true rfl) (Nat.le_of_ble_eq_true rfl) ?_
  refine W.eq (g2 := F0 m 4 ls []) rfl ?_
  refine lv_aload_n hx hb dX5_init_4 rfl (lv_at hl 0 rfl) ?_
  refine lv_sipush (v := 1024) hx hb dX5_init_5 (by decide) ?_
  refine va_newa (atype := .int) (N' := 1024) (a0 := (1024, .inl (fun _ => 0))) (ty := .int) hx hb (hB _ q_t1_32) rfl hK hP hD hS hA (fun _ => rfl) (by decide) (by decide) (by decide) (Nat.le_of_ble_eq_true rfl) (Nat.le_of_ble_eq_true rfl) dX5_init_8 (fun bM jM H hK hP hD hS => ?_)
  have hP : va_P (dC, dI) vwCl [(bH, .inr (3, [.int 0, .null, .null, .int 0, .null, .int 0, .int 0, .int 0, .int 0, .int 0, .int 0, .int 0, .int 0, .int 0, .int 0])), (bM, .inl (jM, 1024, .inl (fun _ => 0)))] H := hP
  have hD : va_D A [(bH, .inr (3, [.int 0, .null, .null, .int 0, .null, .int 0, .int 0, .int 0, .int 0, .int 0, .int 0, .int 0, .int 0, .int 0, .int 0])), (bM, .inl (jM, 1024, .inl (fun _ => 0)))] := hD
  have hK : va_K (dC, dI) vwCl [(jM, .int)] s := hK
  refine W.widen (k := 1) (n := 1024) (by omega) (by omega) ?_
  refine va_putF (D := (dC, dI)) (ci := 3) (v := .ref bM) (ty := .array .int) (C := RX5) (T := TX5) (N := 15) hx hb hB iX5 tyX5 tyX5_ok nmX5 hown hK hP hD hS 0 rfl rfl 1 (by decide) (hB _ q_t2_232) (fun _ h9 => h9) rfl hin rfl (by decide +kernel) rfl rfl (Nat.le_of_ble_eq_true rfl) dX5_init_10 (fun H locs hP hD hS => ?_)
  have hP : va_P (dC, dI) vwCl [(bH, .inr (3, [.int 0, .ref bM, .null, .int 0, .null, .int 0, .int 0, .int 0, .int 0, .int 0, .int 0, .int 0, .int 0, .int 0, .int 0])), (bM, .inl (jM, 1024, .inl (fun _ => 0)))] H := hP
  have hD : va_D A [(bH, .inr (3, [.int 0, .ref bM, .null, .int 0, .null, .int 0, .int 0, .int 0, .int 0, .int 0, .int 0, .int 0, .int 0, .int 0, .int 0])), (bM, .inl (jM, 1024, .inl (fun _ => 0)))] := hD
  refine lv_aload_n hx hb dX5_init_13 rfl (lv_at hl 0 rfl) ?_
  refine lv_bipush (v := 32) hx hb dX5_init_14 (by decide) ?_
  refine va_newa (atype := .int) (N' := 32) (a0 := (32, .inl (fun _ => 0))) (ty := .int) hx hb (hB _ q_t1_32) rfl hK hP hD hS hA (fun _ => rfl) (by decide) (by decide) (by decide) (Nat.le_of_ble_eq_true rfl) (Nat.le_of_ble_eq_true rfl) dX5_init_16 (fun bR jR H hK hP hD hS => ?_)
  have hP : va_P (dC, dI) vwCl [(bH, .inr (3, [.int 0, .ref bM, .null, .int 0, .null, .int 0, .int 0, .int 0, .int 0, .int 0, .int 0, .int 0, .int 0, .int 0, .int 0])), (bM, .inl (jM, 1024, .inl (fun _ => 0))), (bR, .inl (jR, 32, .inl (fun _ => 0)))] H := hP
  have hD : va_D A [(bH, .inr (3, [.int 0, .ref bM, .null, .int 0, .null, .int 0, .int 0, .int 0, .int 0, .int 0, .int 0, .int 0, .int 0, .int 0, .int 0])), (bM, .inl (jM, 1024, .inl (fun _ => 0))), (bR, .inl (jR, 32, .inl (fun _ => 0)))] := hD
  have hK : va_K (dC, dI) vwCl [(jM, .int), (jR, .int)] s := hK
  refine W.widen (k := 2) (n := 1056) (by omega) (by omega) ?_
  refine va_putF (D := (dC, dI)) (ci := 3) (v := .ref bR) (ty := .array .int) (C := RX5) (T := TX5) (N := 15) hx hb hB iX5 tyX5 tyX5_ok nmX5 hown hK hP hD hS 0 rfl rfl 2 (by decide) (hB _ q_t2_233) (fun _ h9 => h9) rfl hin rfl (by decide +kernel) rfl rfl (Nat.le_of_ble_eq_true rfl) dX5_init_18 (fun H locs hP hD hS => ?_)
  have hP : va_P (dC, dI) vwCl [(bH, .inr (3, [.int 0, .ref bM, .ref bR, .int 0, .null, .int 0, .int 0, .int 0, .int 0, .int 0, .int 0, .int 0, .int 0, .int 0, .int 0])), (bM, .inl (jM, 1024, .inl (fun _ => 0))), (bR, .inl (jR, 32, .inl (fun _ => 0)))] H := hP
  have hD : va_D A [(bH, .inr (3, [.int 0, .ref bM, .ref bR, .int 0, .null, .int 0, .int 0, .int 0, .int 0, .int 0, .int 0, .int 0, .int 0, .int 0, .int 0])), (bM, .inl (jM, 1024, .inl (fun _ => 0))), (bR, .inl (jR, 32, .inl (fun _ => 0)))] := hD
  refine lv_aload_n hx hb dX5_init_21 rfl (lv_at hl 0 rfl) ?_
  refine lv_bipush (v := 9) hx hb dX5_init_22 (by decide) ?_
  refine va_newa (atype := .int) (N' := 9) (a0 := (9, .inl (fun _ => 0))) (ty := .int) hx hb (hB _ q_t1_32) rfl hK hP hD hS hA (fun _ => rfl) (by decide) (by decide) (by decide) (Nat.le_of_ble_eq_true rfl) (Nat.le_of_ble_eq_true rfl) dX5_init_24 (fun bC jC H hK hP hD hS => ?_)
  have hP : va_P (dC, dI) vwCl [(bH, .inr (3, [.int 0, .ref bM, .ref bR, .int 0, .null, .int 0, .int 0, .int 0, .int 0, .int 0, .int 0, .int 0, .int 0, .int 0, .int 0])), (bM, .inl (jM, 1024, .inl (fun _ => 0))), (bR, .inl (jR, 32, .inl (fun _ => 0))), (bC, .inl (jC, 9, .inl (fun _ => 0)))] H := hP
  have hD : va_D A [(bH, .inr (3, [.int 0, .ref bM, .ref bR, .int 0, .null, .int 0, .int 0, .int 0, .int 0, .int 0, .int 0, .int 0, .int 0, .int 0, .int 0])), (bM, .inl (jM, 1024, .inl (fun _ => 0))), (bR, .inl (jR, 32, .inl (fun _ => 0))), (bC, .inl (jC, 9, .inl (fun _ => 0)))] := hD
  have hK : va_K (dC, dI) vwCl [(jM, .int), (jR, .int), (jC, .int)] s := hK
  refine W.widen (k := 3) (n := 1065) (by omega) (by omega) ?_
  refine va_putF (D := (dC, dI)) (ci := 3) (v := .ref bC) (ty := .array .int) (C := RX5) (T := TX5) (N := 15) hx hb hB iX5 tyX5 tyX5_ok nmX5 hown hK hP hD hS 0 rfl rfl 4 (by decide) (hB _ q_t2_235) (fun _ h9 => h9) rfl hin rfl (by decide +kernel) rfl rfl (Nat.le_of_ble_eq_true rfl) dX5_init_26 (fun H locs hP hD hS => ?_)
  have hP : va_P (dC, dI) vwCl [(bH, .inr (3, [.int 0, .ref bM, .ref bR, .int 0, .ref bC, .int 0, .int 0, .int 0, .int 0, .int 0, .int 0, .int 0, .int 0, .int 0, .int 0])), (bM, .inl (jM, 1024, .inl (fun _ => 0))), (bR, .inl (jR, 32, .inl (fun _ => 0))), (bC, .inl (jC, 9, .inl (fun _ => 0)))] H := hP
  have hD : va_D A [(bH, .inr (3, [.int 0, .ref bM, .ref bR, .int 0, .ref bC, .int 0, .int 0, .int 0, .int 0, .int 0, .int 0, .int 0, .int 0, .int 0, .int 0])), (bM, .inl (jM, 1024, .inl (fun _ => 0))), (bR, .inl (jR, 32, .inl (fun _ => 0))), (bC, .inl (jC, 9, .inl (fun _ => 0)))] := hD
  exact W.vret hx hb hr (fun t ht hW => ⟨⟨(bM, bR, bC, jM, jR, jC), rfl, trivial, hpT ht hP, va_K.moved hW.alike hK, hD⟩, hS.F ht⟩) hS.2.2 dX5_init_29
