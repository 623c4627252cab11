/-! the start of a method that may throw -/
def kX (D : va_G) (tys : List (ClassId × FieldType)) (w : va_W) (U : State) : Prop := va_P D vwCl w U.heap ∧ va_K D vwCl tys U ∧ NW U ∧ TF U U.heap
def kXM (D : va_G) (tys : List (ClassId × FieldType)) (w : va_W) (sz : Nat) (U : State) : Prop := U.heap.size = sz ∧ va_D (fun _ => True) w ∧ va_P D vwCl w U.heap ∧ va_K D vwCl tys U ∧ NW U ∧ TF U U.heap
section KX
variable {D : va_G} {tys : List (ClassId × FieldType)} {w : va_W} {av : List Value} {s : State} {H : Heap}
theorem kX_blind : FrameBlind (va_Pc av (kX D tys w)) := fun a U g mk q =>
  ⟨q.1, q.2.1, va_K.moved (u := U) (U := U.calling g mk a) (Vm.Alike.refl U.vm) q.2.2.1, NW_blind U g mk a q.2.2.2.1, TF.same (u := U) (U := U.calling g mk a) rfl q.2.2.2.2⟩
theorem kXM_blind {sz : Nat} : FrameBlind (va_Pc av (kXM D tys w sz)) := fun a U g mk q =>
  ⟨q.1, q.2.1, q.2.2.1, q.2.2.2.1, va_K.moved (u := U) (U := U.calling g mk a) (Vm.Alike.refl U.vm) q.2.2.2.2.1, NW_blind U g mk a q.2.2.2.2.2.1, TF.same (u := U) (U := U.calling g mk a) rfl q.2.2.2.2.2.2⟩
theorem kX_pre (hP : va_P D vwCl w H) (hK : va_K D vwCl tys s) (hN : NW s) (hT : TF s H) : ∀ U : State, U.heap = H → s.WarmedH U.vm → va_Pc av (kX D tys w) av.toArray U :=
  fun U hU hw => ⟨rfl, by rw [hU]; exact hP, va_K.moved hw.alike hK, NW_warm U hw hN, by rw [hU]; exact hT.warm hw⟩
theorem kXM_pre {A : Nat → Prop} (hP : va_P D vwCl w H) (hK : va_K D vwCl tys s) (hD : va_D A w) (hN : NW s) (hT : TF s H) : ∀ U : State, U.heap = H → s.WarmedH U.vm → va_Pc av (kXM D tys w H.size) av.toArray U :=
  fun U hU hw => ⟨rfl, by rw [hU], hD.weaken (fun _ _ _ _ => trivial), by rw [hU]; exact hP, va_K.moved hw.alike hK, NW_warm U hw hN, by rw [hU]; exact hT.warm hw⟩
theorem x_keep {H1 : Heap} (hP : va_P D vwCl w H) (hk : ∀ q : Nat, q < H.size → H1[q]? = H[q]?) : va_P D vwCl w H1 := hP.kept fun k q hq => hk q.1 (by
  have h := hP k q hq
  unfold va_at at h
  split at h
  · exact (Array.getElem?_eq_some_iff.mp h).1
  · obtain ⟨r, -, ce, h1, -⟩ := h
    exact (Array.getElem?_eq_some_iff.mp h1).1)
end KX
theorem bool_ff {α : Type} {y : α} : ¬ (false, y).1 = true := fun h => Bool.noConfusion h
theorem code_2 {α : Type} {c : Int32} {y : α} (h : c ≠ 2) : ¬ (c, y).1 = 2 := h
theorem run_thr {α : Type} {b : Bool} {y : α} (h : ((if b = true then (2 : Int32) else (0 : Int32), y)).1 = 2) : b = true := by
  cases b with
  | true => rfl
  | false => exact absurd h (by rw [if_neg (by decide)]; exact code_2 (by decide))
theorem run_not1 {α : Type} {P : Prop} [Decidable P] {b : Bool} {y z : α} : ¬ (if P then (if b = true then (2 : Int32) else (0 : Int32), y) else ((2 : Int32), z)).1 = 1 := by
  split
  · cases b
    · rw [if_neg (by decide)]; exact (by decide : ¬ (0 : Int32) = 1)
    · rw [if_pos rfl]; exact (by decide : ¬ (2 : Int32) = 1)
  · exact (by decide : ¬ (2 : Int32) = 1)
set_option maxHeartbeats 4000000 in
set_option maxRecDepth 100000 in
theorem mxX4_refuseBeyondLimit (l : Launch) (hlt : l.stackTraces = false) (dC : Nat → ClassId) (dI : Nat → Nat → Nat) (aH aM aW aC aR iW iR : Nat) (x : St) (hok : okfX4_refuseBeyondLimit x = false) : x_Met l yX4_refuseBeyondLimit wsX4_refuseBeyondLimit ({ frames := 6, cells := 1, slots := 6, locals := 82 }) (va_Pc [.ref aH] (kX (dC, dI) [(iW, .int), (iR, .int)] (wD aH aM aW aC aR iW iR x))) "java/lang/IllegalStateException" (fun t => va_P (dC, dI) vwCl (wD aH aM aW aC aR iW iR x) t.heap) (fun _ => False) 1 6 (fun _ => False) := by
  refine x_ofW (cc := cX4_refuseBeyondLimit) (maxL := 1) (ret := none) (by decide) rfl ?_
  intro p e s m args below meth c s₁ B hml he hv
  obtain ⟨rfl, hP, hK, hN, hT⟩ := hv
  have hx := B.exec
  have hb := B.bytes
  have hB := fun (w : Cond) (h : w ∈ BIG) => atoms_spec (ws := wsX4_refuseBeyondLimit) B.pre w (List.mem_cons_of_mem _ h)
  have hown : s.vm.findClass RX4 = some m.cls := findClass_of_methodNamed B.named
  have hlocks := B.notSynchronized
  have hl := lv_entry ([.ref aH]) (n := 1) (Nat.le_of_ble_eq_true rfl)
  rw [lg_entry_eq]
  generalize (lg_sl ([.ref aH]) ++ List.replicate (1 - (lg_sl ([.ref aH])).length) Slot.unset).toArray = ls at hl ⊢
  have hl : lv_has ls 1 [(0, .ref aH)] := hl
  refine lv_aload_n hx hb dX4_refuseBeyondLimit_0 rfl (lv_at hl 0 rfl) ?_
  refine va_get (D := (dC, dI)) (ci := 2) (v := .int (g_steps x)) (C := RX4) (T := TX4) (N := 7) hx hb hB iX4 hown hK hP 0 rfl rfl 5 (by decide) (hB _ q_t1_75) (fun _ h9 => h9) rfl dX4_refuseBeyondLimit_1 ?_
  refine lv_ldc (v := 100000) hx hb hown (hB _ q_t1_224) dX4_refuseBeyondLimit_4 ?_
  refine lv_icmp_lt (tgt := 19) hx hb dX4_refuseBeyondLimit_6 (by decide) (fun c_6 => ?_) (fun c_6 => ?_)
  · exact absurd hok (by (unfold okfX4_refuseBeyondLimit; rw [if_pos c_6]); decide)
  · obtain ⟨sa, hsa⟩ := hT.2.2.2.2.1
    exact x_throwX (own := "HartDesk") (cls := "java/lang/IllegalStateException") (names := xNm) (ix := 7) (rx := rx7) hx hb hlt (by decide +kernel) (by decide +kernel) (by decide +kernel) (by decide +kernel) hown (by decide) (by decide) (hB _ q_t1_225) (hB _ q_t1_9) hsa.1 hsa.2 (x_words hB hT (x_okws okw_112)) (hl.1.trans hml.symm) dX4_refuseBeyondLimit_9 dX4_refuseBeyondLimit_12 dX4_refuseBeyondLimit_13 dX4_refuseBeyondLimit_15 dX4_refuseBeyondLimit_18 he (Nat.le_of_ble_eq_true rfl) (Nat.le_of_ble_eq_true rfl) (Nat.le_of_ble_eq_true rfl) (Nat.le_of_ble_eq_true rfl) hlocks (fun t _ _ hk => x_keep hP hk) (Nat.le_refl _) (Nat.le_refl _)
set_option maxHeartbeats 4000000 in
set_option maxRecDepth 100000 in
theorem mxX4_register (l : Launch) (hlt : l.stackTraces = false) (dC : Nat → ClassId) (dI : Nat → Nat → Nat) (aH aM aW aC aR iW iR : Nat) (x : St) (p0 : Int32) (hok : okfX4_register p0 x = false) : x_Met l yX4_register wsX4_register ({ frames := 6, cells := 1, slots := 6, locals := 82 }) (va_Pc [.ref aH, .int p0] (kX (dC, dI) [(iW, .int), (iR, .int)] (wD aH aM aW aC aR iW iR x))) "java/util/NoSuchElementException" (fun t => va_P (dC, dI) vwCl (wD aH aM aW aC aR iW iR x) t.heap) (fun _ => False) 1 6 (fun _ => False) := by
  refine x_ofW (cc := cX4_register) (maxL := 2) (ret := (some .int)) (by decide) rfl ?_
  intro p e s m args below meth c s₁ B hml he hv
  obtain ⟨rfl, hP, hK, hN, hT⟩ := hv
  have hx := B.exec
  have hb := B.bytes
  have hB := fun (w : Cond) (h : w ∈ BIG) => atoms_spec (ws := wsX4_register) B.pre w (List.mem_cons_of_mem _ h)
  have hown : s.vm.findClass RX4 = some m.cls := findClass_of_methodNamed B.named
  have hlocks := B.notSynchronized
  have hl := lv_entry ([.ref aH, .int p0]) (n := 2) (Nat.le_of_ble_eq_true rfl)
  rw [lg_entry_eq]
  generalize (lg_sl ([.ref aH, .int p0]) ++ List.replicate (2 - (lg_sl ([.ref aH, .int p0])).length) Slot.unset).toArray = ls at hl ⊢
  have hl : lv_has ls 2 [(0, .ref aH), (1, .int p0)] := hl
  refine lv_iload_n hx hb dX4_register_0 rfl (lv_at hl 1 rfl) ?_
  refine lv_bipush (v := 32) hx hb dX4_register_1 (by decide) ?_
  refine lv_icmp_ne (tgt := 11) hx hb dX4_register_3 (by decide) (fun c_3 => ?_) (fun c_3 => ?_)
  · refine lv_iload_n hx hb dX4_register_11 rfl (lv_at hl 1 rfl) ?_
    refine lv_if_lt (tgt := 21) hx hb dX4_register_12 (by decide) (fun c_12 => ?_) (fun c_12 => ?_)
    · obtain ⟨sa, hsa⟩ := hT.2.2.2.2.2.1
      exact x_throwX (own := "HartDesk") (cls := "java/util/NoSuchElementException") (names := xNm) (ix := 13) (rx := rx13) hx hb hlt (by decide +kernel) (by decide +kernel) (by decide +kernel) (by decide +kernel) hown (by decide) (by decide) (hB _ q_t2_193) (hB _ q_t1_13) hsa.1 hsa.2 (x_words hB hT (x_okws okw_82)) (hl.1.trans hml.symm) dX4_register_21 dX4_register_24 dX4_register_25 dX4_register_27 dX4_register_30 he (Nat.le_of_ble_eq_true rfl) (Nat.le_of_ble_eq_true rfl) (Nat.le_of_ble_eq_true rfl) (Nat.le_of_ble_eq_true rfl) hlocks (fun t _ _ hk => x_keep hP hk) (Nat.le_refl _) (Nat.le_refl _)
    · refine lv_iload_n hx hb dX4_register_15 rfl (lv_at hl 1 rfl) ?_
      refine lv_bipush (v := 32) hx hb dX4_register_16 (by decide) ?_
      refine lv_icmp_lt (tgt := 31) hx hb dX4_register_18 (by decide) (fun c_18 => ?_) (fun c_18 => ?_)
      · refine lv_aload_n hx hb dX4_register_31 rfl (lv_at hl 0 rfl) ?_
        refine lv_iload_n hx hb dX4_register_32 rfl (lv_at hl 1 rfl) ?_
        refine k_ri (va_runV (As := [.int p0]) (rest := []) ⟨hx, hb, hml, hown, hB⟩ (mX4_readRegister l dC dI aH aM aW aC aR iW iR x p0) (cwV 1 hB (gV q_t2_69 q_t2_71 q_s_19 q_t1_1 wX4_readRegister) rfl rfl rfl hX4_readRegister ⟨Nat.le_of_ble_eq_true rfl, Nat.le_of_ble_eq_true rfl⟩) ⟨kP_blind NW_blind, va_recv hK hP (ci := 2) (q0 := 0) rfl rfl, kP_pre NW_warm hP hK hN⟩ rfl rfl hl.1 rfl (lv_room (Nat.le_of_ble_eq_true rfl)) dX4_register_33 ⟨Nat.zero_le _, Nat.zero_le _⟩) ?_
        exact absurd hok (by (unfold okfX4_register; rw [if_neg c_3, if_neg c_12, if_pos c_18]); decide)
      · obtain ⟨sa, hsa⟩ := hT.2.2.2.2.2.1
        exact x_throwX (own := "HartDesk") (cls := "java/util/NoSuchElementException") (names := xNm) (ix := 13) (rx := rx13) hx hb hlt (by decide +kernel) (by decide +kernel) (by decide +kernel) (by decide +kernel) hown (by decide) (by decide) (hB _ q_t2_193) (hB _ q_t1_13) hsa.1 hsa.2 (x_words hB hT (x_okws okw_82)) (hl.1.trans hml.symm) dX4_register_21 dX4_register_24 dX4_register_25 dX4_register_27 dX4_register_30 he (Nat.le_of_ble_eq_true rfl) (Nat.le_of_ble_eq_true rfl) (Nat.le_of_ble_eq_true rfl) (Nat.le_of_ble_eq_true rfl) hlocks (fun t _ _ hk => x_keep hP hk) (Nat.le_refl _) (Nat.le_refl _)
  · refine lv_aload_n hx hb dX4_register_6 rfl (lv_at hl 0 rfl) ?_
    refine va_get (D := (dC, dI)) (ci := 2) (v := .int (g_pc x)) (C := RX4) (T := TX4) (N := 7) hx hb hB iX4 hown hK hP 0 rfl rfl 3 (by decide) (hB _ q_t1_73) (fun _ h9 => h9) rfl dX4_register_7 ?_
    exact absurd hok (by (unfold okfX4_register; rw [if_pos c_3]); decide)
set_option maxHeartbeats 4000000 in
set_option maxRecDepth 100000 in
theorem mxX4_control (l : Launch) (hlt : l.stackTraces = false) (dC : Nat → ClassId) (dI : Nat → Nat → Nat) (aH aM aW aC aR iW iR : Nat) (x : St) (p0 : Int32) (hok : okfX4_control p0 x = false) : x_Met l yX4_control wsX4_control ({ frames := 6, cells := 1, slots := 6, locals := 82 }) (va_Pc [.ref aH, .int p0] (kX (dC, dI) [(iW, .int), (iR, .int)] (wD aH aM aW aC aR iW iR x))) "java/util/NoSuchElementException" (fun t => va_P (dC, dI) vwCl (wD aH aM aW aC aR iW iR x) t.heap) (fun _ => False) 1 6 (fun _ => False) := by
  refine x_ofW (cc := cX4_control) (maxL := 2) (ret := (some .int)) (by decide) rfl ?_
  intro p e s m args below meth c s₁ B hml he hv
  obtain ⟨rfl, hP, hK, hN, hT⟩ := hv
  have hx := B.exec
  have hb := B.bytes
  have hB := fun (w : Cond) (h : w ∈ BIG) => atoms_spec (ws := wsX4_control) B.pre w (List.mem_cons_of_mem _ h)
  have hown : s.vm.findClass RX4 = some m.cls := findClass_of_methodNamed B.named
  have hlocks := B.notSynchronized
  have hl := lv_entry ([.ref aH, .int p0]) (n := 2) (Nat.le_of_ble_eq_true rfl)
  rw [lg_entry_eq]
  generalize (lg_sl ([.ref aH, .int p0]) ++ List.replicate (2 - (lg_sl ([.ref aH, .int p0])).length) Slot.unset).toArray = ls at hl ⊢
  have hl : lv_has ls 2 [(0, .ref aH), (1, .int p0)] := hl
  refine lv_iload_n hx hb dX4_control_0 rfl (lv_at hl 1 rfl) ?_
  refine k_ri (va_runSN (As := [.int p0]) (rest := []) ⟨hx, hb, hml, hown, hB⟩ (mX2_isKnown l p0) ⟨va_cnB 1 hB (good_in wX2_isKnown) rfl rfl rfl (hN _ (List.mem_of_getElem? (i := 33) rfl)) (hB _ q_t1_3) hX2_isKnown.2 ⟨Nat.le_of_ble_eq_true rfl, Nat.le_of_ble_eq_true rfl⟩, hB _ q_t2_171, trivial⟩ ⟨fun _ _ _ _ q => q, fun U _ _ => ⟨rfl, trivial⟩⟩ rfl rfl hl.1 rfl (lv_room (Nat.le_of_ble_eq_true rfl)) dX4_control_1 ⟨Nat.zero_le _, Nat.zero_le _⟩) ?_
  refine lv_if_ne (tgt := 17) hx hb dX4_control_4 (by decide) (fun c_4 => ?_) (fun c_4 => ?_)
  · refine lv_aload_n hx hb dX4_control_17 rfl (lv_at hl 0 rfl) ?_
    refine va_get (D := (dC, dI)) (ci := 2) (v := .ref aC) (C := RX4) (T := TX4) (N := 7) hx hb hB iX4 hown hK hP 0 rfl rfl 1 (by decide) (hB _ q_t1_71) (fun _ h9 => h9) rfl dX4_control_18 ?_
    refine lv_iload_n hx hb dX4_control_21 rfl (lv_at hl 1 rfl) ?_
    refine k_ri (va_runVN (As := [.int p0]) (rest := []) ⟨hx, hb, hml, hown, hB⟩ (mX2_read l dC dI aH aM aW aC aR iW iR x p0) ⟨va_cnB 1 hB (good_in wX2_read) rfl rfl rfl (hN _ (List.mem_of_getElem? (i := 34) rfl)) (hB _ q_t1_3) hX2_read.2 ⟨Nat.le_of_ble_eq_true rfl, Nat.le_of_ble_eq_true rfl⟩, hB _ q_t2_176, hB _ q_s_31⟩ ⟨kP_blind NW_blind, va_recv hK hP (ci := 0) (q0 := 3) rfl rfl, kP_pre NW_warm hP hK hN⟩ rfl rfl hl.1 rfl (lv_room (Nat.le_of_ble_eq_true rfl)) dX4_control_22 ⟨Nat.zero_le _, Nat.zero_le _⟩) ?_
    exact absurd hok (by (unfold okfX4_control; rw [if_neg c_4]); decide)
  · obtain ⟨sa, hsa⟩ := hT.2.2.2.2.2.2.1
    exact x_throwX (own := "HartDesk") (cls := "java/util/NoSuchElementException") (names := xNm) (ix := 13) (rx := rx13) hx hb hlt (by decide +kernel) (by decide +kernel) (by decide +kernel) (by decide +kernel) hown (by decide) (by decide) (hB _ q_t2_193) (hB _ q_t1_13) hsa.1 hsa.2 (x_words hB hT (x_okws okw_82)) (hl.1.trans hml.symm) dX4_control_7 dX4_control_10 dX4_control_11 dX4_control_13 dX4_control_16 he (Nat.le_of_ble_eq_true rfl) (Nat.le_of_ble_eq_true rfl) (Nat.le_of_ble_eq_true rfl) (Nat.le_of_ble_eq_true rfl) hlocks (fun t _ _ hk => x_keep hP hk) (Nat.le_refl _) (Nat.le_refl _)
set_option maxHeartbeats 4000000 in
set_option maxRecDepth 100000 in
theorem mxX4_word (l : Launch) (hlt : l.stackTraces = false) (dC : Nat → ClassId) (dI : Nat → Nat → Nat) (aH aM aW aC aR iW iR : Nat) (x : St) (p0 : Int32) (hok : okfX4_word p0 x = false) : x_Met l yX4_word wsX4_word ({ frames := 6, cells := 1, slots := 6, locals := 82 }) (va_Pc [.ref aH, .int p0] (kX (dC, dI) [(iW, .int), (iR, .int)] (wD aH aM aW aC aR iW iR x))) "java/util/NoSuchElementException" (fun t => va_P (dC, dI) vwCl (wD aH aM aW aC aR iW iR x) t.heap) (fun _ => False) 1 6 (fun _ => False) := by
  refine x_ofW (cc := cX4_word) (maxL := 2) (ret := (some .int)) (by decide) rfl ?_
  intro p e s m args below meth c s₁ B hml he hv
  obtain ⟨rfl, hP, hK, hN, hT⟩ := hv
  have hx := B.exec
  have hb := B.bytes
  have hB := fun (w : Cond) (h : w ∈ BIG) => atoms_spec (ws := wsX4_word) B.pre w (List.mem_cons_of_mem _ h)
  have hown : s.vm.findClass RX4 = some m.cls := findClass_of_methodNamed B.named
  have hlocks := B.notSynchronized
  have hl := lv_entry ([.ref aH, .int p0]) (n := 2) (Nat.le_of_ble_eq_true rfl)
  rw [lg_entry_eq]
  generalize (lg_sl ([.ref aH, .int p0]) ++ List.replicate (2 - (lg_sl ([.ref aH, .int p0])).length) Slot.unset).toArray = ls at hl ⊢
  have hl : lv_has ls 2 [(0, .ref aH), (1, .int p0)] := hl
  refine lv_iload_n hx hb dX4_word_0 rfl (lv_at hl 1 rfl) ?_
  refine k_ri (va_runSN (As := [.int p0]) (rest := []) ⟨hx, hb, hml, hown, hB⟩ (mX3_isWordAddress l p0) ⟨va_cnB 1 hB (good_in wX3_isWordAddress) rfl rfl rfl (hN _ (List.mem_of_getElem? (i := 5) rfl)) (hB _ q_t1_2) hX3_isWordAddress.2 ⟨Nat.le_of_ble_eq_true rfl, Nat.le_of_ble_eq_true rfl⟩, hB _ q_t1_97, trivial⟩ ⟨fun _ _ _ _ q => q, fun U _ _ => ⟨rfl, trivial⟩⟩ rfl rfl hl.1 rfl (lv_room (Nat.le_of_ble_eq_true rfl)) dX4_word_1 ⟨Nat.zero_le _, Nat.zero_le _⟩) ?_
  refine lv_if_ne (tgt := 17) hx hb dX4_word_4 (by decide) (fun c_4 => ?_) (fun c_4 => ?_)
  · refine lv_aload_n hx hb dX4_word_17 rfl (lv_at hl 0 rfl) ?_
    refine va_get (D := (dC, dI)) (ci := 2) (v := .ref aM) (C := RX4) (T := TX4) (N := 7) hx hb hB iX4 hown hK hP 0 rfl rfl 0 (by decide) (hB _ q_t1_70) (fun _ h9 => h9) rfl dX4_word_18 ?_
    refine lv_iload_n hx hb dX4_word_21 rfl (lv_at hl 1 rfl) ?_
    refine k_ri (va_runVN (As := [.int p0]) (rest := []) ⟨hx, hb, hml, hown, hB⟩ (mX3_readWord l dC dI aH aM aW aC aR iW iR x p0) ⟨va_cnB 1 hB (good_in wX3_readWord) rfl rfl rfl (hN _ (List.mem_of_getElem? (i := 12) rfl)) (hB _ q_t1_2) hX3_readWord.2 ⟨Nat.le_of_ble_eq_true rfl, Nat.le_of_ble_eq_true rfl⟩, hB _ q_t2_21, hB _ q_s_11⟩ ⟨kP_blind NW_blind, va_recv hK hP (ci := 1) (q0 := 1) rfl rfl, kP_pre NW_warm hP hK hN⟩ rfl rfl hl.1 rfl (lv_room (Nat.le_of_ble_eq_true rfl)) dX4_word_22 ⟨Nat.zero_le _, Nat.zero_le _⟩) ?_
    exact absurd hok (by (unfold okfX4_word; rw [if_neg c_4]); decide)
  · obtain ⟨sa, hsa⟩ := hT.2.2.2.2.2.2.2
    exact x_throwX (own := "HartDesk") (cls := "java/util/NoSuchElementException") (names := xNm) (ix := 13) (rx := rx13) hx hb hlt (by decide +kernel) (by decide +kernel) (by decide +kernel) (by decide +kernel) hown (by decide) (by decide) (hB _ q_t2_193) (hB _ q_t1_13) hsa.1 hsa.2 (x_words hB hT (x_okws okw_82)) (hl.1.trans hml.symm) dX4_word_7 dX4_word_10 dX4_word_11 dX4_word_13 dX4_word_16 he (Nat.le_of_ble_eq_true rfl) (Nat.le_of_ble_eq_true rfl) (Nat.le_of_ble_eq_true rfl) (Nat.le_of_ble_eq_true rfl) hlocks (fun t _ _ hk => x_keep hP hk) (Nat.le_refl _) (Nat.le_refl _)
set_option maxHeartbeats 4000000 in
set_option maxRecDepth 100000 in
theorem runD_loopX {p : Program} {l : Launch} {e : Env} {s : State} {m : MethodId} {args : Array Value} {below : List Frame} {meth : Method} {c : Code} {dC : Nat → ClassId} {dI : Nat → Nat → Nat} {aH aM aW aC aR iW iR : Nat} {A : Nat → Prop} (hlt : l.stackTraces = false) (hx : p.tables.exec = Jvm.exec) (hb : c.code = cX4_run) (he : c.exceptionTable.isEmpty = true) (hlocks : meth.locks = false) (hml : c.maxLocals = 3) (hown : s.vm.findClass RX4 = some m.cls) (hB : ∀ w ∈ BIG, w.before args s = true) (hK : va_K (dC, dI) vwCl [(iW, .int), (iR, .int)] s) (hN : NW s) (hA : ∀ q : Nat, s.heap.size ≤ q → A q) (hTS : ∀ (H : Heap) (locs : List Loc), va_S A s.heap H locs → TF s H) (N : Nat) (hN9 : N ≤ 1000) :
    ∀ (k i : Nat), i ≤ N → N < i + k → ∀ (x : St), (runD k (nI N) (nI i) x).1 = true → ∀ (H : Heap) (locs : List Loc) (ls : Array Slot), va_P (dC, dI) vwCl (wD aH aM aW aC aR iW iR x) H → va_D A (wD aH aM aW aC aR iW iR x) → va_S A s.heap H locs → lv_has ls 3 [(0, .ref aH), (1, .int (nI N)), (2, .int (nI i))] → W p l e (headSpec wsX4_run ({ frames := 7, cells := 1, slots := 6, locals := 134 })).room s m args below meth c H locs 0 0 (x_Z below "java/lang/IllegalStateException" (fun t => va_P (dC, dI) vwCl (wD aH aM aW aC aR iW iR (runD k (nI N) (nI i) x).2.2) t.heap) A 1 6 A s) (F0 m 28 ls []) := by
  intro k
  induction k with
  | zero => intro i h1 h2; omega
  | succ k ih =>
    intro i h1 h2 x hok H locs ls hP hD hS hl
    refine lv_iload_n hx hb dX4_run_28 rfl (lv_at hl 2 rfl) ?_
    refine lv_iload_n hx hb dX4_run_29 rfl (lv_at hl 1 rfl) ?_
    refine lv_icmp_ge (tgt := 54) hx hb dX4_run_30 (by decide) (fun c_30 => ?_) (fun c_30 => ?_)
    · refine lv_iload_n hx hb dX4_run_54 rfl (lv_at hl 2 rfl) ?_
      exact absurd hok (by rw [runD_s, if_pos c_30]; exact bool_ff)
    · refine lv_aload_n hx hb dX4_run_33 rfl (lv_at hl 0 rfl) ?_
      refine va_get (D := (dC, dI)) (ci := 2) (v := .int (bi (g_stop x))) (C := RX4) (T := TX4) (N := 7) hx hb hB iX4 hown hK hP 0 rfl rfl 4 (by decide) (hB _ q_t1_74) (fun _ h9 => h9) rfl dX4_run_34 ?_
      refine lv_if_ne (tgt := 54) hx hb dX4_run_37 (by decide) (fun c_37 => ?_) (fun c_37 => ?_)
      · refine lv_iload_n hx hb dX4_run_54 rfl (lv_at hl 2 rfl) ?_
        exact absurd hok (by rw [runD_s, if_neg c_30, if_neg c_37]; exact bool_ff)
      · refine lv_aload_n hx hb dX4_run_40 rfl (lv_at hl 0 rfl) ?_
        by_cases c_41 : okfX4_refuseBeyondLimit x = true
        · refine k_rv (va_runV (As := []) (rest := []) ⟨hx, hb, hml, hown, hB⟩ (mX4_refuseBeyondLimit l dC dI aH aM aW aC aR iW iR x c_41) (cwV 0 hB (gV q_t1_220 q_t1_222 q_s_6 q_t1_1 wX4_refuseBeyondLimit) rfl rfl rfl hX4_refuseBeyondLimit ⟨Nat.le_of_ble_eq_true rfl, Nat.le_of_ble_eq_true rfl⟩) ⟨kP_blind NW_blind, va_recv hK hP (ci := 2) (q0 := 0) rfl rfl, kP_pre NW_warm hP hK hN⟩ rfl rfl hl.1 rfl (lv_room (Nat.le_of_ble_eq_true rfl)) dX4_run_41 ⟨Nat.zero_le _, Nat.zero_le _⟩) ?_
          refine lv_aload_n hx hb dX4_run_44 rfl (lv_at hl 0 rfl) ?_
          refine k_mv (w := wD aH aM aW aC aR iW iR) wD_ad (va_runV (As := []) (rest := []) ⟨hx, hb, hml, hown, hB⟩ (mX4_step l dC dI aH aM aW aC aR iW iR H.size x) (cwV 0 hB (gV q_t2_1 q_t2_3 q_s_7 q_t1_1 wX4_step) rfl rfl rfl hX4_step ⟨Nat.le_of_ble_eq_true rfl, Nat.le_of_ble_eq_true rfl⟩) ⟨kM_blind NW_blind, va_recv hK hP (ci := 2) (q0 := 0) rfl rfl, kM_pre NW_warm hP hK hD hN⟩ rfl rfl hl.1 rfl (lv_room (Nat.le_of_ble_eq_true rfl)) dX4_run_45 ⟨Nat.zero_le _, Nat.zero_le _⟩) hD hS hA (fun u H locs hw hP hD hS => ?_)
          obtain rfl := hw
          refine lv_iinc (v := (nI i) + (1 : Int32)) (lv' := [(2, .int ((nI i) + (1 : Int32))), (0, .ref aH), (1, .int (nI N))]) hx hb dX4_run_48 hl (k := 2) rfl rfl (by decide) rfl (fun ls hl => ?_)
          refine lv_goto (tgt := 28) hx hb dX4_run_51 (by decide) ?_
          have hlt9 : i < N := Nat.lt_of_not_le fun q => c_30 (nI_le q (by omega))
          have hl : lv_has ls 3 [(0, .ref aH), (1, .int (nI N)), (2, .int (nI (i + 1)))] := by rw [← nI_1]; exact lv_sub hl [1, 2, 0] rfl
          have e9 : runD (k + 1) (nI N) (nI i) x = runD k (nI N) (nI (i + 1)) (fX4_step x) := by (rw [runD_s, if_neg c_30, if_pos c_37, if_pos c_41, nI_1] <;> rfl)
          rw [e9] at hok ⊢
          exact ih (i + 1) (by omega) (by omega) (fX4_step x) hok H _ ls hP hD hS hl
        · refine x_callV (As := []) (rest := []) ⟨hx, hb, hml, hown, hB⟩ (mxX4_refuseBeyondLimit l hlt dC dI aH aM aW aC aR iW iR x (eq_false_of_ne_true c_41)) (cwV 0 hB (gV q_t1_220 q_t1_222 q_s_6 q_t1_1 wX4_refuseBeyondLimit) rfl rfl rfl hX4_refuseBeyondLimit ⟨Nat.le_of_ble_eq_true rfl, Nat.le_of_ble_eq_true rfl⟩) ⟨kX_blind, va_recv hK hP (ci := 2) (q0 := 0) rfl rfl, kX_pre hP hK hN (hTS _ _ hS)⟩ rfl hl.1 rfl (lv_room (Nat.le_of_ble_eq_true rfl)) dX4_run_41 ⟨Nat.le_of_ble_eq_true rfl, Nat.le_of_ble_eq_true rfl⟩ hS (fun _ _ h => h.elim) (fun _ h => h.elim) (fun q ce t H locs ht _ hP hce hcv hcl _ _ hS => ?_)
          exact x_out he hlocks hce hcv hcl (fun t9 ht9 _ => by rw [runD_s, if_neg c_30, if_pos c_37, if_neg c_41]; exact hpT ht9 (by rw [← ht]; exact hP)) hS (fun _ h => h) (Nat.le_refl _) (Nat.le_refl _)
set_option maxHeartbeats 4000000 in
set_option maxRecDepth 100000 in
theorem mxX4_runS (l : Launch) (hlt : l.stackTraces = false) (dC : Nat → ClassId) (dI : Nat → Nat → Nat) (aH aM aW aC aR iW iR : Nat) (sz : Nat) (x : St) (p0 : Int32) (hok : (fX4_run p0 x).1 = 2) : x_Met l yX4_run wsX4_run ({ frames := 7, cells := 1, slots := 6, locals := 134 }) (va_Pc [.ref aH, .int p0] (kXM (dC, dI) [(iW, .int), (iR, .int)] (wD aH aM aW aC aR iW iR x) sz)) "java/lang/IllegalStateException" (fun t => va_P (dC, dI) vwCl (wD aH aM aW aC aR iW iR (fX4_run p0 x).2.2) t.heap) (va_A (wD aH aM aW aC aR iW iR x) sz) 1 6 (va_A (wD aH aM aW aC aR iW iR x) sz) := by
  refine x_ofW (cc := cX4_run) (maxL := 3) (ret := (some .int)) (by decide) rfl ?_
  intro p e s m args below meth c s₁ B hml he hv
  obtain ⟨rfl, hsz, hD0, hP, hK, hN, hT⟩ := hv
  have hx := B.exec
  have hb := B.bytes
  have hB := fun (w : Cond) (h : w ∈ BIG) => atoms_spec (ws := wsX4_run) B.pre w (List.mem_cons_of_mem _ h)
  have hown : s.vm.findClass RX4 = some m.cls := findClass_of_methodNamed B.named
  have hlocks := B.notSynchronized
  subst hsz
  have hTS : ∀ (H : Heap) (locs : List Loc), va_S (va_A (wD aH aM aW aC aR iW iR x) s.heap.size) s.heap H locs → TF s H := fun H locs hS => hT.kept (x_stat hP hS (fun _ h => h))
  have hD := hD0.self (sz := s.heap.size)
  generalize hAe : va_A (wD aH aM aW aC aR iW iR x) s.heap.size = A at hD hTS ⊢
  have hA : ∀ q : Nat, s.heap.size ≤ q → A q := fun q h => by rw [← hAe]; exact Or.inr h
  have hS : va_S A s.heap s.heap [] := va_S.rf
  have hl := lv_entry ([.ref aH, .int p0]) (n := 3) (Nat.le_of_ble_eq_true rfl)
  rw [lg_entry_eq]
  generalize (lg_sl ([.ref aH, .int p0]) ++ List.replicate (3 - (lg_sl ([.ref aH, .int p0])).length) Slot.unset).toArray = ls at hl ⊢
  have hl : lv_has ls 3 [(0, .ref aH), (1, .int p0)] := hl
  refine lv_iload_n hx hb dX4_run_0 rfl (lv_at hl 1 rfl) ?_
  refine lv_iconst (v := 1) hx hb dX4_run_1 (by decide) ?_
  refine lv_icmp_lt (tgt := 12) hx hb dX4_run_2 (by decide) (fun c_2 => ?_) (fun c_2 => ?_)
  · exact absurd hok (by unfold fX4_run; rw [if_pos c_2]; exact code_2 (by decide))
  · refine lv_iload_n hx hb dX4_run_5 rfl (lv_at hl 1 rfl) ?_
    refine lv_sipush (v := 1000) hx hb dX4_run_6 (by decide) ?_
    refine lv_icmp_le (tgt := 22) hx hb dX4_run_9 (by decide) (fun c_9 => ?_) (fun c_9 => ?_)
    · refine lv_aload_n hx hb dX4_run_22 rfl (lv_at hl 0 rfl) ?_
      by_cases c_23 : okfX4_refuseBeyondLimit x = true
      · refine k_rv (va_runV (As := []) (rest := []) ⟨hx, hb, hml, hown, hB⟩ (mX4_refuseBeyondLimit l dC dI aH aM aW aC aR iW iR x c_23) (cwV 0 hB (gV q_t1_220 q_t1_222 q_s_6 q_t1_1 wX4_refuseBeyondLimit) rfl rfl rfl hX4_refuseBeyondLimit ⟨Nat.le_of_ble_eq_true rfl, Nat.le_of_ble_eq_true rfl⟩) ⟨kP_blind NW_blind, va_recv hK hP (ci := 2) (q0 := 0) rfl rfl, kP_pre NW_warm hP hK hN⟩ rfl rfl hl.1 rfl (lv_room (Nat.le_of_ble_eq_true rfl)) dX4_run_23 ⟨Nat.zero_le _, Nat.zero_le _⟩) ?_
        refine lv_iconst (v := 0) hx hb dX4_run_26 (by decide) ?_
        refine lv_istore_n (lv' := [(2, .int (0 : Int32)), (0, .ref aH), (1, .int p0)]) hx hb dX4_run_27 rfl hl (by decide) rfl (fun ls hl => ?_)
        obtain ⟨N, hN9, rfl⟩ := nI_of2 (M := 1000) (n := 1000) (by decide) (fun q => c_2 (Int32.lt_trans q (by decide))) c_9
        have hl : lv_has ls 3 [(0, .ref aH), (1, .int (nI N)), (2, .int (nI 0))] := by rw [nI_0]; exact lv_sub hl [1, 2, 0] rfl
        have e9 : fX4_run (nI N) x = (if (runD 1001 (nI N) (nI 0) x).1 = true then (2 : Int32) else (0 : Int32), (runD 1001 (nI N) (nI 0) x).2) := by (unfold fX4_run; rw [if_neg c_2, if_pos c_9, if_pos c_23, nI_0] <;> rfl)
        rw [e9] at hok ⊢
        have hok := run_thr hok
        exact runD_loopX hlt hx hb he hlocks hml hown hB hK hN hA hTS N hN9 1001 0 (by omega) (by omega) x hok s.heap _ ls hP hD hS hl
      · refine x_callV (As := []) (rest := []) ⟨hx, hb, hml, hown, hB⟩ (mxX4_refuseBeyondLimit l hlt dC dI aH aM aW aC aR iW iR x (eq_false_of_ne_true c_23)) (cwV 0 hB (gV q_t1_220 q_t1_222 q_s_6 q_t1_1 wX4_refuseBeyondLimit) rfl rfl rfl hX4_refuseBeyondLimit ⟨Nat.le_of_ble_eq_true rfl, Nat.le_of_ble_eq_true rfl⟩) ⟨kX_blind, va_recv hK hP (ci := 2) (q0 := 0) rfl rfl, kX_pre hP hK hN hT⟩ rfl hl.1 rfl (lv_room (Nat.le_of_ble_eq_true rfl)) dX4_run_23 ⟨Nat.le_of_ble_eq_true rfl, Nat.le_of_ble_eq_true rfl⟩ hS (fun _ _ h => h.elim) (fun _ h => h.elim) (fun q ce t H locs ht _ hP hce hcv hcl _ _ hS => ?_)
        exact x_out he hlocks hce hcv hcl (fun t9 ht9 _ => by unfold fX4_run; rw [if_neg c_2, if_pos c_9, if_neg c_23]; exact hpT ht9 (by rw [← ht]; exact hP)) hS (fun _ h => h) (Nat.le_refl _) (Nat.le_refl _)
    · exact absurd hok (by unfold fX4_run; rw [if_neg c_2, if_neg c_9]; exact code_2 (by decide))
set_option maxHeartbeats 4000000 in
set_option maxRecDepth 100000 in
theorem mxX4_runA (l : Launch) (hlt : l.stackTraces = false) (dC : Nat → ClassId) (dI : Nat → Nat → Nat) (aH aM aW aC aR iW iR : Nat) (sz : Nat) (x : St) (p0 : Int32) (hok : (fX4_run p0 x).1 = 1) : x_Met l yX4_run wsX4_run ({ frames := 7, cells := 1, slots := 6, locals := 134 }) (va_Pc [.ref aH, .int p0] (kXM (dC, dI) [(iW, .int), (iR, .int)] (wD aH aM aW aC aR iW iR x) sz)) "java/lang/IllegalArgumentException" (fun t => va_P (dC, dI) vwCl (wD aH aM aW aC aR iW iR (fX4_run p0 x).2.2) t.heap) (va_A (wD aH aM aW aC aR iW iR x) sz) 1 6 (va_A (wD aH aM aW aC aR iW iR x) sz) := by
  refine x_ofW (cc := cX4_run) (maxL := 3) (ret := (some .int)) (by decide) rfl ?_
  intro p e s m args below meth c s₁ B hml he hv
  obtain ⟨rfl, hsz, hD0, hP, hK, hN, hT⟩ := hv
  have hx := B.exec
  have hb := B.bytes
  have hB := fun (w : Cond) (h : w ∈ BIG) => atoms_spec (ws := wsX4_run) B.pre w (List.mem_cons_of_mem _ h)
  have hown : s.vm.findClass RX4 = some m.cls := findClass_of_methodNamed B.named
  have hlocks := B.notSynchronized
  subst hsz
  have hTS : ∀ (H : Heap) (locs : List Loc), va_S (va_A (wD aH aM aW aC aR iW iR x) s.heap.size) s.heap H locs → TF s H := fun H locs hS => hT.kept (x_stat hP hS (fun _ h => h))
  have hD := hD0.self (sz := s.heap.size)
  generalize hAe : va_A (wD aH aM aW aC aR iW iR x) s.heap.size = A at hD hTS ⊢
  have hA : ∀ q : Nat, s.heap.size ≤ q → A q := fun q h => by rw [← hAe]; exact Or.inr h
  have hS : va_S A s.heap s.heap [] := va_S.rf
  have hl := lv_entry ([.ref aH, .int p0]) (n := 3) (Nat.le_of_ble_eq_true rfl)
  rw [lg_entry_eq]
  generalize (lg_sl ([.ref aH, .int p0]) ++ List.replicate (3 - (lg_sl ([.ref aH, .int p0])).length) Slot.unset).toArray = ls at hl ⊢
  have hl : lv_has ls 3 [(0, .ref aH), (1, .int p0)] := hl
  refine lv_iload_n hx hb dX4_run_0 rfl (lv_at hl 1 rfl) ?_
  refine lv_iconst (v := 1) hx hb dX4_run_1 (by decide) ?_
  refine lv_icmp_lt (tgt := 12) hx hb dX4_run_2 (by decide) (fun c_2 => ?_) (fun c_2 => ?_)
  · obtain ⟨sa, hsa⟩ := hT.2.2.2.1
    exact x_throwX (own := "HartDesk") (cls := "java/lang/IllegalArgumentException") (names := xNm) (ix := 7) (rx := rx7) hx hb hlt (by decide +kernel) (by decide +kernel) (by decide +kernel) (by decide +kernel) hown (by decide) (by decide) (hB _ q_t1_152) (hB _ q_t1_8) hsa.1 hsa.2 (x_words hB hT (x_okws okw_49)) (hl.1.trans hml.symm) dX4_run_12 dX4_run_15 dX4_run_16 dX4_run_18 dX4_run_21 he (Nat.le_of_ble_eq_true rfl) (Nat.le_of_ble_eq_true rfl) (Nat.le_of_ble_eq_true rfl) (Nat.le_of_ble_eq_true rfl) hlocks (fun t _ _ hk => by unfold fX4_run; rw [if_pos c_2]; exact x_keep hP hk) (Nat.le_refl _) (Nat.le_refl _)
  · refine lv_iload_n hx hb dX4_run_5 rfl (lv_at hl 1 rfl) ?_
    refine lv_sipush (v := 1000) hx hb dX4_run_6 (by decide) ?_
    refine lv_icmp_le (tgt := 22) hx hb dX4_run_9 (by decide) (fun c_9 => ?_) (fun c_9 => ?_)
    · exact absurd hok (by unfold fX4_run; rw [if_neg c_2, if_pos c_9]; exact run_not1)
    · obtain ⟨sa, hsa⟩ := hT.2.2.2.1
      exact x_throwX (own := "HartDesk") (cls := "java/lang/IllegalArgumentException") (names := xNm) (ix := 7) (rx := rx7) hx hb hlt (by decide +kernel) (by decide +kernel) (by decide +kernel) (by decide +kernel) hown (by decide) (by decide) (hB _ q_t1_152) (hB _ q_t1_8) hsa.1 hsa.2 (x_words hB hT (x_okws okw_49)) (hl.1.trans hml.symm) dX4_run_12 dX4_run_15 dX4_run_16 dX4_run_18 dX4_run_21 he (Nat.le_of_ble_eq_true rfl) (Nat.le_of_ble_eq_true rfl) (Nat.le_of_ble_eq_true rfl) (Nat.le_of_ble_eq_true rfl) hlocks (fun t _ _ hk => by unfold fX4_run; rw [if_neg c_2, if_neg c_9]; exact x_keep hP hk) (Nat.le_refl _) (Nat.le_refl _)
