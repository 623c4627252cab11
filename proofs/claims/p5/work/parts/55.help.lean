/-! the law's helpers -/
abbrev wO (aH aM aW aC aR iW iR aO iO : Nat) (u : St × (Nat → Int64)) : va_W := [] ++ (wD aH aM aW aC aR iW iR u.1 ++ [(aO, .inl (iO, 1, .inr (.inl u.2)))])
theorem wO_ad {aH aM aW aC aR iW iR aO iO : Nat} : ∀ x u : St × (Nat → Int64), (wO aH aM aW aC aR iW iR aO iO x).map Prod.fst = (wO aH aM aW aC aR iW iR aO iO u).map Prod.fst := fun _ _ => rfl
def oS (c : Int32) (o : Nat → Int64) (v : Int32) : Nat → Int64 := if c = 0 then vp_updL o (0 : Int32).toNatClampNeg v.toInt64 else o
theorem oS_0 {o : Nat → Int64} {v : Int32} : oS 0 o v = vp_updL o (0 : Int32).toNatClampNeg v.toInt64 := if_pos rfl
theorem oS_n {c : Int32} {o : Nat → Int64} {v : Int32} (h : c ≠ 0) : oS c o v = o := if_neg h
def cb : Bool → Int32
  | true => 0
  | false => 1
def kL (D : va_G) (tys : List (ClassId × FieldType)) (w : va_W) (sz : Nat) (U : State) : Prop := kXM D tys w sz U ∧ va_Nc "java/lang/IllegalStateException" "java/lang/IllegalArgumentException" U
theorem kL_blind {D : va_G} {tys : List (ClassId × FieldType)} {w : va_W} {av : List Value} {sz : Nat} : FrameBlind (va_Pc av (kL D tys w sz)) := fun a U g mk q => by
  have h := kXM_blind (av := av) a U g mk ⟨q.1, q.2.1⟩
  exact ⟨h.1, h.2, va_Nc.moved (u := U) (U := U.calling g mk a) (Vm.Alike.refl U.vm) q.2.2⟩
theorem kL_pre {D : va_G} {tys : List (ClassId × FieldType)} {w : va_W} {av : List Value} {s : State} {H : Heap} {A : Nat → Prop} (hP : va_P D vwCl w H) (hK : va_K D vwCl tys s) (hD : va_D A w) (hN : NW s) (hT : TF s H) (hNc : va_Nc "java/lang/IllegalStateException" "java/lang/IllegalArgumentException" s) : ∀ U : State, U.heap = H → s.WarmedH U.vm → va_Pc av (kL D tys w H.size) av.toArray U := fun U hU hw => by
  have h := kXM_pre (av := av) hP hK hD hN hT U hU hw
  exact ⟨h.1, h.2, va_Nc.moved hw.alike hNc⟩
theorem run_codes (p0 : Int32) (x : St) : (fX4_run p0 x).1 = 0 ∨ (fX4_run p0 x).1 = 1 ∨ (fX4_run p0 x).1 = 2 := by
  unfold fX4_run
  split
  · exact Or.inr (Or.inl rfl)
  · split
    · split
      · cases (runD 1001 p0 0 x).1
        · exact Or.inl rfl
        · exact Or.inr (Or.inr rfl)
      · exact Or.inr (Or.inr rfl)
    · exact Or.inr (Or.inl rfl)
theorem dL_run_0 : decode cL_run 0 = .ok (.aload_n 2, 1) := by decide +kernel
theorem dL_run_1 : decode cL_run 1 = .ok (.iconst 0, 1) := by decide +kernel
theorem dL_run_2 : decode cL_run 2 = .ok (.aload_n 0, 1) := by decide +kernel
theorem dL_run_3 : decode cL_run 3 = .ok (.iload_n 1, 1) := by decide +kernel
theorem dL_run_4 : decode cL_run 4 = .ok (.invokevirtual 7, 3) := by decide +kernel
theorem dL_run_7 : decode cL_run 7 = .ok (.i2l, 1) := by decide +kernel
theorem dL_run_8 : decode cL_run 8 = .ok (.lastore, 1) := by decide +kernel
theorem dL_run_9 : decode cL_run 9 = .ok (.goto 9, 3) := by decide +kernel
theorem dL_run_12 : decode cL_run 12 = .ok (.astore_n 3, 1) := by decide +kernel
theorem dL_run_13 : decode cL_run 13 = .ok (.iconst 1, 1) := by decide +kernel
theorem dL_run_14 : decode cL_run 14 = .ok (.ireturn, 1) := by decide +kernel
theorem dL_run_15 : decode cL_run 15 = .ok (.astore_n 3, 1) := by decide +kernel
theorem dL_run_16 : decode cL_run 16 = .ok (.iconst 2, 1) := by decide +kernel
theorem dL_run_17 : decode cL_run 17 = .ok (.ireturn, 1) := by decide +kernel
theorem dL_run_18 : decode cL_run 18 = .ok (.iconst 0, 1) := by decide +kernel
theorem dL_run_19 : decode cL_run 19 = .ok (.ireturn, 1) := by decide +kernel
def wsL_run : List Cond := .codeWith yL_run cL_run 4 (some .int) [(0, 9, 12, 13), (0, 9, 15, 15)] :: BIG
set_option maxRecDepth 20000 in
theorem qL_run : Cond.codeWith yL_run cL_run 4 (some .int) [(0, 9, 12, 13), (0, 9, 15, 15)] ∈ BIG := big_t1 (i := 145) rfl rfl
theorem wL_run : ∀ w ∈ wsL_run, w ∈ BIG := in_c qL_run (fun _ h => h)
set_option maxHeartbeats 4000000 in
set_option maxRecDepth 100000 in
theorem mL_run (l : Launch) (hlt : l.stackTraces = false) (dC : Nat → ClassId) (dI : Nat → Nat → Nat) (aH aM aW aC aR iW iR aO iO : Nat) (sz : Nat) (x : St) (o : Nat → Int64) (p0 : Int32) : Met l yL_run wsL_run ({ frames := 8, cells := 1, slots := 6, locals := 156 }) (va_Pc [.ref aH, .int p0, .ref aO] (kL (dC, dI) [(iW, .int), (iR, .int), (iO, .long)] (wO aH aM aW aC aR iW iR aO iO (x, o)) sz)) (va_Qi (fun r u => r = (fX4_run p0 x).1 ∧ u = ((fX4_run p0 x).2.2, oS ((fX4_run p0 x).1) o (fX4_run p0 x).2.1)) (fun u t => va_P (dC, dI) vwCl (wO aH aM aW aC aR iW iR aO iO u) t.heap) (va_A (wO aH aM aW aC aR iW iR aO iO (x, o)) sz)) 1 6 (va_A (wO aH aM aW aC aR iW iR aO iO (x, o)) sz) := by
  refine va_MetW (cc := cL_run) (maxL := 4) (ret := some .int) (hh := [(0, 9, 12, 13), (0, 9, 15, 15)]) (by decide) rfl ?_
  intro p e s m args below meth c s₁ B hml hv
  obtain ⟨rfl, ⟨hsz, hD0, hP, hK, hN, hT⟩, hNc⟩ := hv
  have hx := B.exec
  have hb := B.bytes
  have hr := B.returns
  have hB := fun (w : Cond) (h : w ∈ BIG) => atoms_spec (ws := wsL_run) B.pre w (List.mem_cons_of_mem _ h)
  have hown : s.vm.findClass RL = some m.cls := findClass_of_methodNamed B.named
  have hlocks := B.notSynchronized
  have htab := z_table B (hB _ qL_run)
  subst hsz
  have hD := hD0.self (sz := s.heap.size)
  generalize hAe : va_A (wO aH aM aW aC aR iW iR aO iO (x, o)) s.heap.size = A at hD ⊢
  have hA : ∀ q : Nat, s.heap.size ≤ q → A q := fun q h => by rw [← hAe]; exact Or.inr h
  have hS : va_S A s.heap s.heap [] := va_S.rf
  have hl := lv_entry ([.ref aH, .int p0, .ref aO]) (n := 4) (Nat.le_of_ble_eq_true rfl)
  rw [lg_entry_eq]
  generalize (lg_sl ([.ref aH, .int p0, .ref aO]) ++ List.replicate (4 - (lg_sl ([.ref aH, .int p0, .ref aO])).length) Slot.unset).toArray = ls at hl ⊢
  have hl : lv_has ls 4 [(0, .ref aH), (1, .int p0), (2, .ref aO)] := hl
  have hPd : va_P (dC, dI) vwCl (wD aH aM aW aC aR iW iR x) s.heap := j_P (wl := []) hP
  have hDd : va_D A (wD aH aM aW aC aR iW iR x) := j_D (wl := []) hD
  have hKd : va_K (dC, dI) vwCl [(iW, .int), (iR, .int)] s := hK.sub [0, 1] rfl
  refine lv_aload_n hx hb dL_run_0 rfl (lv_at hl 2 rfl) ?_
  refine lv_iconst (v := 0) hx hb dL_run_1 (by decide) ?_
  refine lv_aload_n hx hb dL_run_2 rfl (lv_at hl 0 rfl) ?_
  refine lv_iload_n hx hb dL_run_3 rfl (lv_at hl 1 rfl) ?_
  rcases run_codes p0 x with h0 | h1 | h2
  · refine k_si (w := wD aH aM aW aC aR iW iR) wD_ad (wl := []) (x := x) (va_runV (As := [.int p0]) (rest := [.int 0, .ref aO]) ⟨hx, hb, hml, hown, hB⟩ (mX4_run l dC dI aH aM aW aC aR iW iR s.heap.size x p0 h0) (cwV 1 hB (gV q_t1_148 q_t1_149 q_t1_150 q_t1_1 wX4_run) rfl rfl rfl hX4_run ⟨Nat.le_of_ble_eq_true rfl, Nat.le_of_ble_eq_true rfl⟩) ⟨kM_blind NW_blind, va_recv hKd hPd (ci := 2) (q0 := 0) rfl rfl, kM_pre NW_warm hPd hKd hDd hN⟩ rfl rfl hl.1 rfl (lv_room (Nat.le_of_ble_eq_true rfl)) dL_run_4 ⟨Nat.zero_le _, Nat.zero_le _⟩) hP hD hS hA (fun r u H locs hw hP hD hS => ?_)
    obtain ⟨rfl, rfl⟩ := hw
    refine lv_i2l hx hb dL_run_7 rfl ?_
    refine va_last hx hb hK hP hD hS 5 2 rfl rfl (by unfold vp_in; decide) dL_run_8 (fun H locs hP hD hS => ?_)
    refine lv_goto (tgt := 18) hx hb dL_run_9 (by decide) ?_
    refine lv_iconst (v := 0) hx hb dL_run_18 (by decide) ?_
    refine W.widen (k := 1) (n := 6) (Nat.zero_le _) (Nat.zero_le _) ?_
    exact W.iret (v := 0) hx hb hr (fun t ht hW => ⟨⟨0, ((fX4_run p0 x).2.2, vp_updL o (0 : Int32).toNatClampNeg ((fX4_run p0 x).2.1).toInt64), rfl, ⟨h0.symm, (by rw [h0, oS_0])⟩, hpT ht hP⟩, hS.F ht⟩) hS.2.2 dL_run_19
  · refine x_callV (As := [.int p0]) (rest := [.int 0, .ref aO]) ⟨hx, hb, hml, hown, hB⟩ (mxX4_runA l hlt dC dI aH aM aW aC aR iW iR s.heap.size x p0 h1) (cwV 1 hB (gV q_t1_148 q_t1_149 q_t1_150 q_t1_1 wX4_run) rfl rfl rfl hX4_run ⟨Nat.le_of_ble_eq_true rfl, Nat.le_of_ble_eq_true rfl⟩) ⟨kXM_blind, va_recv hKd hPd (ci := 2) (q0 := 0) rfl rfl, kXM_pre hPd hKd hDd hN hT⟩ rfl hl.1 rfl (lv_room (Nat.le_of_ble_eq_true rfl)) dL_run_4 ⟨Nat.le_of_ble_eq_true rfl, Nat.le_of_ble_eq_true rfl⟩ hS (fun q _ h => k_free hDd hS hA q h) (k_free hDd hS hA) (fun q ce t H locs ht _ hB1 hce hcv hcl _ hk hS => ?_)
    have hJ := j_join (wl := []) hP hD (w' := wD aH aM aW aC aR iW iR (fX4_run p0 x).2.2) (H1 := H) (by rw [← ht]; exact hB1) (wD_ad _ _) hk
    refine y_catch (own := RL) (name := "java/lang/IllegalArgumentException") (E := "java/lang/IllegalArgumentException") hown [] ⟨0, 9, 12, 13⟩ [⟨0, 9, 15, 15⟩] htab (fun _ h => nomatch h) (by decide) (by decide) (hB _ q_t1_146) (va_Nw.use rfl (hT.2.2.1 _ (List.mem_of_getElem? (i := 4) rfl))) hce hcv hcl ?_
    refine lv_astore_n (lv' := [(3, .ref q), (0, .ref aH), (1, .int p0), (2, .ref aO)]) hx hb dL_run_12 rfl hl (by decide) rfl (fun ls hl => ?_)
    refine lv_iconst (v := 1) hx hb dL_run_13 (by decide) ?_
    exact W.iret (v := 1) hx hb hr (fun t ht hW => ⟨⟨1, ((fX4_run p0 x).2.2, o), rfl, ⟨h1.symm, (by rw [h1, oS_n (by decide)])⟩, hpT ht hJ.1⟩, hS.F ht⟩) hS.2.2 dL_run_14
  · refine x_callV (As := [.int p0]) (rest := [.int 0, .ref aO]) ⟨hx, hb, hml, hown, hB⟩ (mxX4_runS l hlt dC dI aH aM aW aC aR iW iR s.heap.size x p0 h2) (cwV 1 hB (gV q_t1_148 q_t1_149 q_t1_150 q_t1_1 wX4_run) rfl rfl rfl hX4_run ⟨Nat.le_of_ble_eq_true rfl, Nat.le_of_ble_eq_true rfl⟩) ⟨kXM_blind, va_recv hKd hPd (ci := 2) (q0 := 0) rfl rfl, kXM_pre hPd hKd hDd hN hT⟩ rfl hl.1 rfl (lv_room (Nat.le_of_ble_eq_true rfl)) dL_run_4 ⟨Nat.le_of_ble_eq_true rfl, Nat.le_of_ble_eq_true rfl⟩ hS (fun q _ h => k_free hDd hS hA q h) (k_free hDd hS hA) (fun q ce t H locs ht _ hB1 hce hcv hcl _ hk hS => ?_)
    have hJ := j_join (wl := []) hP hD (w' := wD aH aM aW aC aR iW iR (fX4_run p0 x).2.2) (H1 := H) (by rw [← ht]; exact hB1) (wD_ad _ _) hk
    refine y_catch (own := RL) (name := "java/lang/IllegalStateException") (E := "java/lang/IllegalStateException") hown [⟨0, 9, 12, 13⟩] ⟨0, 9, 15, 15⟩ [] htab (fun z hz => by obtain rfl := List.mem_singleton.mp hz; exact Or.inr ⟨by decide, "java/lang/IllegalArgumentException", hB _ q_t1_146, hNc⟩) (by decide) (by decide) (hB _ q_t1_147) (va_Nw.use rfl (hT.2.2.1 _ (List.mem_of_getElem? (i := 3) rfl))) hce hcv hcl ?_
    refine lv_astore_n (lv' := [(3, .ref q), (0, .ref aH), (1, .int p0), (2, .ref aO)]) hx hb dL_run_15 rfl hl (by decide) rfl (fun ls hl => ?_)
    refine lv_iconst (v := 2) hx hb dL_run_16 (by decide) ?_
    exact W.iret (v := 2) hx hb hr (fun t ht hW => ⟨⟨2, ((fX4_run p0 x).2.2, o), rfl, ⟨h2.symm, (by rw [h2, oS_n (by decide)])⟩, hpT ht hJ.1⟩, hS.F ht⟩) hS.2.2 dL_run_17
theorem dL_register_0 : decode cL_register 0 = .ok (.aload_n 2, 1) := by decide +kernel
theorem dL_register_1 : decode cL_register 1 = .ok (.iconst 0, 1) := by decide +kernel
theorem dL_register_2 : decode cL_register 2 = .ok (.aload_n 0, 1) := by decide +kernel
theorem dL_register_3 : decode cL_register 3 = .ok (.iload_n 1, 1) := by decide +kernel
theorem dL_register_4 : decode cL_register 4 = .ok (.invokevirtual 17, 3) := by decide +kernel
theorem dL_register_7 : decode cL_register 7 = .ok (.i2l, 1) := by decide +kernel
theorem dL_register_8 : decode cL_register 8 = .ok (.lastore, 1) := by decide +kernel
theorem dL_register_9 : decode cL_register 9 = .ok (.goto 6, 3) := by decide +kernel
theorem dL_register_12 : decode cL_register 12 = .ok (.astore_n 3, 1) := by decide +kernel
theorem dL_register_13 : decode cL_register 13 = .ok (.iconst 1, 1) := by decide +kernel
theorem dL_register_14 : decode cL_register 14 = .ok (.ireturn, 1) := by decide +kernel
theorem dL_register_15 : decode cL_register 15 = .ok (.iconst 0, 1) := by decide +kernel
theorem dL_register_16 : decode cL_register 16 = .ok (.ireturn, 1) := by decide +kernel
def wsL_register : List Cond := .codeWith yL_register cL_register 4 (some .int) [(0, 9, 12, 20)] :: BIG
set_option maxRecDepth 20000 in
theorem qL_register : Cond.codeWith yL_register cL_register 4 (some .int) [(0, 9, 12, 20)] ∈ BIG := big_t2 (i := 187) rfl rfl
theorem wL_register : ∀ w ∈ wsL_register, w ∈ BIG := in_c qL_register (fun _ h => h)
set_option maxHeartbeats 4000000 in
set_option maxRecDepth 100000 in
theorem mL_register (l : Launch) (hlt : l.stackTraces = false) (dC : Nat → ClassId) (dI : Nat → Nat → Nat) (aH aM aW aC aR iW iR aO iO : Nat) (sz : Nat) (x : St) (o : Nat → Int64) (p0 : Int32) : Met l yL_register wsL_register ({ frames := 7, cells := 1, slots := 6, locals := 103 }) (va_Pc [.ref aH, .int p0, .ref aO] (kL (dC, dI) [(iW, .int), (iR, .int), (iO, .long)] (wO aH aM aW aC aR iW iR aO iO (x, o)) sz)) (va_Qi (fun r u => r = cb (okfX4_register p0 x) ∧ u = (x, oS (cb (okfX4_register p0 x)) o (fX4_register p0 x))) (fun u t => va_P (dC, dI) vwCl (wO aH aM aW aC aR iW iR aO iO u) t.heap) (va_A (wO aH aM aW aC aR iW iR aO iO (x, o)) sz)) 1 6 (va_A (wO aH aM aW aC aR iW iR aO iO (x, o)) sz) := by
  refine va_MetW (cc := cL_register) (maxL := 4) (ret := some .int) (hh := [(0, 9, 12, 20)]) (by decide) rfl ?_
  intro p e s m args below meth c s₁ B hml hv
  obtain ⟨rfl, ⟨hsz, hD0, hP, hK, hN, hT⟩, hNc⟩ := hv
  have hx := B.exec
  have hb := B.bytes
  have hr := B.returns
  have hB := fun (w : Cond) (h : w ∈ BIG) => atoms_spec (ws := wsL_register) B.pre w (List.mem_cons_of_mem _ h)
  have hown : s.vm.findClass RL = some m.cls := findClass_of_methodNamed B.named
  have hlocks := B.notSynchronized
  have htab := z_table B (hB _ qL_register)
  subst hsz
  have hD := hD0.self (sz := s.heap.size)
  generalize hAe : va_A (wO aH aM aW aC aR iW iR aO iO (x, o)) s.heap.size = A at hD ⊢
  have hA : ∀ q : Nat, s.heap.size ≤ q → A q := fun q h => by rw [← hAe]; exact Or.inr h
  have hS : va_S A s.heap s.heap [] := va_S.rf
  have hl := lv_entry ([.ref aH, .int p0, .ref aO]) (n := 4) (Nat.le_of_ble_eq_true rfl)
  rw [lg_entry_eq]
  generalize (lg_sl ([.ref aH, .int p0, .ref aO]) ++ List.replicate (4 - (lg_sl ([.ref aH, .int p0, .ref aO])).length) Slot.unset).toArray = ls at hl ⊢
  have hl : lv_has ls 4 [(0, .ref aH), (1, .int p0), (2, .ref aO)] := hl
  have hPd : va_P (dC, dI) vwCl (wD aH aM aW aC aR iW iR x) s.heap := j_P (wl := []) hP
  have hDd : va_D A (wD aH aM aW aC aR iW iR x) := j_D (wl := []) hD
  have hKd : va_K (dC, dI) vwCl [(iW, .int), (iR, .int)] s := hK.sub [0, 1] rfl
  refine lv_aload_n hx hb dL_register_0 rfl (lv_at hl 2 rfl) ?_
  refine lv_iconst (v := 0) hx hb dL_register_1 (by decide) ?_
  refine lv_aload_n hx hb dL_register_2 rfl (lv_at hl 0 rfl) ?_
  refine lv_iload_n hx hb dL_register_3 rfl (lv_at hl 1 rfl) ?_
  cases hc : okfX4_register p0 x with
  | true =>
    refine k_ri (va_runV (As := [.int p0]) (rest := [.int 0, .ref aO]) ⟨hx, hb, hml, hown, hB⟩ (mX4_register l dC dI aH aM aW aC aR iW iR x p0 hc) (cwV 1 hB (gV q_t2_189 q_t2_190 q_t2_191 q_t1_1 wX4_register) rfl rfl rfl hX4_register ⟨Nat.le_of_ble_eq_true rfl, Nat.le_of_ble_eq_true rfl⟩) ⟨kP_blind NW_blind, va_recv hKd hPd (ci := 2) (q0 := 0) rfl rfl, kP_pre NW_warm hPd hKd hN⟩ rfl rfl hl.1 rfl (lv_room (Nat.le_of_ble_eq_true rfl)) dL_register_4 ⟨Nat.zero_le _, Nat.zero_le _⟩) ?_
    refine lv_i2l hx hb dL_register_7 rfl ?_
    refine va_last hx hb hK hP hD hS 5 2 rfl rfl (by unfold vp_in; decide) dL_register_8 (fun H locs hP hD hS => ?_)
    refine lv_goto (tgt := 15) hx hb dL_register_9 (by decide) ?_
    refine lv_iconst (v := 0) hx hb dL_register_15 (by decide) ?_
    refine W.widen (k := 1) (n := 6) (Nat.zero_le _) (Nat.zero_le _) ?_
    exact W.iret (v := 0) hx hb hr (fun t ht hW => ⟨⟨0, (x, vp_updL o (0 : Int32).toNatClampNeg ((fX4_register p0 x)).toInt64), rfl, ⟨rfl, (congrArg (Prod.mk x) oS_0.symm)⟩, hpT ht hP⟩, hS.F ht⟩) hS.2.2 dL_register_16
  | false =>
    refine x_callV (As := [.int p0]) (rest := [.int 0, .ref aO]) ⟨hx, hb, hml, hown, hB⟩ (mxX4_register l hlt dC dI aH aM aW aC aR iW iR x p0 hc) (cwV 1 hB (gV q_t2_189 q_t2_190 q_t2_191 q_t1_1 wX4_register) rfl rfl rfl hX4_register ⟨Nat.le_of_ble_eq_true rfl, Nat.le_of_ble_eq_true rfl⟩) ⟨kX_blind, va_recv hKd hPd (ci := 2) (q0 := 0) rfl rfl, kX_pre hPd hKd hN hT⟩ rfl hl.1 rfl (lv_room (Nat.le_of_ble_eq_true rfl)) dL_register_4 ⟨Nat.le_of_ble_eq_true rfl, Nat.le_of_ble_eq_true rfl⟩ hS (fun _ _ h => h.elim) (fun _ h => h.elim) (fun q ce t H locs ht _ hB1 hce hcv hcl _ hk hS => ?_)
    have hJ := j_join (wl := []) hP hD (w' := wD aH aM aW aC aR iW iR x) (H1 := H) (by rw [← ht]; exact hB1) (wD_ad _ _) (fun q h1 _ => hk q h1 (fun h => h))
    refine y_catch (own := RL) (name := "java/util/NoSuchElementException") (E := "java/util/NoSuchElementException") hown [] ⟨0, 9, 12, 20⟩ [] htab (fun _ h => nomatch h) (by decide) (by decide) (hB _ q_t2_188) (va_Nw.use rfl (hT.2.2.1 _ (List.mem_of_getElem? (i := 5) rfl))) hce hcv hcl ?_
    refine lv_astore_n (lv' := [(3, .ref q), (0, .ref aH), (1, .int p0), (2, .ref aO)]) hx hb dL_register_12 rfl hl (by decide) rfl (fun ls hl => ?_)
    refine lv_iconst (v := 1) hx hb dL_register_13 (by decide) ?_
    exact W.iret (v := 1) hx hb hr (fun t ht hW => ⟨⟨1, (x, o), rfl, ⟨rfl, (congrArg (Prod.mk x) (oS_n (c := 1) (by decide)).symm)⟩, hpT ht hJ.1⟩, hS.F ht⟩) hS.2.2 dL_register_14
theorem dL_control_0 : decode cL_control 0 = .ok (.aload_n 2, 1) := by decide +kernel
theorem dL_control_1 : decode cL_control 1 = .ok (.iconst 0, 1) := by decide +kernel
theorem dL_control_2 : decode cL_control 2 = .ok (.aload_n 0, 1) := by decide +kernel
theorem dL_control_3 : decode cL_control 3 = .ok (.iload_n 1, 1) := by decide +kernel
theorem dL_control_4 : decode cL_control 4 = .ok (.invokevirtual 22, 3) := by decide +kernel
theorem dL_control_7 : decode cL_control 7 = .ok (.i2l, 1) := by decide +kernel
theorem dL_control_8 : decode cL_control 8 = .ok (.lastore, 1) := by decide +kernel
theorem dL_control_9 : decode cL_control 9 = .ok (.goto 6, 3) := by decide +kernel
theorem dL_control_12 : decode cL_control 12 = .ok (.astore_n 3, 1) := by decide +kernel
theorem dL_control_13 : decode cL_control 13 = .ok (.iconst 1, 1) := by decide +kernel
theorem dL_control_14 : decode cL_control 14 = .ok (.ireturn, 1) := by decide +kernel
theorem dL_control_15 : decode cL_control 15 = .ok (.iconst 0, 1) := by decide +kernel
theorem dL_control_16 : decode cL_control 16 = .ok (.ireturn, 1) := by decide +kernel
def wsL_control : List Cond := .codeWith yL_control cL_control 4 (some .int) [(0, 9, 12, 20)] :: BIG
set_option maxRecDepth 20000 in
theorem qL_control : Cond.codeWith yL_control cL_control 4 (some .int) [(0, 9, 12, 20)] ∈ BIG := big_t2 (i := 211) rfl rfl
theorem wL_control : ∀ w ∈ wsL_control, w ∈ BIG := in_c qL_control (fun _ h => h)
set_option maxHeartbeats 4000000 in
set_option maxRecDepth 100000 in
theorem mL_control (l : Launch) (hlt : l.stackTraces = false) (dC : Nat → ClassId) (dI : Nat → Nat → Nat) (aH aM aW aC aR iW iR aO iO : Nat) (sz : Nat) (x : St) (o : Nat → Int64) (p0 : Int32) : Met l yL_control wsL_control ({ frames := 7, cells := 1, slots := 6, locals := 103 }) (va_Pc [.ref aH, .int p0, .ref aO] (kL (dC, dI) [(iW, .int), (iR, .int), (iO, .long)] (wO aH aM aW aC aR iW iR aO iO (x, o)) sz)) (va_Qi (fun r u => r = cb (okfX4_control p0 x) ∧ u = (x, oS (cb (okfX4_control p0 x)) o (fX4_control p0 x))) (fun u t => va_P (dC, dI) vwCl (wO aH aM aW aC aR iW iR aO iO u) t.heap) (va_A (wO aH aM aW aC aR iW iR aO iO (x, o)) sz)) 1 6 (va_A (wO aH aM aW aC aR iW iR aO iO (x, o)) sz) := by
  refine va_MetW (cc := cL_control) (maxL := 4) (ret := some .int) (hh := [(0, 9, 12, 20)]) (by decide) rfl ?_
  intro p e s m args below meth c s₁ B hml hv
  obtain ⟨rfl, ⟨hsz, hD0, hP, hK, hN, hT⟩, hNc⟩ := hv
  have hx := B.exec
  have hb := B.bytes
  have hr := B.returns
  have hB := fun (w : Cond) (h : w ∈ BIG) => atoms_spec (ws := wsL_control) B.pre w (List.mem_cons_of_mem _ h)
  have hown : s.vm.findClass RL = some m.cls := findClass_of_methodNamed B.named
  have hlocks := B.notSynchronized
  have htab := z_table B (hB _ qL_control)
  subst hsz
  have hD := hD0.self (sz := s.heap.size)
  generalize hAe : va_A (wO aH aM aW aC aR iW iR aO iO (x, o)) s.heap.size = A at hD ⊢
  have hA : ∀ q : Nat, s.heap.size ≤ q → A q := fun q h => by rw [← hAe]; exact Or.inr h
  have hS : va_S A s.heap s.heap [] := va_S.rf
  have hl := lv_entry ([.ref aH, .int p0, .ref aO]) (n := 4) (Nat.le_of_ble_eq_true rfl)
  rw [lg_entry_eq]
  generalize (lg_sl ([.ref aH, .int p0, .ref aO]) ++ List.replicate (4 - (lg_sl ([.ref aH, .int p0, .ref aO])).length) Slot.unset).toArray = ls at hl ⊢
  have hl : lv_has ls 4 [(0, .ref aH), (1, .int p0), (2, .ref aO)] := hl
  have hPd : va_P (dC, dI) vwCl (wD aH aM aW aC aR iW iR x) s.heap := j_P (wl := []) hP
  have hDd : va_D A (wD aH aM aW aC aR iW iR x) := j_D (wl := []) hD
  have hKd : va_K (dC, dI) vwCl [(iW, .int), (iR, .int)] s := hK.sub [0, 1] rfl
  refine lv_aload_n hx hb dL_control_0 rfl (lv_at hl 2 rfl) ?_
  refine lv_iconst (v := 0) hx hb dL_control_1 (by decide) ?_
  refine lv_aload_n hx hb dL_control_2 rfl (lv_at hl 0 rfl) ?_
  refine lv_iload_n hx hb dL_control_3 rfl (lv_at hl 1 rfl) ?_
  cases hc : okfX4_control p0 x with
  | true =>
    refine k_ri (va_runV (As := [.int p0]) (rest := [.int 0, .ref aO]) ⟨hx, hb, hml, hown, hB⟩ (mX4_control l dC dI aH aM aW aC aR iW iR x p0 hc) (cwV 1 hB (gV q_t2_212 q_t2_213 q_t2_214 q_t1_1 wX4_control) rfl rfl rfl hX4_control ⟨Nat.le_of_ble_eq_true rfl, Nat.le_of_ble_eq_true rfl⟩) ⟨kP_blind NW_blind, va_recv hKd hPd (ci := 2) (q0 := 0) rfl rfl, kP_pre NW_warm hPd hKd hN⟩ rfl rfl hl.1 rfl (lv_room (Nat.le_of_ble_eq_true rfl)) dL_control_4 ⟨Nat.zero_le _, Nat.zero_le _⟩) ?_
    refine lv_i2l hx hb dL_control_7 rfl ?_
    refine va_last hx hb hK hP hD hS 5 2 rfl rfl (by unfold vp_in; decide) dL_control_8 (fun H locs hP hD hS => ?_)
    refine lv_goto (tgt := 15) hx hb dL_control_9 (by decide) ?_
    refine lv_iconst (v := 0) hx hb dL_control_15 (by decide) ?_
    refine W.widen (k := 1) (n := 6) (Nat.zero_le _) (Nat.zero_le _) ?_
    exact W.iret (v := 0) hx hb hr (fun t ht hW => ⟨⟨0, (x, vp_updL o (0 : Int32).toNatClampNeg ((fX4_control p0 x)).toInt64), rfl, ⟨rfl, (congrArg (Prod.mk x) oS_0.symm)⟩, hpT ht hP⟩, hS.F ht⟩) hS.2.2 dL_control_16
  | false =>
    refine x_callV (As := [.int p0]) (rest := [.int 0, .ref aO]) ⟨hx, hb, hml, hown, hB⟩ (mxX4_control l hlt dC dI aH aM aW aC aR iW iR x p0 hc) (cwV 1 hB (gV q_t2_212 q_t2_213 q_t2_214 q_t1_1 wX4_control) rfl rfl rfl hX4_control ⟨Nat.le_of_ble_eq_true rfl, Nat.le_of_ble_eq_true rfl⟩) ⟨kX_blind, va_recv hKd hPd (ci := 2) (q0 := 0) rfl rfl, kX_pre hPd hKd hN hT⟩ rfl hl.1 rfl (lv_room (Nat.le_of_ble_eq_true rfl)) dL_control_4 ⟨Nat.le_of_ble_eq_true rfl, Nat.le_of_ble_eq_true rfl⟩ hS (fun _ _ h => h.elim) (fun _ h => h.elim) (fun q ce t H locs ht _ hB1 hce hcv hcl _ hk hS => ?_)
    have hJ := j_join (wl := []) hP hD (w' := wD aH aM aW aC aR iW iR x) (H1 := H) (by rw [← ht]; exact hB1) (wD_ad _ _) (fun q h1 _ => hk q h1 (fun h => h))
    refine y_catch (own := RL) (name := "java/util/NoSuchElementException") (E := "java/util/NoSuchElementException") hown [] ⟨0, 9, 12, 20⟩ [] htab (fun _ h => nomatch h) (by decide) (by decide) (hB _ q_t2_188) (va_Nw.use rfl (hT.2.2.1 _ (List.mem_of_getElem? (i := 5) rfl))) hce hcv hcl ?_
    refine lv_astore_n (lv' := [(3, .ref q), (0, .ref aH), (1, .int p0), (2, .ref aO)]) hx hb dL_control_12 rfl hl (by decide) rfl (fun ls hl => ?_)
    refine lv_iconst (v := 1) hx hb dL_control_13 (by decide) ?_
    exact W.iret (v := 1) hx hb hr (fun t ht hW => ⟨⟨1, (x, o), rfl, ⟨rfl, (congrArg (Prod.mk x) (oS_n (c := 1) (by decide)).symm)⟩, hpT ht hJ.1⟩, hS.F ht⟩) hS.2.2 dL_control_14
theorem dL_word_0 : decode cL_word 0 = .ok (.aload_n 2, 1) := by decide +kernel
theorem dL_word_1 : decode cL_word 1 = .ok (.iconst 0, 1) := by decide +kernel
theorem dL_word_2 : decode cL_word 2 = .ok (.aload_n 0, 1) := by decide +kernel
theorem dL_word_3 : decode cL_word 3 = .ok (.iload_n 1, 1) := by decide +kernel
theorem dL_word_4 : decode cL_word 4 = .ok (.invokevirtual 25, 3) := by decide +kernel
theorem dL_word_7 : decode cL_word 7 = .ok (.i2l, 1) := by decide +kernel
theorem dL_word_8 : decode cL_word 8 = .ok (.lastore, 1) := by decide +kernel
theorem dL_word_9 : decode cL_word 9 = .ok (.goto 6, 3) := by decide +kernel
theorem dL_word_12 : decode cL_word 12 = .ok (.astore_n 3, 1) := by decide +kernel
theorem dL_word_13 : decode cL_word 13 = .ok (.iconst 1, 1) := by decide +kernel
theorem dL_word_14 : decode cL_word 14 = .ok (.ireturn, 1) := by decide +kernel
theorem dL_word_15 : decode cL_word 15 = .ok (.iconst 0, 1) := by decide +kernel
theorem dL_word_16 : decode cL_word 16 = .ok (.ireturn, 1) := by decide +kernel
def wsL_word : List Cond := .codeWith yL_word cL_word 4 (some .int) [(0, 9, 12, 20)] :: BIG
set_option maxRecDepth 20000 in
theorem qL_word : Cond.codeWith yL_word cL_word 4 (some .int) [(0, 9, 12, 20)] ∈ BIG := big_t2 (i := 219) rfl rfl
theorem wL_word : ∀ w ∈ wsL_word, w ∈ BIG := in_c qL_word (fun _ h => h)
set_option maxHeartbeats 4000000 in
set_option maxRecDepth 100000 in
theorem mL_word (l : Launch) (hlt : l.stackTraces = false) (dC : Nat → ClassId) (dI : Nat → Nat → Nat) (aH aM aW aC aR iW iR aO iO : Nat) (sz : Nat) (x : St) (o : Nat → Int64) (p0 : Int32) : Met l yL_word wsL_word ({ frames := 7, cells := 1, slots := 6, locals := 103 }) (va_Pc [.ref aH, .int p0, .ref aO] (kL (dC, dI) [(iW, .int), (iR, .int), (iO, .long)] (wO aH aM aW aC aR iW iR aO iO (x, o)) sz)) (va_Qi (fun r u => r = cb (okfX4_word p0 x) ∧ u = (x, oS (cb (okfX4_word p0 x)) o (fX4_word p0 x))) (fun u t => va_P (dC, dI) vwCl (wO aH aM aW aC aR iW iR aO iO u) t.heap) (va_A (wO aH aM aW aC aR iW iR aO iO (x, o)) sz)) 1 6 (va_A (wO aH aM aW aC aR iW iR aO iO (x, o)) sz) := by
  refine va_MetW (cc := cL_word) (maxL := 4) (ret := some .int) (hh := [(0, 9, 12, 20)]) (by decide) rfl ?_
  intro p e s m args below meth c s₁ B hml hv
  obtain ⟨rfl, ⟨hsz, hD0, hP, hK, hN, hT⟩, hNc⟩ := hv
  have hx := B.exec
  have hb := B.bytes
  have hr := B.returns
  have hB := fun (w : Cond) (h : w ∈ BIG) => atoms_spec (ws := wsL_word) B.pre w (List.mem_cons_of_mem _ h)
  have hown : s.vm.findClass RL = some m.cls := findClass_of_methodNamed B.named
  have hlocks := B.notSynchronized
  have htab := z_table B (hB _ qL_word)
  subst hsz
  have hD := hD0.self (sz := s.heap.size)
  generalize hAe : va_A (wO aH aM aW aC aR iW iR aO iO (x, o)) s.heap.size = A at hD ⊢
  have hA : ∀ q : Nat, s.heap.size ≤ q → A q := fun q h => by rw [← hAe]; exact Or.inr h
  have hS : va_S A s.heap s.heap [] := va_S.rf
  have hl := lv_entry ([.ref aH, .int p0, .ref aO]) (n := 4) (Nat.le_of_ble_eq_true rfl)
  rw [lg_entry_eq]
  generalize (lg_sl ([.ref aH, .int p0, .ref aO]) ++ List.replicate (4 - (lg_sl ([.ref aH, .int p0, .ref aO])).length) Slot.unset).toArray = ls at hl ⊢
  have hl : lv_has ls 4 [(0, .ref aH), (1, .int p0), (2, .ref aO)] := hl
  have hPd : va_P (dC, dI) vwCl (wD aH aM aW aC aR iW iR x) s.heap := j_P (wl := []) hP
  have hDd : va_D A (wD aH aM aW aC aR iW iR x) := j_D (wl := []) hD
  have hKd : va_K (dC, dI) vwCl [(iW, .int), (iR, .int)] s := hK.sub [0, 1] rfl
  refine lv_aload_n hx hb dL_word_0 rfl (lv_at hl 2 rfl) ?_
  refine lv_iconst (v := 0) hx hb dL_word_1 (by decide) ?_
  refine lv_aload_n hx hb dL_word_2 rfl (lv_at hl 0 rfl) ?_
  refine lv_iload_n hx hb dL_word_3 rfl (lv_at hl 1 rfl) ?_
  cases hc : okfX4_word p0 x with
  | true =>
    refine k_ri (va_runV (As := [.int p0]) (rest := [.int 0, .ref aO]) ⟨hx, hb, hml, hown, hB⟩ (mX4_word l dC dI aH aM aW aC aR iW iR x p0 hc) (cwV 1 hB (gV q_t2_220 q_t2_221 q_t2_222 q_t1_1 wX4_word) rfl rfl rfl hX4_word ⟨Nat.le_of_ble_eq_true rfl, Nat.le_of_ble_eq_true rfl⟩) ⟨kP_blind NW_blind, va_recv hKd hPd (ci := 2) (q0 := 0) rfl rfl, kP_pre NW_warm hPd hKd hN⟩ rfl rfl hl.1 rfl (lv_room (Nat.le_of_ble_eq_true rfl)) dL_word_4 ⟨Nat.zero_le _, Nat.zero_le _⟩) ?_
    refine lv_i2l hx hb dL_word_7 rfl ?_
    refine va_last hx hb hK hP hD hS 5 2 rfl rfl (by unfold vp_in; decide) dL_word_8 (fun H locs hP hD hS => ?_)
    refine lv_goto (tgt := 15) hx hb dL_word_9 (by decide) ?_
    refine lv_iconst (v := 0) hx hb dL_word_15 (by decide) ?_
    refine W.widen (k := 1) (n := 6) (Nat.zero_le _) (Nat.zero_le _) ?_
    exact W.iret (v := 0) hx hb hr (fun t ht hW => ⟨⟨0, (x, vp_updL o (0 : Int32).toNatClampNeg ((fX4_word p0 x)).toInt64), rfl, ⟨rfl, (congrArg (Prod.mk x) oS_0.symm)⟩, hpT ht hP⟩, hS.F ht⟩) hS.2.2 dL_word_16
  | false =>
    refine x_callV (As := [.int p0]) (rest := [.int 0, .ref aO]) ⟨hx, hb, hml, hown, hB⟩ (mxX4_word l hlt dC dI aH aM aW aC aR iW iR x p0 hc) (cwV 1 hB (gV q_t2_220 q_t2_221 q_t2_222 q_t1_1 wX4_word) rfl rfl rfl hX4_word ⟨Nat.le_of_ble_eq_true rfl, Nat.le_of_ble_eq_true rfl⟩) ⟨kX_blind, va_recv hKd hPd (ci := 2) (q0 := 0) rfl rfl, kX_pre hPd hKd hN hT⟩ rfl hl.1 rfl (lv_room (Nat.le_of_ble_eq_true rfl)) dL_word_4 ⟨Nat.le_of_ble_eq_true rfl, Nat.le_of_ble_eq_true rfl⟩ hS (fun _ _ h => h.elim) (fun _ h => h.elim) (fun q ce t H locs ht _ hB1 hce hcv hcl _ hk hS => ?_)
    have hJ := j_join (wl := []) hP hD (w' := wD aH aM aW aC aR iW iR x) (H1 := H) (by rw [← ht]; exact hB1) (wD_ad _ _) (fun q h1 _ => hk q h1 (fun h => h))
    refine y_catch (own := RL) (name := "java/util/NoSuchElementException") (E := "java/util/NoSuchElementException") hown [] ⟨0, 9, 12, 20⟩ [] htab (fun _ h => nomatch h) (by decide) (by decide) (hB _ q_t2_188) (va_Nw.use rfl (hT.2.2.1 _ (List.mem_of_getElem? (i := 5) rfl))) hce hcv hcl ?_
    refine lv_astore_n (lv' := [(3, .ref q), (0, .ref aH), (1, .int p0), (2, .ref aO)]) hx hb dL_word_12 rfl hl (by decide) rfl (fun ls hl => ?_)
    refine lv_iconst (v := 1) hx hb dL_word_13 (by decide) ?_
    exact W.iret (v := 1) hx hb hr (fun t ht hW => ⟨⟨1, (x, o), rfl, ⟨rfl, (congrArg (Prod.mk x) (oS_n (c := 1) (by decide)).symm)⟩, hpT ht hJ.1⟩, hS.F ht⟩) hS.2.2 dL_word_14
