/-! what the start gives -/
theorem vk_of {own tx : String} {k : Nat} {A : Array Value} {U : State} (h : (Cond.stringRef own k tx).before A U = true) : ∃ a, vk_R own k tx a U := by
  cases hc : U.vm.findClass own with
  | none => simp [Cond.before, Cond.holds, Cond.value, hc] at h
  | some cc =>
    obtain ⟨k1, cf, i, a, hk, hcf, hp, -, hr, -⟩ := Cond.stringRef_spec hc h
    exact ⟨a, vk_R.of (A := A) h (by simp [Term.eval, hc, hk, hr])⟩
set_option maxRecDepth 100000 in
theorem nest_in : ∀ w ∈ nestWs, w ∈ lw_tbl := by decide +kernel
set_option maxRecDepth 100000 in
theorem xw_in : ∀ w ∈ xWs, w ∈ lw_tbl := by decide +kernel
set_option maxHeartbeats 4000000 in
set_option maxRecDepth 100000 in
/-- THE LAW, from its entry -/
theorem whole_start {p : Program} {e : Env} {s : State} {m : MethodId} {below : List Frame} {meth : Method} {c : Code} (l : Launch) (hlt : l.stackTraces = false) {b L : Nat} {xs : Nat → Int32} (hL : L ≤ 1536) (C0 : lw_At p s m meth c b L xs) : W p l e room_1 s m #[Value.ref b] below meth c s.heap [] 0 0 (lw_Z below #[Value.ref b] s) (entryFrame m ([Value.ref b] : List Value).toArray 7) := by
  obtain ⟨hx, hb, hr, hml, hown, hts, hX, hbl, hlocks, hgv⟩ := id C0
  have hA : ∀ q : Nat, s.heap.size ≤ q → (fun q : Nat => s.heap.size ≤ q) q := fun _ h => h
  have hB : ∀ w ∈ BIG, w.before #[Value.ref b] s = true := fun w h => hts w (big_tbl h)
  have hN : NW s := fun w hw => va_Nw.of (nest_tab w hw) (hts w (nest_in w hw))
  have hs := flat_of_before _ hgv
  have hT : TF s s.heap := ⟨x_St.of (hts (.laysStatic Bundle.tN "UNASSIGNED_STACK" Bundle.steD) (by decide +kernel)) (hs (.isRef (.static Bundle.tN "UNASSIGNED_STACK" Bundle.steD)) (by decide +kernel)), x_St.of (hts (.laysStatic Bundle.tN "SUPPRESSED_SENTINEL" Bundle.listD) (by decide +kernel)) (hs (.isRef (.static Bundle.tN "SUPPRESSED_SENTINEL" Bundle.listD)) (by decide +kernel)), fun w hw => va_Nw.of (xw_tab (xw_is w hw)) (hts w (xw_in w hw)), vk_of (hts (.stringRef "HartDesk" 47 "n is not 1 .. 1000") (by decide +kernel)), vk_of (hts (.stringRef "HartDesk" 110 "100000 steps have been in all") (by decide +kernel)), vk_of (hts (.stringRef "HartDesk" 80 "no such register") (by decide +kernel)), vk_of (hts (.stringRef "HartDesk" 90 "no such control") (by decide +kernel)), vk_of (hts (.stringRef "HartDesk" 95 "no word at this address") (by decide +kernel))⟩
  have hNc : va_Nc "java/lang/IllegalStateException" "java/lang/IllegalArgumentException" s := va_Nc.of (hs (.not (.castable "java/lang/IllegalStateException" "java/lang/IllegalArgumentException")) (by decide +kernel))
  obtain ⟨c0, iS0, hKn0⟩ := u_known (C := RX2) (T := TX2) (N := 9) (n := 9) hB iX2 (hB _ q_t1_34)
  obtain ⟨c1, iS1, hKn1⟩ := u_known (C := RX3) (T := TX3) (N := 1) (n := 1) hB iX3 (hB _ q_t1_23)
  obtain ⟨c2, iS2, hKn2⟩ := u_known (C := RX4) (T := TX4) (N := 7) (n := 7) hB iX4 (hB _ q_t1_15)
  obtain ⟨c3, iS3, hKn3⟩ := u_known (C := RX5) (T := TX5) (N := 15) (n := 15) hB iX5 (hB _ q_t2_226)
  obtain ⟨dC, dI, hKc⟩ : ∃ (dC : Nat → ClassId) (dI : Nat → Nat → Nat), ∀ (k : Nat) (q : vw_C), vwCl[k]? = some q → u_Kn s q.1 q.2.1 q.2.2 (dC k) (dI k) := by
    refine ⟨fun k => if k = 0 then c0 else if k = 1 then c1 else if k = 2 then c2 else c3, fun k => if k = 0 then iS0 else if k = 1 then iS1 else if k = 2 then iS2 else iS3, ?_⟩
    intro k q hq
    match k, hq with
    | 0, hq => cases hq; exact hKn0
    | 1, hq => cases hq; exact hKn1
    | 2, hq => cases hq; exact hKn2
    | 3, hq => cases hq; exact hKn3
    | k + 4, hq => simp [vwCl] at hq
  have hS : va_S (fun q : Nat => s.heap.size ≤ q) s.heap s.heap [] := va_S.rf
  have hK : va_K (dC, dI) vwCl [] s := ⟨hKc, fun k q h => by simp at h⟩
  have hP : va_P (dC, dI) vwCl [] s.heap := fun k q h => by simp at h
  have hD : va_D (fun q : Nat => s.heap.size ≤ q) [] := ⟨fun i j p q h => by simp at h, fun k q h => by simp at h⟩
  have hl := lv_entry ([.ref b]) (n := 7) (Nat.le_of_ble_eq_true rfl)
  rw [lg_entry_eq]
  generalize (lg_sl ([.ref b]) ++ List.replicate (7 - (lg_sl ([.ref b])).length) Slot.unset).toArray = ls at hl ⊢
  have hl : lv_has ls 7 [(0, .ref b)] := hl
  refine va_new (ci := 2) (fs := [.null, .null, .null, .int 0, .int 0, .int 0, .int 0]) (C := RX4) (T := TX4) (N := 7) hx hb hB iX4 tyX4 tyX4_ok hown (hB _ q_t1_14) (hB _ q_t1_15) (hB _ q_t1_1) hK hP hD hS hA rfl (fun j hj => by rcases (show j = 0 ∨ j = 1 ∨ j = 2 ∨ j = 3 ∨ j = 4 ∨ j = 5 ∨ j = 6 by omega) with rfl | rfl | rfl | rfl | rfl | rfl | rfl <;> rfl) (Nat.le_of_ble_eq_true rfl) (Nat.le_of_ble_eq_true rfl) dL_law_0 (fun aH H hP hD hS => ?_)
  have hP : va_P (dC, dI) vwCl ([(aH, .inr (2, [.null, .null, .null, .int 0, .int 0, .int 0, .int 0]))]) H := hP
  have hD : va_D (fun q : Nat => s.heap.size ≤ q) ([(aH, .inr (2, [.null, .null, .null, .int 0, .int 0, .int 0, .int 0]))]) := hD
  refine W.widen (k := 1) (n := 7) (by omega) (by omega) ?_
  refine lv_dup hx hb dL_law_3 rfl ?_
  have hPc := hP.sub (ws' := [(aH, .inr (2, [.null, .null, .null, .int 0, .int 0, .int 0, .int 0]))]) [0] rfl
  have hDc := hD.sub (ws' := [(aH, .inr (2, [.null, .null, .null, .int 0, .int 0, .int 0, .int 0]))]) [0] (by decide) rfl
  have hKc := hK.sub (tys' := []) [] rfl
  have hFc := va_free (wc := [(aH, .inr (2, [.null, .null, .null, .int 0, .int 0, .int 0, .int 0]))]) hD hS hA [0] rfl
  refine va_callv (va_runI (As := []) (rest := [.ref aH]) ⟨hx, hb, hml, hown, hB⟩ (mX4_init l dC dI aH H.size) (cwI 0 hB (good_in wX4_init) rfl rfl rfl (hB _ q_t1_1) (hB _ q_t1_16) (hB _ q_t1_17) rfl hX4_init.2 ⟨Nat.le_of_ble_eq_true rfl, Nat.le_of_ble_eq_true rfl⟩) ⟨kM_blind NW_blind, kM_pre NW_warm hPc hKc hDc hN⟩ rfl rfl hl.1 rfl (lv_room (Nat.le_of_ble_eq_true rfl)) dL_law_4 ⟨Nat.le_of_ble_eq_true rfl, Nat.le_of_ble_eq_true rfl⟩) hS (fun q _ h => hFc q h) hFc (fun u t H1 locs ht hvm hw hB1 hz1 hk1 hS => ?_)
  obtain ⟨aM, aW, aC, aR, iW, iR⟩ := u
  obtain ⟨hP1, hK1, hD1⟩ := hB1
  rw [ht] at hP1
  have hK1 := va_K.moved hvm.symm hK1
  obtain ⟨hP, hD⟩ := va_join (wr := []) (w1 := (wD aH aM aW aC aR iW iR x00)) hP hD [0] [] rfl rfl (by decide) (by decide) hk1 hFc hP1 hD1
  have hK : va_K (dC, dI) vwCl [(iW, .int), (iR, .int)] s := hK1
  generalize H1 = H at hP hS ⊢
  have hP : va_P (dC, dI) vwCl (wD aH aM aW aC aR iW iR x00) H := hP
  have hD : va_D (fun q : Nat => s.heap.size ≤ q) (wD aH aM aW aC aR iW iR x00) := hD
  refine W.widen (k := 5) (n := 1073) (by omega) (by omega) ?_
  refine lv_astore_n (lv' := [(1, .ref aH), (0, .ref b)]) hx hb dL_law_7 rfl hl (by decide) rfl (fun ls hl => ?_)
  refine va_new (ci := 3) (fs := [.int 0, .null, .null, .int 0, .null, .int 0, .int 0, .int 0, .int 0, .int 0, .int 0, .int 0, .int 0, .int 0, .int 0]) (C := RX5) (T := TX5) (N := 15) hx hb hB iX5 tyX5 tyX5_ok hown (hB _ q_t2_225) (hB _ q_t2_226) (hB _ q_t1_4) hK hP hD hS hA rfl (fun j hj => by rcases (show j = 0 ∨ j = 1 ∨ j = 2 ∨ j = 3 ∨ j = 4 ∨ j = 5 ∨ j = 6 ∨ j = 7 ∨ j = 8 ∨ j = 9 ∨ j = 10 ∨ j = 11 ∨ j = 12 ∨ j = 13 ∨ j = 14 by omega) with rfl | rfl | rfl | rfl | rfl | rfl | rfl | rfl | rfl | rfl | rfl | rfl | rfl | rfl | rfl <;> rfl) (Nat.le_of_ble_eq_true rfl) (Nat.le_of_ble_eq_true rfl) dL_law_8 (fun bH H hP hD hS => ?_)
  have hP : va_P (dC, dI) vwCl (wD aH aM aW aC aR iW iR x00 ++ [(bH, .inr (3, [.int 0, .null, .null, .int 0, .null, .int 0, .int 0, .int 0, .int 0, .int 0, .int 0, .int 0, .int 0, .int 0, .int 0]))]) H := hP
  have hD : va_D (fun q : Nat => s.heap.size ≤ q) (wD aH aM aW aC aR iW iR x00 ++ [(bH, .inr (3, [.int 0, .null, .null, .int 0, .null, .int 0, .int 0, .int 0, .int 0, .int 0, .int 0, .int 0, .int 0, .int 0, .int 0]))]) := hD
  refine W.widen (k := 6) (n := 1088) (by omega) (by omega) ?_
  refine lv_dup hx hb dL_law_11 rfl ?_
  have hPc := hP.sub (ws' := [(bH, .inr (3, [.int 0, .null, .null, .int 0, .null, .int 0, .int 0, .int 0, .int 0, .int 0, .int 0, .int 0, .int 0, .int 0, .int 0]))]) [5] rfl
  have hDc := hD.sub (ws' := [(bH, .inr (3, [.int 0, .null, .null, .int 0, .null, .int 0, .int 0, .int 0, .int 0, .int 0, .int 0, .int 0, .int 0, .int 0, .int 0]))]) [5] (by decide) rfl
  have hKc := hK.sub (tys' := []) [] rfl
  have hFc := va_free (wc := [(bH, .inr (3, [.int 0, .null, .null, .int 0, .null, .int 0, .int 0, .int 0, .int 0, .int 0, .int 0, .int 0, .int 0, .int 0, .int 0]))]) hD hS hA [5] rfl
  refine va_callv (va_runI (As := []) (rest := [.ref bH]) ⟨hx, hb, hml, hown, hB⟩ (mX5_init l dC dI bH H.size) (cwI 0 hB (good_in wX5_init) rfl rfl rfl (hB _ q_t1_4) (hB _ q_t2_227) (hB _ q_t2_228) rfl hX5_init.2 ⟨Nat.le_of_ble_eq_true rfl, Nat.le_of_ble_eq_true rfl⟩) ⟨kM_blind NT_blind, kM_pre NT_warm hPc hKc hDc trivial⟩ rfl rfl hl.1 rfl (lv_room (Nat.le_of_ble_eq_true rfl)) dL_law_12 ⟨Nat.le_of_ble_eq_true rfl, Nat.le_of_ble_eq_true rfl⟩) hS (fun q _ h => hFc q h) hFc (fun u t H1 locs ht hvm hw hB1 hz1 hk1 hS => ?_)
  obtain ⟨bM, bR, bC, jM, jR, jC⟩ := u
  obtain ⟨hP1, hK1, hD1⟩ := hB1
  rw [ht] at hP1
  have hK1 := va_K.moved hvm.symm hK1
  obtain ⟨hP, hD⟩ := va_join (wr := (wD aH aM aW aC aR iW iR x00)) (w1 := (wR bH bM bR bC jM jR jC y00)) hP hD [5] [0, 1, 2, 3, 4] rfl rfl (by decide) (by decide) hk1 hFc hP1 hD1
  have hK : va_K (dC, dI) vwCl [(iW, .int), (iR, .int), (jM, .int), (jR, .int), (jC, .int)] s := hK.app hK1
  generalize H1 = H at hP hS ⊢
  have hP : va_P (dC, dI) vwCl (wD aH aM aW aC aR iW iR x00 ++ wR bH bM bR bC jM jR jC y00) H := hP
  have hD : va_D (fun q : Nat => s.heap.size ≤ q) (wD aH aM aW aC aR iW iR x00 ++ wR bH bM bR bC jM jR jC y00) := hD
  refine W.widen (k := 9) (n := 2153) (by omega) (by omega) ?_
  refine lv_astore_n (lv' := [(2, .ref bH), (1, .ref aH), (0, .ref b)]) hx hb dL_law_15 rfl hl (by decide) rfl (fun ls hl => ?_)
  refine lv_iconst (v := 1) hx hb dL_law_16 (by decide) ?_
  refine va_newa (atype := .long) (N' := 1) (a0 := (1, .inr (.inl (fun _ => 0)))) (ty := .long) hx hb (hB _ q_t3_207) rfl hK hP hD hS hA (fun _ => rfl) (by decide) (by decide) (by decide) (Nat.le_of_ble_eq_true rfl) (Nat.le_of_ble_eq_true rfl) dL_law_17 (fun aO iO H hK hP hD hS => ?_)
  refine W.widen (k := 10) (n := 2154) (by omega) (by omega) ?_
  refine lv_astore_n (lv' := [(3, .ref aO), (2, .ref bH), (1, .ref aH), (0, .ref b)]) hx hb dL_law_19 rfl hl (by decide) rfl (fun ls hl => ?_)
  refine lv_iconst (v := 0) hx hb dL_law_20 (by decide) ?_
  refine lv_istore (lv' := [(4, .int 0), (3, .ref aO), (2, .ref bH), (1, .ref aH), (0, .ref b)]) hx hb dL_law_21 hl (by decide) rfl (fun ls hl => ?_)
  have hK : va_K (dC, dI) vwCl [(iW, .int), (iR, .int), (jM, .int), (jR, .int), (jC, .int), (iO, .long)] s := hK
  have hP : va_P (dC, dI) vwCl (wR bH bM bR bC jM jR jC y00 ++ (wD aH aM aW aC aR iW iR x00 ++ [(aO, .inl (iO, 1, .inr (.inl (fun _ => 0))))])) H := hP.sub [5, 6, 7, 8, 0, 1, 2, 3, 4, 9] rfl
  have hD : va_D (fun q : Nat => s.heap.size ≤ q) (wR bH bM bR bC jM jR jC y00 ++ (wD aH aM aW aC aR iW iR x00 ++ [(aO, .inl (iO, 1, .inr (.inl (fun _ => 0))))])) := hD.sub [5, 6, 7, 8, 0, 1, 2, 3, 4, 9] (by decide) rfl
  exact law_loop (Rel := fun _ x y => Rl x y) hlt hx hb hr hml hown hB hX hbl hlocks hN hT hNc (hK.sub [0, 1] rfl) (hK.sub [2, 3, 4] rfl) (hK.sub [0, 1, 5] rfl) hL
    (fun _ x y a w _ h => (Rl_set a w h).2)
    (fun _ x y a w _ h => (Rl_put a w h).2)
    (fun _ x y b _ h => Rl_line b h)
    (fun _ x y a _ h => Rl_run a h)
    (fun _ x y b _ h => Rl_reset b h)
    (fun _ x y a _ h => (Rl_register a h).2)
    (fun _ x y a _ h => (Rl_control a h).2)
    (fun _ x y a _ h => Rl_word a h)
    (fun _ x y a _ h => (Rl_state a h).2)
    (fun _ x y _ h => h)
    512 0 (by omega) (by omega) x00 y00 (fun _ => 0) H _ ls Rl_0 hP hD hS (lv_sub hl [4, 3, 2, 1, 0] rfl)
