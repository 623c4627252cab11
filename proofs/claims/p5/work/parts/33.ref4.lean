def qL (p0 p1 : Int32) : Nat → Int32 → Int32 → Int32
  | 0, q, _ => q
  | j + 1, q, r => if 0 ≤ r then
      if (bi (fX5_isBelow ((r <<< ((1 : Int32) &&& 31)) ||| ((ush p0 (nI j)) &&& (1 : Int32))) p1)) = 0 then
        qL p0 p1 j ((q <<< ((1 : Int32) &&& 31)) ||| (1 : Int32)) (((r <<< ((1 : Int32) &&& 31)) ||| ((ush p0 (nI j)) &&& (1 : Int32))) - p1)
      else
        qL p0 p1 j (q <<< ((1 : Int32) &&& 31)) ((r <<< ((1 : Int32) &&& 31)) ||| ((ush p0 (nI j)) &&& (1 : Int32)))
    else
      qL p0 p1 j ((q <<< ((1 : Int32) &&& 31)) ||| (1 : Int32)) (((r <<< ((1 : Int32) &&& 31)) ||| ((ush p0 (nI j)) &&& (1 : Int32))) - p1)
theorem qL_s (p0 p1 : Int32) (j : Nat) (q r : Int32) : qL p0 p1 (j + 1) q r = (if 0 ≤ r then
      if (bi (fX5_isBelow ((r <<< ((1 : Int32) &&& 31)) ||| ((ush p0 (nI j)) &&& (1 : Int32))) p1)) = 0 then
        qL p0 p1 j ((q <<< ((1 : Int32) &&& 31)) ||| (1 : Int32)) (((r <<< ((1 : Int32) &&& 31)) ||| ((ush p0 (nI j)) &&& (1 : Int32))) - p1)
      else
        qL p0 p1 j (q <<< ((1 : Int32) &&& 31)) ((r <<< ((1 : Int32) &&& 31)) ||| ((ush p0 (nI j)) &&& (1 : Int32)))
    else
      qL p0 p1 j ((q <<< ((1 : Int32) &&& 31)) ||| (1 : Int32)) (((r <<< ((1 : Int32) &&& 31)) ||| ((ush p0 (nI j)) &&& (1 : Int32))) - p1)) := rfl
def fX5_quotient (p0 p1 : Int32) : Int32 := qL p0 p1 32 0 0
set_option maxHeartbeats 4000000 in
set_option maxRecDepth 100000 in
theorem q_loop {p : Program} {l : Launch} {e : Env} {s : State} {m : MethodId} {args : Array Value} {below : List Frame} {meth : Method} {c : Code} {p0 p1 : Int32} (hx : p.tables.exec = Jvm.exec) (hb : c.code = cX5_quotient) (hr : meth.sig.returnType = some .int) (hlocks : meth.locks = false) (hml : c.maxLocals = 6) (hown : s.vm.findClass RX5 = some m.cls) (hB : ∀ w ∈ BIG, w.before args s = true) :
    ∀ (j : Nat), j < 2 ^ 31 → ∀ (q r : Int32) (ls : Array Slot), lv_has ls 6 [(0, .int p0), (1, .int p1), (2, .int q), (3, .int r), (4, .int (nI j + (-1)))] → W p l e (headSpec wsX5_quotient ({ frames := 1, cells := 0, slots := 0, locals := 21 })).room s m args below meth c s.heap [] 0 0 (MQ below (QcRead (qL p0 p1 j q r)) args s 0 0 (fun _ => False)) (F0 m 8 ls []) := by
  intro j
  induction j with
  | zero =>
    intro _ q r ls hl
    refine lv_iload hx hb dX5_quotient_8 (lv_at hl 4 rfl) ?_
    refine lv_if_lt (tgt := 66) hx hb dX5_quotient_10 (by decide) (fun _ => ?_) (fun h9 => absurd (by decide) h9)
    refine lv_iload_n hx hb dX5_quotient_66 rfl (lv_at hl 2 rfl) ?_
    exact W.iret (v := q) hx hb hr (fun t ht hW => ⟨rfl, ht⟩) (fun q h => nomatch h) dX5_quotient_67
  | succ j ih =>
    intro hj q r ls hl
    have ih := ih (by omega)
    rw [pk_m1] at hl
    refine lv_iload hx hb dX5_quotient_8 (lv_at hl 4 rfl) ?_
    refine lv_if_lt (tgt := 66) hx hb dX5_quotient_10 (by decide) (fun h9 => absurd h9 (nI_pos (by omega))) (fun _ => ?_)
    refine lv_iload_n hx hb dX5_quotient_13 rfl (lv_at hl 3 rfl) ?_
    refine lv_if_ge (tgt := 21) hx hb dX5_quotient_14 (by decide) (fun c_14 => ?_) (fun c_14 => ?_)
    · refine lv_iconst (v := 0) hx hb dX5_quotient_21 (by decide) ?_
      refine lv_istore (lv' := [(5, .int (0 : Int32)), (0, .int p0), (1, .int p1), (2, .int q), (3, .int r), (4, .int (nI j))]) hx hb dX5_quotient_22 hl (by decide) rfl (fun ls hl => ?_)
      refine lv_iload_n hx hb dX5_quotient_24 rfl (lv_at hl 4 rfl) ?_
      refine lv_iconst (v := 1) hx hb dX5_quotient_25 (by decide) ?_
      refine lv_ishl hx hb dX5_quotient_26 ?_
      refine lv_iload_n hx hb dX5_quotient_27 rfl (lv_at hl 1 rfl) ?_
      refine lv_iload hx hb dX5_quotient_28 (lv_at hl 5 rfl) ?_
      refine lv_iushr (v := ush p0 (nI j)) hx hb dX5_quotient_30 rfl ?_
      refine lv_iconst (v := 1) hx hb dX5_quotient_31 (by decide) ?_
      refine lv_iand hx hb dX5_quotient_32 ?_
      refine lv_ior hx hb dX5_quotient_33 ?_
      refine lv_istore_n (lv' := [(3, .int ((r <<< ((1 : Int32) &&& 31)) ||| ((ush p0 (nI j)) &&& (1 : Int32)))), (5, .int (0 : Int32)), (0, .int p0), (1, .int p1), (2, .int q), (4, .int (nI j))]) hx hb dX5_quotient_34 rfl hl (by decide) rfl (fun ls hl => ?_)
      refine lv_iload_n hx hb dX5_quotient_35 rfl (lv_at hl 4 rfl) ?_
      refine lv_iconst (v := 1) hx hb dX5_quotient_36 (by decide) ?_
      refine lv_ishl hx hb dX5_quotient_37 ?_
      refine lv_istore_n (lv' := [(2, .int (q <<< ((1 : Int32) &&& 31))), (3, .int ((r <<< ((1 : Int32) &&& 31)) ||| ((ush p0 (nI j)) &&& (1 : Int32)))), (5, .int (0 : Int32)), (0, .int p0), (1, .int p1), (4, .int (nI j))]) hx hb dX5_quotient_38 rfl hl (by decide) rfl (fun ls hl => ?_)
      refine lv_iload hx hb dX5_quotient_39 (lv_at hl 2 rfl) ?_
      refine lv_if_ne (tgt := 52) hx hb dX5_quotient_41 (by decide) (fun h9 => absurd h9 (by decide)) (fun _ => ?_)
      refine lv_iload_n hx hb dX5_quotient_44 rfl (lv_at hl 1 rfl) ?_
      refine lv_iload_n hx hb dX5_quotient_45 rfl (lv_at hl 4 rfl) ?_
      refine k_ri (va_runS (As := [.int ((r <<< ((1 : Int32) &&& 31)) ||| ((ush p0 (nI j)) &&& (1 : Int32))), .int p1]) (rest := []) ⟨hx, hb, hml, hown, hB⟩ (mX5_isBelow l ((r <<< ((1 : Int32) &&& 31)) ||| ((ush p0 (nI j)) &&& (1 : Int32))) p1) (va_cwS 2 hB (gS q_t3_122 q_t3_123 q_t1_4 wX5_isBelow) rfl rfl rfl hX5_isBelow.2 ⟨Nat.le_of_ble_eq_true rfl, Nat.le_of_ble_eq_true rfl⟩) ⟨fun _ _ _ _ q => q, fun U _ _ => ⟨rfl, trivial⟩⟩ rfl rfl hl.1 rfl (lv_room (Nat.le_of_ble_eq_true rfl)) dX5_quotient_46 ⟨Nat.zero_le _, Nat.zero_le _⟩) ?_
      refine lv_if_ne (tgt := 60) hx hb dX5_quotient_49 (by decide) (fun c_49 => ?_) (fun c_49 => ?_)
      · refine lv_iinc (v := (nI j) + (-1 : Int32)) (lv' := [(4, .int ((nI j) + (-1 : Int32))), (2, .int (q <<< ((1 : Int32) &&& 31))), (3, .int ((r <<< ((1 : Int32) &&& 31)) ||| ((ush p0 (nI j)) &&& (1 : Int32)))), (5, .int (0 : Int32)), (0, .int p0), (1, .int p1)]) hx hb dX5_quotient_60 hl (k := 5) rfl rfl (by decide) rfl (fun ls hl => ?_)
        refine lv_goto (tgt := 8) hx hb dX5_quotient_63 (by decide) ?_
        have e9 : qL p0 p1 (j + 1) q r = qL p0 p1 j (q <<< ((1 : Int32) &&& 31)) ((r <<< ((1 : Int32) &&& 31)) ||| ((ush p0 (nI j)) &&& (1 : Int32))) := by (rw [qL_s, if_pos c_14, if_neg c_49] <;> rfl)
        rw [e9]
        exact ih (q <<< ((1 : Int32) &&& 31)) ((r <<< ((1 : Int32) &&& 31)) ||| ((ush p0 (nI j)) &&& (1 : Int32))) ls (lv_sub hl [4, 5, 1, 2, 0] rfl)
      · refine lv_iload_n hx hb dX5_quotient_52 rfl (lv_at hl 1 rfl) ?_
        refine lv_iload_n hx hb dX5_quotient_53 rfl (lv_at hl 4 rfl) ?_
        refine lv_isub hx hb dX5_quotient_54 ?_
        refine lv_istore_n (lv' := [(3, .int (((r <<< ((1 : Int32) &&& 31)) ||| ((ush p0 (nI j)) &&& (1 : Int32))) - p1)), (2, .int (q <<< ((1 : Int32) &&& 31))), (5, .int (0 : Int32)), (0, .int p0), (1, .int p1), (4, .int (nI j))]) hx hb dX5_quotient_55 rfl hl (by decide) rfl (fun ls hl => ?_)
        refine lv_iload_n hx hb dX5_quotient_56 rfl (lv_at hl 1 rfl) ?_
        refine lv_iconst (v := 1) hx hb dX5_quotient_57 (by decide) ?_
        refine lv_ior hx hb dX5_quotient_58 ?_
        refine lv_istore_n (lv' := [(2, .int ((q <<< ((1 : Int32) &&& 31)) ||| (1 : Int32))), (3, .int (((r <<< ((1 : Int32) &&& 31)) ||| ((ush p0 (nI j)) &&& (1 : Int32))) - p1)), (5, .int (0 : Int32)), (0, .int p0), (1, .int p1), (4, .int (nI j))]) hx hb dX5_quotient_59 rfl hl (by decide) rfl (fun ls hl => ?_)
        refine lv_iinc (v := (nI j) + (-1 : Int32)) (lv' := [(4, .int ((nI j) + (-1 : Int32))), (2, .int ((q <<< ((1 : Int32) &&& 31)) ||| (1 : Int32))), (3, .int (((r <<< ((1 : Int32) &&& 31)) ||| ((ush p0 (nI j)) &&& (1 : Int32))) - p1)), (5, .int (0 : Int32)), (0, .int p0), (1, .int p1)]) hx hb dX5_quotient_60 hl (k := 5) rfl rfl (by decide) rfl (fun ls hl => ?_)
        refine lv_goto (tgt := 8) hx hb dX5_quotient_63 (by decide) ?_
        have e9 : qL p0 p1 (j + 1) q r = qL p0 p1 j ((q <<< ((1 : Int32) &&& 31)) ||| (1 : Int32)) (((r <<< ((1 : Int32) &&& 31)) ||| ((ush p0 (nI j)) &&& (1 : Int32))) - p1) := by (rw [qL_s, if_pos c_14, if_pos c_49] <;> rfl)
        rw [e9]
        exact ih ((q <<< ((1 : Int32) &&& 31)) ||| (1 : Int32)) (((r <<< ((1 : Int32) &&& 31)) ||| ((ush p0 (nI j)) &&& (1 : Int32))) - p1) ls (lv_sub hl [4, 5, 1, 2, 0] rfl)
    · refine lv_iconst (v := 1) hx hb dX5_quotient_17 (by decide) ?_
      refine lv_goto (tgt := 22) hx hb dX5_quotient_18 (by decide) ?_
      refine lv_istore (lv' := [(5, .int (1 : Int32)), (0, .int p0), (1, .int p1), (2, .int q), (3, .int r), (4, .int (nI j))]) hx hb dX5_quotient_22 hl (by decide) rfl (fun ls hl => ?_)
      refine lv_iload_n hx hb dX5_quotient_24 rfl (lv_at hl 4 rfl) ?_
      refine lv_iconst (v := 1) hx hb dX5_quotient_25 (by decide) ?_
      refine lv_ishl hx hb dX5_quotient_26 ?_
      refine lv_iload_n hx hb dX5_quotient_27 rfl (lv_at hl 1 rfl) ?_
      refine lv_iload hx hb dX5_quotient_28 (lv_at hl 5 rfl) ?_
      refine lv_iushr (v := ush p0 (nI j)) hx hb dX5_quotient_30 rfl ?_
      refine lv_iconst (v := 1) hx hb dX5_quotient_31 (by decide) ?_
      refine lv_iand hx hb dX5_quotient_32 ?_
      refine lv_ior hx hb dX5_quotient_33 ?_
      refine lv_istore_n (lv' := [(3, .int ((r <<< ((1 : Int32) &&& 31)) ||| ((ush p0 (nI j)) &&& (1 : Int32)))), (5, .int (1 : Int32)), (0, .int p0), (1, .int p1), (2, .int q), (4, .int (nI j))]) hx hb dX5_quotient_34 rfl hl (by decide) rfl (fun ls hl => ?_)
      refine lv_iload_n hx hb dX5_quotient_35 rfl (lv_at hl 4 rfl) ?_
      refine lv_iconst (v := 1) hx hb dX5_quotient_36 (by decide) ?_
      refine lv_ishl hx hb dX5_quotient_37 ?_
      refine lv_istore_n (lv' := [(2, .int (q <<< ((1 : Int32) &&& 31))), (3, .int ((r <<< ((1 : Int32) &&& 31)) ||| ((ush p0 (nI j)) &&& (1 : Int32)))), (5, .int (1 : Int32)), (0, .int p0), (1, .int p1), (4, .int (nI j))]) hx hb dX5_quotient_38 rfl hl (by decide) rfl (fun ls hl => ?_)
      refine lv_iload hx hb dX5_quotient_39 (lv_at hl 2 rfl) ?_
      refine lv_if_ne (tgt := 52) hx hb dX5_quotient_41 (by decide) (fun _ => ?_) (fun h9 => absurd h9 (by decide))
      refine lv_iload_n hx hb dX5_quotient_52 rfl (lv_at hl 1 rfl) ?_
      refine lv_iload_n hx hb dX5_quotient_53 rfl (lv_at hl 4 rfl) ?_
      refine lv_isub hx hb dX5_quotient_54 ?_
      refine lv_istore_n (lv' := [(3, .int (((r <<< ((1 : Int32) &&& 31)) ||| ((ush p0 (nI j)) &&& (1 : Int32))) - p1)), (2, .int (q <<< ((1 : Int32) &&& 31))), (5, .int (1 : Int32)), (0, .int p0), (1, .int p1), (4, .int (nI j))]) hx hb dX5_quotient_55 rfl hl (by decide) rfl (fun ls hl => ?_)
      refine lv_iload_n hx hb dX5_quotient_56 rfl (lv_at hl 1 rfl) ?_
      refine lv_iconst (v := 1) hx hb dX5_quotient_57 (by decide) ?_
      refine lv_ior hx hb dX5_quotient_58 ?_
      refine lv_istore_n (lv' := [(2, .int ((q <<< ((1 : Int32) &&& 31)) ||| (1 : Int32))), (3, .int (((r <<< ((1 : Int32) &&& 31)) ||| ((ush p0 (nI j)) &&& (1 : Int32))) - p1)), (5, .int (1 : Int32)), (0, .int p0), (1, .int p1), (4, .int (nI j))]) hx hb dX5_quotient_59 rfl hl (by decide) rfl (fun ls hl => ?_)
      refine lv_iinc (v := (nI j) + (-1 : Int32)) (lv' := [(4, .int ((nI j) + (-1 : Int32))), (2, .int ((q <<< ((1 : Int32) &&& 31)) ||| (1 : Int32))), (3, .int (((r <<< ((1 : Int32) &&& 31)) ||| ((ush p0 (nI j)) &&& (1 : Int32))) - p1)), (5, .int (1 : Int32)), (0, .int p0), (1, .int p1)]) hx hb dX5_quotient_60 hl (k := 5) rfl rfl (by decide) rfl (fun ls hl => ?_)
      refine lv_goto (tgt := 8) hx hb dX5_quotient_63 (by decide) ?_
      have e9 : qL p0 p1 (j + 1) q r = qL p0 p1 j ((q <<< ((1 : Int32) &&& 31)) ||| (1 : Int32)) (((r <<< ((1 : Int32) &&& 31)) ||| ((ush p0 (nI j)) &&& (1 : Int32))) - p1) := by (rw [qL_s, if_neg c_14] <;> rfl)
      rw [e9]
      exact ih ((q <<< ((1 : Int32) &&& 31)) ||| (1 : Int32)) (((r <<< ((1 : Int32) &&& 31)) ||| ((ush p0 (nI j)) &&& (1 : Int32))) - p1) ls (lv_sub hl [4, 5, 1, 2, 0] rfl)
set_option maxHeartbeats 4000000 in
set_option maxRecDepth 100000 in
theorem mX5_quotient (l : Launch) (p0 p1 : Int32) : Met l yX5_quotient wsX5_quotient ({ frames := 1, cells := 0, slots := 0, locals := 21 }) (va_Pc [.int p0, .int p1] (fun _ => True)) (QcRead (fX5_quotient p0 p1)) 0 0 (fun _ => False) := by
  refine Met.ofW (cc := cX5_quotient) (maxL := 6) (ret := (some .int)) (by decide) rfl ?_
  intro p e s m args below meth c s₁ B hml hv
  obtain ⟨rfl, -⟩ := hv
  have hx := B.exec
  have hb := B.bytes
  have hr := B.returns
  have hB := fun (w : Cond) (h : w ∈ BIG) => atoms_spec (ws := wsX5_quotient) B.pre w (List.mem_cons_of_mem _ h)
  have hown : s.vm.findClass RX5 = some m.cls := findClass_of_methodNamed B.named
  have hlocks := B.notSynchronized
  have hl := lv_entry ([.int p0, .int p1]) (n := 6) (Nat.le_of_ble_eq_true rfl)
  rw [lg_entry_eq]
  generalize (lg_sl ([.int p0, .int p1]) ++ List.replicate (6 - (lg_sl ([.int p0, .int p1])).length) Slot.unset).toArray = ls at hl ⊢
  have hl : lv_has ls 6 [(0, .int p0), (1, .int p1)] := hl
  refine lv_iconst (v := 0) hx hb dX5_quotient_0 (by decide) ?_
  refine lv_istore_n (lv' := [(2, .int 0), (0, .int p0), (1, .int p1)]) hx hb dX5_quotient_1 rfl hl (by decide) rfl (fun ls hl => ?_)
  refine lv_iconst (v := 0) hx hb dX5_quotient_2 (by decide) ?_
  refine lv_istore_n (lv' := [(3, .int 0), (2, .int 0), (0, .int p0), (1, .int p1)]) hx hb dX5_quotient_3 rfl hl (by decide) rfl (fun ls hl => ?_)
  refine lv_bipush (v := nI 32 + (-1)) hx hb dX5_quotient_4 (by decide) ?_
  refine lv_istore (lv' := [(4, .int (nI 32 + (-1))), (3, .int 0), (2, .int 0), (0, .int p0), (1, .int p1)]) hx hb dX5_quotient_6 hl (by decide) rfl (fun ls hl => ?_)
  exact q_loop hx hb hr hlocks hml hown hB 32 (by decide) 0 0 ls (lv_sub hl [3, 4, 2, 1, 0] rfl)
def fX5_product (p0 : Int32) (p1 : Int32) (p2 : Int32) (x : SR) : SR := if p0 = (0 : Int32) then
    fX5_lay (p1 * p2) x
  else
    if p0 = (1 : Int32) then
      if 0 ≤ p1 then
        if 0 ≤ p2 then
          fX5_lay (((fX5_upper p1 p2) - (0 : Int32)) - (0 : Int32)) x
        else
          fX5_lay (((fX5_upper p1 p2) - (0 : Int32)) - p1) x
      else
        if 0 ≤ p2 then
          fX5_lay (((fX5_upper p1 p2) - p2) - (0 : Int32)) x
        else
          fX5_lay (((fX5_upper p1 p2) - p2) - p1) x
    else
      if p0 = (2 : Int32) then
        if 0 ≤ p1 then
          fX5_lay ((fX5_upper p1 p2) - (0 : Int32)) x
        else
          fX5_lay ((fX5_upper p1 p2) - p2) x
      else
        if p0 = (3 : Int32) then
          fX5_lay (fX5_upper p1 p2) x
        else
          if p0 = (4 : Int32) then
            if p2 = 0 then
              fX5_lay (-1 : Int32) x
            else
              if p2 = (-1 : Int32) then
                fX5_lay (-p1) x
              else
                fX5_lay (p1 / p2) x
          else
            if p0 = (5 : Int32) then
              if p2 = 0 then
                fX5_lay (-1 : Int32) x
              else
                fX5_lay (fX5_quotient p1 p2) x
            else
              if p0 = (6 : Int32) then
                if p2 = 0 then
                  fX5_lay p1 x
                else
                  if p2 = (-1 : Int32) then
                    fX5_lay (0 : Int32) x
                  else
                    fX5_lay (p1 - p1 / p2 * p2) x
              else
                if p2 = 0 then
                  fX5_lay p1 x
                else
                  fX5_lay (p1 - ((fX5_quotient p1 p2) * p2)) x
set_option maxHeartbeats 4000000 in
set_option maxRecDepth 100000 in
theorem mX5_product (l : Launch) (dC : Nat → ClassId) (dI : Nat → Nat → Nat) (bH bM bR bC jM jR jC : Nat) (sz : Nat) (x : SR) (p0 : Int32) (p1 : Int32) (p2 : Int32) : Met l yX5_product wsX5_product ({ frames := 2, cells := 0, slots := 0, locals := 46 }) (va_Pc [.ref bH, .int p0, .int p1, .int p2] (kM (dC, dI) [(jM, .int), (jR, .int), (jC, .int)] NT (wR bH bM bR bC jM jR jC x) sz)) (va_Qv (fun u => u = fX5_product p0 p1 p2 x) (fun u t => va_P (dC, dI) vwCl (wR bH bM bR bC jM jR jC u) t.heap) (va_A (wR bH bM bR bC jM jR jC x) sz)) 0 0 (va_A (wR bH bM bR bC jM jR jC x) sz) := by
  refine Met.ofW (cc := cX5_product) (maxL := 4) (ret := none) (by decide) rfl ?_
  intro p e s m args below meth c s₁ B hml hv
  obtain ⟨rfl, hsz, hD0, hP, hK, hN⟩ := hv
  have hx := B.exec
  have hb := B.bytes
  have hr := B.returns
  have hB := fun (w : Cond) (h : w ∈ BIG) => atoms_spec (ws := wsX5_product) B.pre w (List.mem_cons_of_mem _ h)
  have hown : s.vm.findClass RX5 = some m.cls := findClass_of_methodNamed B.named
  have hlocks := B.notSynchronized
  subst hsz
  have hD := hD0.self (sz := s.heap.size)
  generalize hAe : va_A (wR bH bM bR bC jM jR jC x) s.heap.size = A at hD ⊢
  have hA : ∀ q : Nat, s.heap.size ≤ q → A q := fun q h => by rw [← hAe]; exact Or.inr h
  have hS : va_S A s.heap s.heap [] := va_S.rf
  have hl := lv_entry ([.ref bH, .int p0, .int p1, .int p2]) (n := 4) (Nat.le_of_ble_eq_true rfl)
  rw [lg_entry_eq]
  generalize (lg_sl ([.ref bH, .int p0, .int p1, .int p2]) ++ List.replicate (4 - (lg_sl ([.ref bH, .int p0, .int p1, .int p2])).length) Slot.unset).toArray = ls at hl ⊢
  have hl : lv_has ls 4 [(0, .ref bH), (1, .int p0), (2, .int p1), (3, .int p2)] := hl
  refine lv_iload_n hx hb dX5_product_0 rfl (lv_at hl 1 rfl) ?_
  by_cases c_1_0 : p0 = (0 : Int32)
  · refine lv_tableIn (off := 43) (tgt := 44) hx hb dX5_product_1 (by rw [c_1_0]; decide) (by rw [c_1_0]; decide) (by rw [c_1_0]; rfl) (by decide) ?_
    refine lv_aload_n hx hb dX5_product_44 rfl (lv_at hl 0 rfl) ?_
    refine lv_iload_n hx hb dX5_product_45 rfl (lv_at hl 2 rfl) ?_
    refine lv_iload_n hx hb dX5_product_46 rfl (lv_at hl 3 rfl) ?_
    refine lv_imul hx hb dX5_product_47 ?_
    refine k_mv (w := wR bH bM bR bC jM jR jC) wR_ad (va_runV (As := [.int (p1 * p2)]) (rest := []) ⟨hx, hb, hml, hown, hB⟩ (mX5_lay l dC dI bH bM bR bC jM jR jC s.heap.size x (p1 * p2)) (cwV 1 hB (gV q_t3_86 q_t3_88 q_s_39 q_t1_4 wX5_lay) rfl rfl rfl hX5_lay ⟨Nat.le_of_ble_eq_true rfl, Nat.le_of_ble_eq_true rfl⟩) ⟨kM_blind NT_blind, va_recv hK hP (ci := 3) (q0 := 0) rfl rfl, kM_pre NT_warm hP hK hD hN⟩ rfl rfl hl.1 rfl (lv_room (Nat.le_of_ble_eq_true rfl)) dX5_product_48 ⟨Nat.zero_le _, Nat.zero_le _⟩) hD hS hA (fun u H locs hw hP hD hS => ?_)
    obtain rfl := hw
    exact W.vret hx hb hr (fun t ht hW => ⟨⟨(fX5_lay (p1 * p2) x), rfl, (by unfold fX5_product; rw [if_pos c_1_0] <;> rfl), hpT ht hP⟩, hS.F ht⟩) hS.2.2 dX5_product_51
  by_cases c_1_1 : p0 = (1 : Int32)
  · refine lv_tableIn (off := 51) (tgt := 52) hx hb dX5_product_1 (by rw [c_1_1]; decide) (by rw [c_1_1]; decide) (by rw [c_1_1]; rfl) (by decide) ?_
    refine lv_aload_n hx hb dX5_product_52 rfl (lv_at hl 0 rfl) ?_
    refine lv_iload_n hx hb dX5_product_53 rfl (lv_at hl 2 rfl) ?_
    refine lv_iload_n hx hb dX5_product_54 rfl (lv_at hl 3 rfl) ?_
    refine k_ri (va_runS (As := [.int p1, .int p2]) (rest := [.ref bH]) ⟨hx, hb, hml, hown, hB⟩ (mX5_upper l p1 p2) (va_cwS 2 hB (gS q_t3_159 q_t3_160 q_t1_4 wX5_upper) rfl rfl rfl hX5_upper.2 ⟨Nat.le_of_ble_eq_true rfl, Nat.le_of_ble_eq_true rfl⟩) ⟨fun _ _ _ _ q => q, fun U _ _ => ⟨rfl, trivial⟩⟩ rfl rfl hl.1 rfl (lv_room (Nat.le_of_ble_eq_true rfl)) dX5_product_55 ⟨Nat.zero_le _, Nat.zero_le _⟩) ?_
    refine lv_iload_n hx hb dX5_product_58 rfl (lv_at hl 2 rfl) ?_
    refine lv_if_ge (tgt := 66) hx hb dX5_product_59 (by decide) (fun c_59 => ?_) (fun c_59 => ?_)
    · refine lv_iconst (v := 0) hx hb dX5_product_66 (by decide) ?_
      refine lv_isub hx hb dX5_product_67 ?_
      refine lv_iload_n hx hb dX5_product_68 rfl (lv_at hl 3 rfl) ?_
      refine lv_if_ge (tgt := 76) hx hb dX5_product_69 (by decide) (fun c_69 => ?_) (fun c_69 => ?_)
      · refine lv_iconst (v := 0) hx hb dX5_product_76 (by decide) ?_
        refine lv_isub hx hb dX5_product_77 ?_
        refine k_mv (w := wR bH bM bR bC jM jR jC) wR_ad (va_runV (As := [.int (((fX5_upper p1 p2) - (0 : Int32)) - (0 : Int32))]) (rest := []) ⟨hx, hb, hml, hown, hB⟩ (mX5_lay l dC dI bH bM bR bC jM jR jC s.heap.size x (((fX5_upper p1 p2) - (0 : Int32)) - (0 : Int32))) (cwV 1 hB (gV q_t3_86 q_t3_88 q_s_39 q_t1_4 wX5_lay) rfl rfl rfl hX5_lay ⟨Nat.le_of_ble_eq_true rfl, Nat.le_of_ble_eq_true rfl⟩) ⟨kM_blind NT_blind, va_recv hK hP (ci := 3) (q0 := 0) rfl rfl, kM_pre NT_warm hP hK hD hN⟩ rfl rfl hl.1 rfl (lv_room (Nat.le_of_ble_eq_true rfl)) dX5_product_78 ⟨Nat.zero_le _, Nat.zero_le _⟩) hD hS hA (fun u H locs hw hP hD hS => ?_)
        obtain rfl := hw
        exact W.vret hx hb hr (fun t ht hW => ⟨⟨(fX5_lay (((fX5_upper p1 p2) - (0 : Int32)) - (0 : Int32)) x), rfl, (by unfold fX5_product; rw [if_neg c_1_0, if_pos c_1_1, if_pos c_59, if_pos c_69] <;> rfl), hpT ht hP⟩, hS.F ht⟩) hS.2.2 dX5_product_81
      · refine lv_iload_n hx hb dX5_product_72 rfl (lv_at hl 2 rfl) ?_
        refine lv_goto (tgt := 77) hx hb dX5_product_73 (by decide) ?_
        refine lv_isub hx hb dX5_product_77 ?_
        refine k_mv (w := wR bH bM bR bC jM jR jC) wR_ad (va_runV (As := [.int (((fX5_upper p1 p2) - (0 : Int32)) - p1)]) (rest := []) ⟨hx, hb, hml, hown, hB⟩ (mX5_lay l dC dI bH bM bR bC jM jR jC s.heap.size x (((fX5_upper p1 p2) - (0 : Int32)) - p1)) (cwV 1 hB (gV q_t3_86 q_t3_88 q_s_39 q_t1_4 wX5_lay) rfl rfl rfl hX5_lay ⟨Nat.le_of_ble_eq_true rfl, Nat.le_of_ble_eq_true rfl⟩) ⟨kM_blind NT_blind, va_recv hK hP (ci := 3) (q0 := 0) rfl rfl, kM_pre NT_warm hP hK hD hN⟩ rfl rfl hl.1 rfl (lv_room (Nat.le_of_ble_eq_true rfl)) dX5_product_78 ⟨Nat.zero_le _, Nat.zero_le _⟩) hD hS hA (fun u H locs hw hP hD hS => ?_)
        obtain rfl := hw
        exact W.vret hx hb hr (fun t ht hW => ⟨⟨(fX5_lay (((fX5_upper p1 p2) - (0 : Int32)) - p1) x), rfl, (by unfold fX5_product; rw [if_neg c_1_0, if_pos c_1_1, if_pos c_59, if_neg c_69] <;> rfl), hpT ht hP⟩, hS.F ht⟩) hS.2.2 dX5_product_81
    · refine lv_iload_n hx hb dX5_product_62 rfl (lv_at hl 3 rfl) ?_
      refine lv_goto (tgt := 67) hx hb dX5_product_63 (by decide) ?_
      refine lv_isub hx hb dX5_product_67 ?_
      refine lv_iload_n hx hb dX5_product_68 rfl (lv_at hl 3 rfl) ?_
      refine lv_if_ge (tgt := 76) hx hb dX5_product_69 (by decide) (fun c_69 => ?_) (fun c_69 => ?_)
      · refine lv_iconst (v := 0) hx hb dX5_product_76 (by decide) ?_
        refine lv_isub hx hb dX5_product_77 ?_
        refine k_mv (w := wR bH bM bR bC jM jR jC) wR_ad (va_runV (As := [.int (((fX5_upper p1 p2) - p2) - (0 : Int32))]) (rest := []) ⟨hx, hb, hml, hown, hB⟩ (mX5_lay l dC dI bH bM bR bC jM jR jC s.heap.size x (((fX5_upper p1 p2) - p2) - (0 : Int32))) (cwV 1 hB (gV q_t3_86 q_t3_88 q_s_39 q_t1_4 wX5_lay) rfl rfl rfl hX5_lay ⟨Nat.le_of_ble_eq_true rfl, Nat.le_of_ble_eq_true rfl⟩) ⟨kM_blind NT_blind, va_recv hK hP (ci := 3) (q0 := 0) rfl rfl, kM_pre NT_warm hP hK hD hN⟩ rfl rfl hl.1 rfl (lv_room (Nat.le_of_ble_eq_true rfl)) dX5_product_78 ⟨Nat.zero_le _, Nat.zero_le _⟩) hD hS hA (fun u H locs hw hP hD hS => ?_)
        obtain rfl := hw
        exact W.vret hx hb hr (fun t ht hW => ⟨⟨(fX5_lay (((fX5_upper p1 p2) - p2) - (0 : Int32)) x), rfl, (by unfold fX5_product; rw [if_neg c_1_0, if_pos c_1_1, if_neg c_59, if_pos c_69] <;> rfl), hpT ht hP⟩, hS.F ht⟩) hS.2.2 dX5_product_81
      · refine lv_iload_n hx hb dX5_product_72 rfl (lv_at hl 2 rfl) ?_
        refine lv_goto (tgt := 77) hx hb dX5_product_73 (by decide) ?_
        refine lv_isub hx hb dX5_product_77 ?_
        refine k_mv (w := wR bH bM bR bC jM jR jC) wR_ad (va_runV (As := [.int (((fX5_upper p1 p2) - p2) - p1)]) (rest := []) ⟨hx, hb, hml, hown, hB⟩ (mX5_lay l dC dI bH bM bR bC jM jR jC s.heap.size x (((fX5_upper p1 p2) - p2) - p1)) (cwV 1 hB (gV q_t3_86 q_t3_88 q_s_39 q_t1_4 wX5_lay) rfl rfl rfl hX5_lay ⟨Nat.le_of_ble_eq_true rfl, Nat.le_of_ble_eq_true rfl⟩) ⟨kM_blind NT_blind, va_recv hK hP (ci := 3) (q0 := 0) rfl rfl, kM_pre NT_warm hP hK hD hN⟩ rfl rfl hl.1 rfl (lv_room (Nat.le_of_ble_eq_true rfl)) dX5_product_78 ⟨Nat.zero_le _, Nat.zero_le _⟩) hD hS hA (fun u H locs hw hP hD hS => ?_)
        obtain rfl := hw
        exact W.vret hx hb hr (fun t ht hW => ⟨⟨(fX5_lay (((fX5_upper p1 p2) - p2) - p1) x), rfl, (by unfold fX5_product; rw [if_neg c_1_0, if_pos c_1_1, if_neg c_59, if_neg c_69] <;> rfl), hpT ht hP⟩, hS.F ht⟩) hS.2.2 dX5_product_81
  by_cases c_1_2 : p0 = (2 : Int32)
  · refine lv_tableIn (off := 81) (tgt := 82) hx hb dX5_product_1 (by rw [c_1_2]; decide) (by rw [c_1_2]; decide) (by rw [c_1_2]; rfl) (by decide) ?_
    refine lv_aload_n hx hb dX5_product_82 rfl (lv_at hl 0 rfl) ?_
    refine lv_iload_n hx hb dX5_product_83 rfl (lv_at hl 2 rfl) ?_
    refine lv_iload_n hx hb dX5_product_84 rfl (lv_at hl 3 rfl) ?_
    refine k_ri (va_runS (As := [.int p1, .int p2]) (rest := [.ref bH]) ⟨hx, hb, hml, hown, hB⟩ (mX5_upper l p1 p2) (va_cwS 2 hB (gS q_t3_159 q_t3_160 q_t1_4 wX5_upper) rfl rfl rfl hX5_upper.2 ⟨Nat.le_of_ble_eq_true rfl, Nat.le_of_ble_eq_true rfl⟩) ⟨fun _ _ _ _ q => q, fun U _ _ => ⟨rfl, trivial⟩⟩ rfl rfl hl.1 rfl (lv_room (Nat.le_of_ble_eq_true rfl)) dX5_product_85 ⟨Nat.zero_le _, Nat.zero_le _⟩) ?_
    refine lv_iload_n hx hb dX5_product_88 rfl (lv_at hl 2 rfl) ?_
    refine lv_if_ge (tgt := 96) hx hb dX5_product_89 (by decide) (fun c_89 => ?_) (fun c_89 => ?_)
    · refine lv_iconst (v := 0) hx hb dX5_product_96 (by decide) ?_
      refine lv_isub hx hb dX5_product_97 ?_
      refine k_mv (w := wR bH bM bR bC jM jR jC) wR_ad (va_runV (As := [.int ((fX5_upper p1 p2) - (0 : Int32))]) (rest := []) ⟨hx, hb, hml, hown, hB⟩ (mX5_lay l dC dI bH bM bR bC jM jR jC s.heap.size x ((fX5_upper p1 p2) - (0 : Int32))) (cwV 1 hB (gV q_t3_86 q_t3_88 q_s_39 q_t1_4 wX5_lay) rfl rfl rfl hX5_lay ⟨Nat.le_of_ble_eq_true rfl, Nat.le_of_ble_eq_true rfl⟩) ⟨kM_blind NT_blind, va_recv hK hP (ci := 3) (q0 := 0) rfl rfl, kM_pre NT_warm hP hK hD hN⟩ rfl rfl hl.1 rfl (lv_room (Nat.le_of_ble_eq_true rfl)) dX5_product_98 ⟨Nat.zero_le _, Nat.zero_le _⟩) hD hS hA (fun u H locs hw hP hD hS => ?_)
      obtain rfl := hw
      exact W.vret hx hb hr (fun t ht hW => ⟨⟨(fX5_lay ((fX5_upper p1 p2) - (0 : Int32)) x), rfl, (by unfold fX5_product; rw [if_neg c_1_0, if_neg c_1_1, if_pos c_1_2, if_pos c_89] <;> rfl), hpT ht hP⟩, hS.F ht⟩) hS.2.2 dX5_product_101
    · refine lv_iload_n hx hb dX5_product_92 rfl (lv_at hl 3 rfl) ?_
      refine lv_goto (tgt := 97) hx hb dX5_product_93 (by decide) ?_
      refine lv_isub hx hb dX5_product_97 ?_
      refine k_mv (w := wR bH bM bR bC jM jR jC) wR_ad (va_runV (As := [.int ((fX5_upper p1 p2) - p2)]) (rest := []) ⟨hx, hb, hml, hown, hB⟩ (mX5_lay l dC dI bH bM bR bC jM jR jC s.heap.size x ((fX5_upper p1 p2) - p2)) (cwV 1 hB (gV q_t3_86 q_t3_88 q_s_39 q_t1_4 wX5_lay) rfl rfl rfl hX5_lay ⟨Nat.le_of_ble_eq_true rfl, Nat.le_of_ble_eq_true rfl⟩) ⟨kM_blind NT_blind, va_recv hK hP (ci := 3) (q0 := 0) rfl rfl, kM_pre NT_warm hP hK hD hN⟩ rfl rfl hl.1 rfl (lv_room (Nat.le_of_ble_eq_true rfl)) dX5_product_98 ⟨Nat.zero_le _, Nat.zero_le _⟩) hD hS hA (fun u H locs hw hP hD hS => ?_)
      obtain rfl := hw
      exact W.vret hx hb hr (fun t ht hW => ⟨⟨(fX5_lay ((fX5_upper p1 p2) - p2) x), rfl, (by unfold fX5_product; rw [if_neg c_1_0, if_neg c_1_1, if_pos c_1_2, if_neg c_89] <;> rfl), hpT ht hP⟩, hS.F ht⟩) hS.2.2 dX5_product_101
  by_cases c_1_3 : p0 = (3 : Int32)
  · refine lv_tableIn (off := 101) (tgt := 102) hx hb dX5_product_1 (by rw [c_1_3]; decide) (by rw [c_1_3]; decide) (by rw [c_1_3]; rfl) (by decide) ?_
    refine lv_aload_n hx hb dX5_product_102 rfl (lv_at hl 0 rfl) ?_
    refine lv_iload_n hx hb dX5_product_103 rfl (lv_at hl 2 rfl) ?_
    refine lv_iload_n hx hb dX5_product_104 rfl (lv_at hl 3 rfl) ?_
    refine k_ri (va_runS (As := [.int p1, .int p2]) (rest := [.ref bH]) ⟨hx, hb, hml, hown, hB⟩ (mX5_upper l p1 p2) (va_cwS 2 hB (gS q_t3_159 q_t3_160 q_t1_4 wX5_upper) rfl rfl rfl hX5_upper.2 ⟨Nat.le_of_ble_eq_true rfl, Nat.le_of_ble_eq_true rfl⟩) ⟨fun _ _ _ _ q => q, fun U _ _ => ⟨rfl, trivial⟩⟩ rfl rfl hl.1 rfl (lv_room (Nat.le_of_ble_eq_true rfl)) dX5_product_105 ⟨Nat.zero_le _, Nat.zero_le _⟩) ?_
    refine k_mv (w := wR bH bM bR bC jM jR jC) wR_ad (va_runV (As := [.int (fX5_upper p1 p2)]) (rest := []) ⟨hx, hb, hml, hown, hB⟩ (mX5_lay l dC dI bH bM bR bC jM jR jC s.heap.size x (fX5_upper p1 p2)) (cwV 1 hB (gV q_t3_86 q_t3_88 q_s_39 q_t1_4 wX5_lay) rfl rfl rfl hX5_lay ⟨Nat.le_of_ble_eq_true rfl, Nat.le_of_ble_eq_true rfl⟩) ⟨kM_blind NT_blind, va_recv hK hP (ci := 3) (q0 := 0) rfl rfl, kM_pre NT_warm hP hK hD hN⟩ rfl rfl hl.1 rfl (lv_room (Nat.le_of_ble_eq_true rfl)) dX5_product_108 ⟨Nat.zero_le _, Nat.zero_le _⟩) hD hS hA (fun u H locs hw hP hD hS => ?_)
    obtain rfl := hw
    exact W.vret hx hb hr (fun t ht hW => ⟨⟨(fX5_lay (fX5_upper p1 p2) x), rfl, (by unfold fX5_product; rw [if_neg c_1_0, if_neg c_1_1, if_neg c_1_2, if_pos c_1_3] <;> rfl), hpT ht hP⟩, hS.F ht⟩) hS.2.2 dX5_product_111
  by_cases c_1_4 : p0 = (4 : Int32)
  · refine lv_tableIn (off := 111) (tgt := 112) hx hb dX5_product_1 (by rw [c_1_4]; decide) (by rw [c_1_4]; decide) (by rw [c_1_4]; rfl) (by decide) ?_
    refine lv_aload_n hx hb dX5_product_112 rfl (lv_at hl 0 rfl) ?_
    refine lv_iload_n hx hb dX5_product_113 rfl (lv_at hl 3 rfl) ?_
    refine lv_if_ne (tgt := 121) hx hb dX5_product_114 (by decide) (fun c_114 => ?_) (fun c_114 => ?_)
    · refine lv_iload_n hx hb dX5_product_121 rfl (lv_at hl 3 rfl) ?_
      refine lv_iconst (v := -1) hx hb dX5_product_122 (by decide) ?_
      refine lv_icmp_ne (tgt := 131) hx hb dX5_product_123 (by decide) (fun c_123 => ?_) (fun c_123 => ?_)
      · refine lv_iload_n hx hb dX5_product_131 rfl (lv_at hl 2 rfl) ?_
        refine lv_iload_n hx hb dX5_product_132 rfl (lv_at hl 3 rfl) ?_
        refine lv_idiv hx hb dX5_product_133 c_114 ?_
        refine k_mv (w := wR bH bM bR bC jM jR jC) wR_ad (va_runV (As := [.int (p1 / p2)]) (rest := []) ⟨hx, hb, hml, hown, hB⟩ (mX5_lay l dC dI bH bM bR bC jM jR jC s.heap.size x (p1 / p2)) (cwV 1 hB (gV q_t3_86 q_t3_88 q_s_39 q_t1_4 wX5_lay) rfl rfl rfl hX5_lay ⟨Nat.le_of_ble_eq_true rfl, Nat.le_of_ble_eq_true rfl⟩) ⟨kM_blind NT_blind, va_recv hK hP (ci := 3) (q0 := 0) rfl rfl, kM_pre NT_warm hP hK hD hN⟩ rfl rfl hl.1 rfl (lv_room (Nat.le_of_ble_eq_true rfl)) dX5_product_134 ⟨Nat.zero_le _, Nat.zero_le _⟩) hD hS hA (fun u H locs hw hP hD hS => ?_)
        obtain rfl := hw
        exact W.vret hx hb hr (fun t ht hW => ⟨⟨(fX5_lay (p1 / p2) x), rfl, (by unfold fX5_product; rw [if_neg c_1_0, if_neg c_1_1, if_neg c_1_2, if_neg c_1_3, if_pos c_1_4, if_neg c_114, if_neg c_123] <;> rfl), hpT ht hP⟩, hS.F ht⟩) hS.2.2 dX5_product_137
      · refine lv_iload_n hx hb dX5_product_126 rfl (lv_at hl 2 rfl) ?_
        refine lv_ineg hx hb dX5_product_127 ?_
        refine lv_goto (tgt := 134) hx hb dX5_product_128 (by decide) ?_
        refine k_mv (w := wR bH bM bR bC jM jR jC) wR_ad (va_runV (As := [.int (-p1)]) (rest := []) ⟨hx, hb, hml, hown, hB⟩ (mX5_lay l dC dI bH bM bR bC jM jR jC s.heap.size x (-p1)) (cwV 1 hB (gV q_t3_86 q_t3_88 q_s_39 q_t1_4 wX5_lay) rfl rfl rfl hX5_lay ⟨Nat.le_of_ble_eq_true rfl, Nat.le_of_ble_eq_true rfl⟩) ⟨kM_blind NT_blind, va_recv hK hP (ci := 3) (q0 := 0) rfl rfl, kM_pre NT_warm hP hK hD hN⟩ rfl rfl hl.1 rfl (lv_room (Nat.le_of_ble_eq_true rfl)) dX5_product_134 ⟨Nat.zero_le _, Nat.zero_le _⟩) hD hS hA (fun u H locs hw hP hD hS => ?_)
        obtain rfl := hw
        exact W.vret hx hb hr (fun t ht hW => ⟨⟨(fX5_lay (-p1) x), rfl, (by unfold fX5_product; rw [if_neg c_1_0, if_neg c_1_1, if_neg c_1_2, if_neg c_1_3, if_pos c_1_4, if_neg c_114, if_pos c_123] <;> rfl), hpT ht hP⟩, hS.F ht⟩) hS.2.2 dX5_product_137
    · refine lv_iconst (v := -1) hx hb dX5_product_117 (by decide) ?_
      refine lv_goto (tgt := 134) hx hb dX5_product_118 (by decide) ?_
      refine k_mv (w := wR bH bM bR bC jM jR jC) wR_ad (va_runV (As := [.int (-1 : Int32)]) (rest := []) ⟨hx, hb, hml, hown, hB⟩ (mX5_lay l dC dI bH bM bR bC jM jR jC s.heap.size x (-1 : Int32)) (cwV 1 hB (gV q_t3_86 q_t3_88 q_s_39 q_t1_4 wX5_lay) rfl rfl rfl hX5_lay ⟨Nat.le_of_ble_eq_true rfl, Nat.le_of_ble_eq_true rfl⟩) ⟨kM_blind NT_blind, va_recv hK hP (ci := 3) (q0 := 0) rfl rfl, kM_pre NT_warm hP hK hD hN⟩ rfl rfl hl.1 rfl (lv_room (Nat.le_of_ble_eq_true rfl)) dX5_product_134 ⟨Nat.zero_le _, Nat.zero_le _⟩) hD hS hA (fun u H locs hw hP hD hS => ?_)
      obtain rfl := hw
      exact W.vret hx hb hr (fun t ht hW => ⟨⟨(fX5_lay (-1 : Int32) x), rfl, (by unfold fX5_product; rw [if_neg c_1_0, if_neg c_1_1, if_neg c_1_2, if_neg c_1_3, if_pos c_1_4, if_pos c_114] <;> rfl), hpT ht hP⟩, hS.F ht⟩) hS.2.2 dX5_product_137
  by_cases c_1_5 : p0 = (5 : Int32)
  · refine lv_tableIn (off := 137) (tgt := 138) hx hb dX5_product_1 (by rw [c_1_5]; decide) (by rw [c_1_5]; decide) (by rw [c_1_5]; rfl) (by decide) ?_
    refine lv_aload_n hx hb dX5_product_138 rfl (lv_at hl 0 rfl) ?_
    refine lv_iload_n hx hb dX5_product_139 rfl (lv_at hl 3 rfl) ?_
    refine lv_if_ne (tgt := 147) hx hb dX5_product_140 (by decide) (fun c_140 => ?_) (fun c_140 => ?_)
    · refine lv_iload_n hx hb dX5_product_147 rfl (lv_at hl 2 rfl) ?_
      refine lv_iload_n hx hb dX5_product_148 rfl (lv_at hl 3 rfl) ?_
      refine k_ri (va_runS (As := [.int p1, .int p2]) (rest := [.ref bH]) ⟨hx, hb, hml, hown, hB⟩ (mX5_quotient l p1 p2) (va_cwS 2 hB (gS q_t3_162 q_t3_163 q_t1_4 wX5_quotient) rfl rfl rfl hX5_quotient.2 ⟨Nat.le_of_ble_eq_true rfl, Nat.le_of_ble_eq_true rfl⟩) ⟨fun _ _ _ _ q => q, fun U _ _ => ⟨rfl, trivial⟩⟩ rfl rfl hl.1 rfl (lv_room (Nat.le_of_ble_eq_true rfl)) dX5_product_149 ⟨Nat.zero_le _, Nat.zero_le _⟩) ?_
      refine k_mv (w := wR bH bM bR bC jM jR jC) wR_ad (va_runV (As := [.int (fX5_quotient p1 p2)]) (rest := []) ⟨hx, hb, hml, hown, hB⟩ (mX5_lay l dC dI bH bM bR bC jM jR jC s.heap.size x (fX5_quotient p1 p2)) (cwV 1 hB (gV q_t3_86 q_t3_88 q_s_39 q_t1_4 wX5_lay) rfl rfl rfl hX5_lay ⟨Nat.le_of_ble_eq_true rfl, Nat.le_of_ble_eq_true rfl⟩) ⟨kM_blind NT_blind, va_recv hK hP (ci := 3) (q0 := 0) rfl rfl, kM_pre NT_warm hP hK hD hN⟩ rfl rfl hl.1 rfl (lv_room (Nat.le_of_ble_eq_true rfl)) dX5_product_152 ⟨Nat.zero_le _, Nat.zero_le _⟩) hD hS hA (fun u H locs hw hP hD hS => ?_)
      obtain rfl := hw
      exact W.vret hx hb hr (fun t ht hW => ⟨⟨(fX5_lay (fX5_quotient p1 p2) x), rfl, (by unfold fX5_product; rw [if_neg c_1_0, if_neg c_1_1, if_neg c_1_2, if_neg c_1_3, if_neg c_1_4, if_pos c_1_5, if_neg c_140] <;> rfl), hpT ht hP⟩, hS.F ht⟩) hS.2.2 dX5_product_155
    · refine lv_iconst (v := -1) hx hb dX5_product_143 (by decide) ?_
      refine lv_goto (tgt := 152) hx hb dX5_product_144 (by decide) ?_
      refine k_mv (w := wR bH bM bR bC jM jR jC) wR_ad (va_runV (As := [.int (-1 : Int32)]) (rest := []) ⟨hx, hb, hml, hown, hB⟩ (mX5_lay l dC dI bH bM bR bC jM jR jC s.heap.size x (-1 : Int32)) (cwV 1 hB (gV q_t3_86 q_t3_88 q_s_39 q_t1_4 wX5_lay) rfl rfl rfl hX5_lay ⟨Nat.le_of_ble_eq_true rfl, Nat.le_of_ble_eq_true rfl⟩) ⟨kM_blind NT_blind, va_recv hK hP (ci := 3) (q0 := 0) rfl rfl, kM_pre NT_warm hP hK hD hN⟩ rfl rfl hl.1 rfl (lv_room (Nat.le_of_ble_eq_true rfl)) dX5_product_152 ⟨Nat.zero_le _, Nat.zero_le _⟩) hD hS hA (fun u H locs hw hP hD hS => ?_)
      obtain rfl := hw
      exact W.vret hx hb hr (fun t ht hW => ⟨⟨(fX5_lay (-1 : Int32) x), rfl, (by unfold fX5_product; rw [if_neg c_1_0, if_neg c_1_1, if_neg c_1_2, if_neg c_1_3, if_neg c_1_4, if_pos c_1_5, if_pos c_140] <;> rfl), hpT ht hP⟩, hS.F ht⟩) hS.2.2 dX5_product_155
  by_cases c_1_6 : p0 = (6 : Int32)
  · refine lv_tableIn (off := 155) (tgt := 156) hx hb dX5_product_1 (by rw [c_1_6]; decide) (by rw [c_1_6]; decide) (by rw [c_1_6]; rfl) (by decide) ?_
    refine lv_aload_n hx hb dX5_product_156 rfl (lv_at hl 0 rfl) ?_
    refine lv_iload_n hx hb dX5_product_157 rfl (lv_at hl 3 rfl) ?_
    refine lv_if_ne (tgt := 165) hx hb dX5_product_158 (by decide) (fun c_158 => ?_) (fun c_158 => ?_)
    · refine lv_iload_n hx hb dX5_product_165 rfl (lv_at hl 3 rfl) ?_
      refine lv_iconst (v := -1) hx hb dX5_product_166 (by decide) ?_
      refine lv_icmp_ne (tgt := 174) hx hb dX5_product_167 (by decide) (fun c_167 => ?_) (fun c_167 => ?_)
      · refine lv_iload_n hx hb dX5_product_174 rfl (lv_at hl 2 rfl) ?_
        refine lv_iload_n hx hb dX5_product_175 rfl (lv_at hl 3 rfl) ?_
        refine lv_irem hx hb dX5_product_176 c_158 ?_
        refine k_mv (w := wR bH bM bR bC jM jR jC) wR_ad (va_runV (As := [.int (p1 - p1 / p2 * p2)]) (rest := []) ⟨hx, hb, hml, hown, hB⟩ (mX5_lay l dC dI bH bM bR bC jM jR jC s.heap.size x (p1 - p1 / p2 * p2)) (cwV 1 hB (gV q_t3_86 q_t3_88 q_s_39 q_t1_4 wX5_lay) rfl rfl rfl hX5_lay ⟨Nat.le_of_ble_eq_true rfl, Nat.le_of_ble_eq_true rfl⟩) ⟨kM_blind NT_blind, va_recv hK hP (ci := 3) (q0 := 0) rfl rfl, kM_pre NT_warm hP hK hD hN⟩ rfl rfl hl.1 rfl (lv_room (Nat.le_of_ble_eq_true rfl)) dX5_product_177 ⟨Nat.zero_le _, Nat.zero_le _⟩) hD hS hA (fun u H locs hw hP hD hS => ?_)
        obtain rfl := hw
        exact W.vret hx hb hr (fun t ht hW => ⟨⟨(fX5_lay (p1 - p1 / p2 * p2) x), rfl, (by unfold fX5_product; rw [if_neg c_1_0, if_neg c_1_1, if_neg c_1_2, if_neg c_1_3, if_neg c_1_4, if_neg c_1_5, if_pos c_1_6, if_neg c_158, if_neg c_167] <;> rfl), hpT ht hP⟩, hS.F ht⟩) hS.2.2 dX5_product_180
      · refine lv_iconst (v := 0) hx hb dX5_product_170 (by decide) ?_
        refine lv_goto (tgt := 177) hx hb dX5_product_171 (by decide) ?_
        refine k_mv (w := wR bH bM bR bC jM jR jC) wR_ad (va_runV (As := [.int (0 : Int32)]) (rest := []) ⟨hx, hb, hml, hown, hB⟩ (mX5_lay l dC dI bH bM bR bC jM jR jC s.heap.size x (0 : Int32)) (cwV 1 hB (gV q_t3_86 q_t3_88 q_s_39 q_t1_4 wX5_lay) rfl rfl rfl hX5_lay ⟨Nat.le_of_ble_eq_true rfl, Nat.le_of_ble_eq_true rfl⟩) ⟨kM_blind NT_blind, va_recv hK hP (ci := 3) (q0 := 0) rfl rfl, kM_pre NT_warm hP hK hD hN⟩ rfl rfl hl.1 rfl (lv_room (Nat.le_of_ble_eq_true rfl)) dX5_product_177 ⟨Nat.zero_le _, Nat.zero_le _⟩) hD hS hA (fun u H locs hw hP hD hS => ?_)
        obtain rfl := hw
        exact W.vret hx hb hr (fun t ht hW => ⟨⟨(fX5_lay (0 : Int32) x), rfl, (by unfold fX5_product; rw [if_neg c_1_0, if_neg c_1_1, if_neg c_1_2, if_neg c_1_3, if_neg c_1_4, if_neg c_1_5, if_pos c_1_6, if_neg c_158, if_pos c_167] <;> rfl), hpT ht hP⟩, hS.F ht⟩) hS.2.2 dX5_product_180
    · refine lv_iload_n hx hb dX5_product_161 rfl (lv_at hl 2 rfl) ?_
      refine lv_goto (tgt := 177) hx hb dX5_product_162 (by decide) ?_
      refine k_mv (w := wR bH bM bR bC jM jR jC) wR_ad (va_runV (As := [.int p1]) (rest := []) ⟨hx, hb, hml, hown, hB⟩ (mX5_lay l dC dI bH bM bR bC jM jR jC s.heap.size x p1) (cwV 1 hB (gV q_t3_86 q_t3_88 q_s_39 q_t1_4 wX5_lay) rfl rfl rfl hX5_lay ⟨Nat.le_of_ble_eq_true rfl, Nat.le_of_ble_eq_true rfl⟩) ⟨kM_blind NT_blind, va_recv hK hP (ci := 3) (q0 := 0) rfl rfl, kM_pre NT_warm hP hK hD hN⟩ rfl rfl hl.1 rfl (lv_room (Nat.le_of_ble_eq_true rfl)) dX5_product_177 ⟨Nat.zero_le _, Nat.zero_le _⟩) hD hS hA (fun u H locs hw hP hD hS => ?_)
      obtain rfl := hw
      exact W.vret hx hb hr (fun t ht hW => ⟨⟨(fX5_lay p1 x), rfl, (by unfold fX5_product; rw [if_neg c_1_0, if_neg c_1_1, if_neg c_1_2, if_neg c_1_3, if_neg c_1_4, if_neg c_1_5, if_pos c_1_6, if_pos c_158] <;> rfl), hpT ht hP⟩, hS.F ht⟩) hS.2.2 dX5_product_180
  refine lv_tableOut (tgt := 181) hx hb dX5_product_1 (by have h0 := lv_neT (a := 0) c_1_0 (by decide); have h1 := lv_neT (a := 1) c_1_1 (by decide); have h2 := lv_neT (a := 2) c_1_2 (by decide); have h3 := lv_neT (a := 3) c_1_3 (by decide); have h4 := lv_neT (a := 4) c_1_4 (by decide); have h5 := lv_neT (a := 5) c_1_5 (by decide); have h6 := lv_neT (a := 6) c_1_6 (by decide); omega) (by decide) ?_
  refine lv_aload_n hx hb dX5_product_181 rfl (lv_at hl 0 rfl) ?_
  refine lv_iload_n hx hb dX5_product_182 rfl (lv_at hl 3 rfl) ?_
  refine lv_if_ne (tgt := 190) hx hb dX5_product_183 (by decide) (fun c_183 => ?_) (fun c_183 => ?_)
  · refine lv_iload_n hx hb dX5_product_190 rfl (lv_at hl 2 rfl) ?_
    refine lv_iload_n hx hb dX5_product_191 rfl (lv_at hl 2 rfl) ?_
    refine lv_iload_n hx hb dX5_product_192 rfl (lv_at hl 3 rfl) ?_
    refine k_ri (va_runS (As := [.int p1, .int p2]) (rest := [.int p1, .ref bH]) ⟨hx, hb, hml, hown, hB⟩ (mX5_quotient l p1 p2) (va_cwS 2 hB (gS q_t3_162 q_t3_163 q_t1_4 wX5_quotient) rfl rfl rfl hX5_quotient.2 ⟨Nat.le_of_ble_eq_true rfl, Nat.le_of_ble_eq_true rfl⟩) ⟨fun _ _ _ _ q => q, fun U _ _ => ⟨rfl, trivial⟩⟩ rfl rfl hl.1 rfl (lv_room (Nat.le_of_ble_eq_true rfl)) dX5_product_193 ⟨Nat.zero_le _, Nat.zero_le _⟩) ?_
    refine lv_iload_n hx hb dX5_product_196 rfl (lv_at hl 3 rfl) ?_
    refine lv_imul hx hb dX5_product_197 ?_
    refine lv_isub hx hb dX5_product_198 ?_
    refine k_mv (w := wR bH bM bR bC jM jR jC) wR_ad (va_runV (As := [.int (p1 - ((fX5_quotient p1 p2) * p2))]) (rest := []) ⟨hx, hb, hml, hown, hB⟩ (mX5_lay l dC dI bH bM bR bC jM jR jC s.heap.size x (p1 - ((fX5_quotient p1 p2) * p2))) (cwV 1 hB (gV q_t3_86 q_t3_88 q_s_39 q_t1_4 wX5_lay) rfl rfl rfl hX5_lay ⟨Nat.le_of_ble_eq_true rfl, Nat.le_of_ble_eq_true rfl⟩) ⟨kM_blind NT_blind, va_recv hK hP (ci := 3) (q0 := 0) rfl rfl, kM_pre NT_warm hP hK hD hN⟩ rfl rfl hl.1 rfl (lv_room (Nat.le_of_ble_eq_true rfl)) dX5_product_199 ⟨Nat.zero_le _, Nat.zero_le _⟩) hD hS hA (fun u H locs hw hP hD hS => ?_)
    obtain rfl := hw
    exact W.vret hx hb hr (fun t ht hW => ⟨⟨(fX5_lay (p1 - ((fX5_quotient p1 p2) * p2)) x), rfl, (by unfold fX5_product; rw [if_neg c_1_0, if_neg c_1_1, if_neg c_1_2, if_neg c_1_3, if_neg c_1_4, if_neg c_1_5, if_neg c_1_6, if_neg c_183] <;> rfl), hpT ht hP⟩, hS.F ht⟩) hS.2.2 dX5_product_202
  · refine lv_iload_n hx hb dX5_product_186 rfl (lv_at hl 2 rfl) ?_
    refine lv_goto (tgt := 199) hx hb dX5_product_187 (by decide) ?_
    refine k_mv (w := wR bH bM bR bC jM jR jC) wR_ad (va_runV (As := [.int p1]) (rest := []) ⟨hx, hb, hml, hown, hB⟩ (mX5_lay l dC dI bH bM bR bC jM jR jC s.heap.size x p1) (cwV 1 hB (gV q_t3_86 q_t3_88 q_s_39 q_t1_4 wX5_lay) rfl rfl rfl hX5_lay ⟨Nat.le_of_ble_eq_true rfl, Nat.le_of_ble_eq_true rfl⟩) ⟨kM_blind NT_blind, va_recv hK hP (ci := 3) (q0 := 0) rfl rfl, kM_pre NT_warm hP hK hD hN⟩ rfl rfl hl.1 rfl (lv_room (Nat.le_of_ble_eq_true rfl)) dX5_product_199 ⟨Nat.zero_le _, Nat.zero_le _⟩) hD hS hA (fun u H locs hw hP hD hS => ?_)
    obtain rfl := hw
    exact W.vret hx hb hr (fun t ht hW => ⟨⟨(fX5_lay p1 x), rfl, (by unfold fX5_product; rw [if_neg c_1_0, if_neg c_1_1, if_neg c_1_2, if_neg c_1_3, if_neg c_1_4, if_neg c_1_5, if_neg c_1_6, if_pos c_183] <;> rfl), hpT ht hP⟩, hS.F ht⟩) hS.2.2 dX5_product_202
def fX5_withRegister (x : SR) : SR := if (fX5_bits (25 : Int32) (7 : Int32) x) = (1 : Int32) then
    fX5_product (fX5_bits (12 : Int32) (3 : Int32) x) (fX5_a x) (fX5_b x) x
  else
    if (fX5_bits (25 : Int32) (7 : Int32) x) = (32 : Int32) then
      if (fX5_bits (12 : Int32) (3 : Int32) x) = 0 then
        fX5_lay ((fX5_a x) - (fX5_b x)) x
      else
        if (fX5_bits (12 : Int32) (3 : Int32) x) = (5 : Int32) then
          fX5_lay ((fX5_a x) >>> (((fX5_b x) &&& (31 : Int32)) &&& 31)) x
        else
          fX5_none x
    else
      if (fX5_bits (25 : Int32) (7 : Int32) x) = 0 then
        if (fX5_bits (12 : Int32) (3 : Int32) x) = (0 : Int32) then
          fX5_lay ((fX5_a x) + (fX5_b x)) x
        else
          if (fX5_bits (12 : Int32) (3 : Int32) x) = (1 : Int32) then
            fX5_lay ((fX5_a x) <<< (((fX5_b x) &&& (31 : Int32)) &&& 31)) x
          else
            if (fX5_bits (12 : Int32) (3 : Int32) x) = (2 : Int32) then
              if (fX5_b x) ≤ (fX5_a x) then
                fX5_lay (0 : Int32) x
              else
                fX5_lay (1 : Int32) x
            else
              if (fX5_bits (12 : Int32) (3 : Int32) x) = (3 : Int32) then
                if (bi (fX5_isBelow (fX5_a x) (fX5_b x))) = 0 then
                  fX5_lay (0 : Int32) x
                else
                  fX5_lay (1 : Int32) x
              else
                if (fX5_bits (12 : Int32) (3 : Int32) x) = (4 : Int32) then
                  fX5_lay ((fX5_a x) ^^^ (fX5_b x)) x
                else
                  if (fX5_bits (12 : Int32) (3 : Int32) x) = (5 : Int32) then
                    fX5_lay (ush (fX5_a x) ((fX5_b x) &&& (31 : Int32))) x
                  else
                    if (fX5_bits (12 : Int32) (3 : Int32) x) = (6 : Int32) then
                      fX5_lay ((fX5_a x) ||| (fX5_b x)) x
                    else
                      fX5_lay ((fX5_a x) &&& (fX5_b x)) x
      else
        fX5_none x
set_option maxHeartbeats 4000000 in
set_option maxRecDepth 100000 in
theorem mX5_withRegister (l : Launch) (dC : Nat → ClassId) (dI : Nat → Nat → Nat) (bH bM bR bC jM jR jC : Nat) (sz : Nat) (x : SR) : Met l yX5_withRegister wsX5_withRegister ({ frames := 3, cells := 0, slots := 0, locals := 69 }) (va_Pc [.ref bH] (kM (dC, dI) [(jM, .int), (jR, .int), (jC, .int)] NT (wR bH bM bR bC jM jR jC x) sz)) (va_Qv (fun u => u = fX5_withRegister x) (fun u t => va_P (dC, dI) vwCl (wR bH bM bR bC jM jR jC u) t.heap) (va_A (wR bH bM bR bC jM jR jC x) sz)) 0 0 (va_A (wR bH bM bR bC jM jR jC x) sz) := by
  refine Met.ofW (cc := cX5_withRegister) (maxL := 5) (ret := none) (by decide) rfl ?_
  intro p e s m args below meth c s₁ B hml hv
  obtain ⟨rfl, hsz, hD0, hP, hK, hN⟩ := hv
  have hx := B.exec
  have hb := B.bytes
  have hr := B.returns
  have hB := fun (w : Cond) (h : w ∈ BIG) => atoms_spec (ws := wsX5_withRegister) B.pre w (List.mem_cons_of_mem _ h)
  have hown : s.vm.findClass RX5 = some m.cls := findClass_of_methodNamed B.named
  have hlocks := B.notSynchronized
  subst hsz
  have hD := hD0.self (sz := s.heap.size)
  generalize hAe : va_A (wR bH bM bR bC jM jR jC x) s.heap.size = A at hD ⊢
  have hA : ∀ q : Nat, s.heap.size ≤ q → A q := fun q h => by rw [← hAe]; exact Or.inr h
  have hS : va_S A s.heap s.heap [] := va_S.rf
  have hl := lv_entry ([.ref bH]) (n := 5) (Nat.le_of_ble_eq_true rfl)
  rw [lg_entry_eq]
  generalize (lg_sl ([.ref bH]) ++ List.replicate (5 - (lg_sl ([.ref bH])).length) Slot.unset).toArray = ls at hl ⊢
  have hl : lv_has ls 5 [(0, .ref bH)] := hl
  refine lv_aload_n hx hb dX5_withRegister_0 rfl (lv_at hl 0 rfl) ?_
  refine k_ri (va_runV (As := []) (rest := []) ⟨hx, hb, hml, hown, hB⟩ (mX5_a l dC dI bH bM bR bC jM jR jC x) (cwV 0 hB (gV q_t3_106 q_t3_108 q_s_44 q_t1_4 wX5_a) rfl rfl rfl hX5_a ⟨Nat.le_of_ble_eq_true rfl, Nat.le_of_ble_eq_true rfl⟩) ⟨kP_blind NT_blind, va_recv hK hP (ci := 3) (q0 := 0) rfl rfl, kP_pre NT_warm hP hK hN⟩ rfl rfl hl.1 rfl (lv_room (Nat.le_of_ble_eq_true rfl)) dX5_withRegister_1 ⟨Nat.zero_le _, Nat.zero_le _⟩) ?_
  refine lv_istore_n (lv' := [(1, .int (fX5_a x)), (0, .ref bH)]) hx hb dX5_withRegister_4 rfl hl (by decide) rfl (fun ls hl => ?_)
  refine lv_aload_n hx hb dX5_withRegister_5 rfl (lv_at hl 1 rfl) ?_
  refine k_ri (va_runV (As := []) (rest := []) ⟨hx, hb, hml, hown, hB⟩ (mX5_b l dC dI bH bM bR bC jM jR jC x) (cwV 0 hB (gV q_t3_118 q_t3_120 q_s_47 q_t1_4 wX5_b) rfl rfl rfl hX5_b ⟨Nat.le_of_ble_eq_true rfl, Nat.le_of_ble_eq_true rfl⟩) ⟨kP_blind NT_blind, va_recv hK hP (ci := 3) (q0 := 0) rfl rfl, kP_pre NT_warm hP hK hN⟩ rfl rfl hl.1 rfl (lv_room (Nat.le_of_ble_eq_true rfl)) dX5_withRegister_6 ⟨Nat.zero_le _, Nat.zero_le _⟩) ?_
  refine lv_istore_n (lv' := [(2, .int (fX5_b x)), (1, .int (fX5_a x)), (0, .ref bH)]) hx hb dX5_withRegister_9 rfl hl (by decide) rfl (fun ls hl => ?_)
  refine lv_aload_n hx hb dX5_withRegister_10 rfl (lv_at hl 2 rfl) ?_
  refine lv_bipush (v := 12) hx hb dX5_withRegister_11 (by decide) ?_
  refine lv_iconst (v := 3) hx hb dX5_withRegister_13 (by decide) ?_
  refine k_ri (va_runV (As := [.int (12 : Int32), .int (3 : Int32)]) (rest := []) ⟨hx, hb, hml, hown, hB⟩ (mX5_bits l dC dI bH bM bR bC jM jR jC x (12 : Int32) (3 : Int32)) (cwV 2 hB (gV q_t3_78 q_t3_80 q_s_37 q_t1_4 wX5_bits) rfl rfl rfl hX5_bits ⟨Nat.le_of_ble_eq_true rfl, Nat.le_of_ble_eq_true rfl⟩) ⟨kP_blind NT_blind, va_recv hK hP (ci := 3) (q0 := 0) rfl rfl, kP_pre NT_warm hP hK hN⟩ rfl rfl hl.1 rfl (lv_room (Nat.le_of_ble_eq_true rfl)) dX5_withRegister_14 ⟨Nat.zero_le _, Nat.zero_le _⟩) ?_
  refine lv_istore_n (lv' := [(3, .int (fX5_bits (12 : Int32) (3 : Int32) x)), (2, .int (fX5_b x)), (1, .int (fX5_a x)), (0, .ref bH)]) hx hb dX5_withRegister_17 rfl hl (by decide) rfl (fun ls hl => ?_)
  refine lv_aload_n hx hb dX5_withRegister_18 rfl (lv_at hl 3 rfl) ?_
  refine lv_bipush (v := 25) hx hb dX5_withRegister_19 (by decide) ?_
  refine lv_bipush (v := 7) hx hb dX5_withRegister_21 (by decide) ?_
  refine k_ri (va_runV (As := [.int (25 : Int32), .int (7 : Int32)]) (rest := []) ⟨hx, hb, hml, hown, hB⟩ (mX5_bits l dC dI bH bM bR bC jM jR jC x (25 : Int32) (7 : Int32)) (cwV 2 hB (gV q_t3_78 q_t3_80 q_s_37 q_t1_4 wX5_bits) rfl rfl rfl hX5_bits ⟨Nat.le_of_ble_eq_true rfl, Nat.le_of_ble_eq_true rfl⟩) ⟨kP_blind NT_blind, va_recv hK hP (ci := 3) (q0 := 0) rfl rfl, kP_pre NT_warm hP hK hN⟩ rfl rfl hl.1 rfl (lv_room (Nat.le_of_ble_eq_true rfl)) dX5_withRegister_23 ⟨Nat.zero_le _, Nat.zero_le _⟩) ?_
  refine lv_istore (lv' := [(4, .int (fX5_bits (25 : Int32) (7 : Int32) x)), (3, .int (fX5_bits (12 : Int32) (3 : Int32) x)), (2, .int (fX5_b x)), (1, .int (fX5_a x)), (0, .ref bH)]) hx hb dX5_withRegister_26 hl (by decide) rfl (fun ls hl => ?_)
  refine lv_iload hx hb dX5_withRegister_28 (lv_at hl 0 rfl) ?_
  refine lv_iconst (v := 1) hx hb dX5_withRegister_30 (by decide) ?_
  refine lv_icmp_ne (tgt := 44) hx hb dX5_withRegister_31 (by decide) (fun c_31 => ?_) (fun c_31 => ?_)
  · refine lv_iload hx hb dX5_withRegister_44 (lv_at hl 0 rfl) ?_
    refine lv_bipush (v := 32) hx hb dX5_withRegister_46 (by decide) ?_
    refine lv_icmp_ne (tgt := 90) hx hb dX5_withRegister_48 (by decide) (fun c_48 => ?_) (fun c_48 => ?_)
    · refine lv_iload hx hb dX5_withRegister_90 (lv_at hl 0 rfl) ?_
      refine lv_if_eq (tgt := 102) hx hb dX5_withRegister_92 (by decide) (fun c_92 => ?_) (fun c_92 => ?_)
      · refine lv_iload_n hx hb dX5_withRegister_102 rfl (lv_at hl 1 rfl) ?_
        by_cases c_103_0 : (fX5_bits (12 : Int32) (3 : Int32) x) = (0 : Int32)
        · refine lv_tableIn (off := 41) (tgt := 144) hx hb dX5_withRegister_103 (by rw [c_103_0]; decide) (by rw [c_103_0]; decide) (by rw [c_103_0]; rfl) (by decide) ?_
          refine lv_aload_n hx hb dX5_withRegister_144 rfl (lv_at hl 4 rfl) ?_
          refine lv_iload_n hx hb dX5_withRegister_145 rfl (lv_at hl 3 rfl) ?_
          refine lv_iload_n hx hb dX5_withRegister_146 rfl (lv_at hl 2 rfl) ?_
          refine lv_iadd hx hb dX5_withRegister_147 ?_
          refine k_mv (w := wR bH bM bR bC jM jR jC) wR_ad (va_runV (As := [.int ((fX5_a x) + (fX5_b x))]) (rest := []) ⟨hx, hb, hml, hown, hB⟩ (mX5_lay l dC dI bH bM bR bC jM jR jC s.heap.size x ((fX5_a x) + (fX5_b x))) (cwV 1 hB (gV q_t3_86 q_t3_88 q_s_39 q_t1_4 wX5_lay) rfl rfl rfl hX5_lay ⟨Nat.le_of_ble_eq_true rfl, Nat.le_of_ble_eq_true rfl⟩) ⟨kM_blind NT_blind, va_recv hK hP (ci := 3) (q0 := 0) rfl rfl, kM_pre NT_warm hP hK hD hN⟩ rfl rfl hl.1 rfl (lv_room (Nat.le_of_ble_eq_true rfl)) dX5_withRegister_148 ⟨Nat.zero_le _, Nat.zero_le _⟩) hD hS hA (fun u H locs hw hP hD hS => ?_)
          obtain rfl := hw
          exact W.vret hx hb hr (fun t ht hW => ⟨⟨(fX5_lay ((fX5_a x) + (fX5_b x)) x), rfl, (by unfold fX5_withRegister; rw [if_neg c_31, if_neg c_48, if_pos c_92, if_pos c_103_0] <;> rfl), hpT ht hP⟩, hS.F ht⟩) hS.2.2 dX5_withRegister_151
        by_cases c_103_1 : (fX5_bits (12 : Int32) (3 : Int32) x) = (1 : Int32)
        · refine lv_tableIn (off := 49) (tgt := 152) hx hb dX5_withRegister_103 (by rw [c_103_1]; decide) (by rw [c_103_1]; decide) (by rw [c_103_1]; rfl) (by decide) ?_
          refine lv_aload_n hx hb dX5_withRegister_152 rfl (lv_at hl 4 rfl) ?_
          refine lv_iload_n hx hb dX5_withRegister_153 rfl (lv_at hl 3 rfl) ?_
          refine lv_iload_n hx hb dX5_withRegister_154 rfl (lv_at hl 2 rfl) ?_
          refine lv_bipush (v := 31) hx hb dX5_withRegister_155 (by decide) ?_
          refine lv_iand hx hb dX5_withRegister_157 ?_
          refine lv_ishl hx hb dX5_withRegister_158 ?_
          refine k_mv (w := wR bH bM bR bC jM jR jC) wR_ad (va_runV (As := [.int ((fX5_a x) <<< (((fX5_b x) &&& (31 : Int32)) &&& 31))]) (rest := []) ⟨hx, hb, hml, hown, hB⟩ (mX5_lay l dC dI bH bM bR bC jM jR jC s.heap.size x ((fX5_a x) <<< (((fX5_b x) &&& (31 : Int32)) &&& 31))) (cwV 1 hB (gV q_t3_86 q_t3_88 q_s_39 q_t1_4 wX5_lay) rfl rfl rfl hX5_lay ⟨Nat.le_of_ble_eq_true rfl, Nat.le_of_ble_eq_true rfl⟩) ⟨kM_blind NT_blind, va_recv hK hP (ci := 3) (q0 := 0) rfl rfl, kM_pre NT_warm hP hK hD hN⟩ rfl rfl hl.1 rfl (lv_room (Nat.le_of_ble_eq_true rfl)) dX5_withRegister_159 ⟨Nat.zero_le _, Nat.zero_le _⟩) hD hS hA (fun u H locs hw hP hD hS => ?_)
          obtain rfl := hw
          exact W.vret hx hb hr (fun t ht hW => ⟨⟨(fX5_lay ((fX5_a x) <<< (((fX5_b x) &&& (31 : Int32)) &&& 31)) x), rfl, (by unfold fX5_withRegister; rw [if_neg c_31, if_neg c_48, if_pos c_92, if_neg c_103_0, if_pos c_103_1] <;> rfl), hpT ht hP⟩, hS.F ht⟩) hS.2.2 dX5_withRegister_162
        by_cases c_103_2 : (fX5_bits (12 : Int32) (3 : Int32) x) = (2 : Int32)
        · refine lv_tableIn (off := 60) (tgt := 163) hx hb dX5_withRegister_103 (by rw [c_103_2]; decide) (by rw [c_103_2]; decide) (by rw [c_103_2]; rfl) (by decide) ?_
          refine lv_aload_n hx hb dX5_withRegister_163 rfl (lv_at hl 4 rfl) ?_
          refine lv_iload_n hx hb dX5_withRegister_164 rfl (lv_at hl 3 rfl) ?_
          refine lv_iload_n hx hb dX5_withRegister_165 rfl (lv_at hl 2 rfl) ?_
          refine lv_icmp_ge (tgt := 173) hx hb dX5_withRegister_166 (by decide) (fun c_166 => ?_) (fun c_166 => ?_)
          · refine lv_iconst (v := 0) hx hb dX5_withRegister_173 (by decide) ?_
            refine k_mv (w := wR bH bM bR bC jM jR jC) wR_ad (va_runV (As := [.int (0 : Int32)]) (rest := []) ⟨hx, hb, hml, hown, hB⟩ (mX5_lay l dC dI bH bM bR bC jM jR jC s.heap.size x (0 : Int32)) (cwV 1 hB (gV q_t3_86 q_t3_88 q_s_39 q_t1_4 wX5_lay) rfl rfl rfl hX5_lay ⟨Nat.le_of_ble_eq_true rfl, Nat.le_of_ble_eq_true rfl⟩) ⟨kM_blind NT_blind, va_recv hK hP (ci := 3) (q0 := 0) rfl rfl, kM_pre NT_warm hP hK hD hN⟩ rfl rfl hl.1 rfl (lv_room (Nat.le_of_ble_eq_true rfl)) dX5_withRegister_174 ⟨Nat.zero_le _, Nat.zero_le _⟩) hD hS hA (fun u H locs hw hP hD hS => ?_)
            obtain rfl := hw
            exact W.vret hx hb hr (fun t ht hW => ⟨⟨(fX5_lay (0 : Int32) x), rfl, (by unfold fX5_withRegister; rw [if_neg c_31, if_neg c_48, if_pos c_92, if_neg c_103_0, if_neg c_103_1, if_pos c_103_2, if_pos c_166] <;> rfl), hpT ht hP⟩, hS.F ht⟩) hS.2.2 dX5_withRegister_177
          · refine lv_iconst (v := 1) hx hb dX5_withRegister_169 (by decide) ?_
            refine lv_goto (tgt := 174) hx hb dX5_withRegister_170 (by decide) ?_
            refine k_mv (w := wR bH bM bR bC jM jR jC) wR_ad (va_runV (As := [.int (1 : Int32)]) (rest := []) ⟨hx, hb, hml, hown, hB⟩ (mX5_lay l dC dI bH bM bR bC jM jR jC s.heap.size x (1 : Int32)) (cwV 1 hB (gV q_t3_86 q_t3_88 q_s_39 q_t1_4 wX5_lay) rfl rfl rfl hX5_lay ⟨Nat.le_of_ble_eq_true rfl, Nat.le_of_ble_eq_true rfl⟩) ⟨kM_blind NT_blind, va_recv hK hP (ci := 3) (q0 := 0) rfl rfl, kM_pre NT_warm hP hK hD hN⟩ rfl rfl hl.1 rfl (lv_room (Nat.le_of_ble_eq_true rfl)) dX5_withRegister_174 ⟨Nat.zero_le _, Nat.zero_le _⟩) hD hS hA (fun u H locs hw hP hD hS => ?_)
            obtain rfl := hw
            exact W.vret hx hb hr (fun t ht hW => ⟨⟨(fX5_lay (1 : Int32) x), rfl, (by unfold fX5_withRegister; rw [if_neg c_31, if_neg c_48, if_pos c_92, if_neg c_103_0, if_neg c_103_1, if_pos c_103_2, if_neg c_166] <;> rfl), hpT ht hP⟩, hS.F ht⟩) hS.2.2 dX5_withRegister_177
        by_cases c_103_3 : (fX5_bits (12 : Int32) (3 : Int32) x) = (3 : Int32)
        · refine lv_tableIn (off := 75) (tgt := 178) hx hb dX5_withRegister_103 (by rw [c_103_3]; decide) (by rw [c_103_3]; decide) (by rw [c_103_3]; rfl) (by decide) ?_
          refine lv_aload_n hx hb dX5_withRegister_178 rfl (lv_at hl 4 rfl) ?_
          refine lv_iload_n hx hb dX5_withRegister_179 rfl (lv_at hl 3 rfl) ?_
          refine lv_iload_n hx hb dX5_withRegister_180 rfl (lv_at hl 2 rfl) ?_
          refine k_ri (va_runS (As := [.int (fX5_a x), .int (fX5_b x)]) (rest := [.ref bH]) ⟨hx, hb, hml, hown, hB⟩ (mX5_isBelow l (fX5_a x) (fX5_b x)) (va_cwS 2 hB (gS q_t3_122 q_t3_123 q_t1_4 wX5_isBelow) rfl rfl rfl hX5_isBelow.2 ⟨Nat.le_of_ble_eq_true rfl, Nat.le_of_ble_eq_true rfl⟩) ⟨fun _ _ _ _ q => q, fun U _ _ => ⟨rfl, trivial⟩⟩ rfl rfl hl.1 rfl (lv_room (Nat.le_of_ble_eq_true rfl)) dX5_withRegister_181 ⟨Nat.zero_le _, Nat.zero_le _⟩) ?_
          refine lv_if_eq (tgt := 191) hx hb dX5_withRegister_184 (by decide) (fun c_184 => ?_) (fun c_184 => ?_)
          · refine lv_iconst (v := 0) hx hb dX5_withRegister_191 (by decide) ?_
            refine k_mv (w := wR bH bM bR bC jM jR jC) wR_ad (va_runV (As := [.int (0 : Int32)]) (rest := []) ⟨hx, hb, hml, hown, hB⟩ (mX5_lay l dC dI bH bM bR bC jM jR jC s.heap.size x (0 : Int32)) (cwV 1 hB (gV q_t3_86 q_t3_88 q_s_39 q_t1_4 wX5_lay) rfl rfl rfl hX5_lay ⟨Nat.le_of_ble_eq_true rfl, Nat.le_of_ble_eq_true rfl⟩) ⟨kM_blind NT_blind, va_recv hK hP (ci := 3) (q0 := 0) rfl rfl, kM_pre NT_warm hP hK hD hN⟩ rfl rfl hl.1 rfl (lv_room (Nat.le_of_ble_eq_true rfl)) dX5_withRegister_192 ⟨Nat.zero_le _, Nat.zero_le _⟩) hD hS hA (fun u H locs hw hP hD hS => ?_)
            obtain rfl := hw
            exact W.vret hx hb hr (fun t ht hW => ⟨⟨(fX5_lay (0 : Int32) x), rfl, (by unfold fX5_withRegister; rw [if_neg c_31, if_neg c_48, if_pos c_92, if_neg c_103_0, if_neg c_103_1, if_neg c_103_2, if_pos c_103_3, if_pos c_184] <;> rfl), hpT ht hP⟩, hS.F ht⟩) hS.2.2 dX5_withRegister_195
          · refine lv_iconst (v := 1) hx hb dX5_withRegister_187 (by decide) ?_
            refine lv_goto (tgt := 192) hx hb dX5_withRegister_188 (by decide) ?_
            refine k_mv (w := wR bH bM bR bC jM jR jC) wR_ad (va_runV (As := [.int (1 : Int32)]) (rest := []) ⟨hx, hb, hml, hown, hB⟩ (mX5_lay l dC dI bH bM bR bC jM jR jC s.heap.size x (1 : Int32)) (cwV 1 hB (gV q_t3_86 q_t3_88 q_s_39 q_t1_4 wX5_lay) rfl rfl rfl hX5_lay ⟨Nat.le_of_ble_eq_true rfl, Nat.le_of_ble_eq_true rfl⟩) ⟨kM_blind NT_blind, va_recv hK hP (ci := 3) (q0 := 0) rfl rfl, kM_pre NT_warm hP hK hD hN⟩ rfl rfl hl.1 rfl (lv_room (Nat.le_of_ble_eq_true rfl)) dX5_withRegister_192 ⟨Nat.zero_le _, Nat.zero_le _⟩) hD hS hA (fun u H locs hw hP hD hS => ?_)
            obtain rfl := hw
            exact W.vret hx hb hr (fun t ht hW => ⟨⟨(fX5_lay (1 : Int32) x), rfl, (by unfold fX5_withRegister; rw [if_neg c_31, if_neg c_48, if_pos c_92, if_neg c_103_0, if_neg c_103_1, if_neg c_103_2, if_pos c_103_3, if_neg c_184] <;> rfl), hpT ht hP⟩, hS.F ht⟩) hS.2.2 dX5_withRegister_195
        by_cases c_103_4 : (fX5_bits (12 : Int32) (3 : Int32) x) = (4 : Int32)
        · refine lv_tableIn (off := 93) (tgt := 196) hx hb dX5_withRegister_103 (by rw [c_103_4]; decide) (by rw [c_103_4]; decide) (by rw [c_103_4]; rfl) (by decide) ?_
          refine lv_aload_n hx hb dX5_withRegister_196 rfl (lv_at hl 4 rfl) ?_
          refine lv_iload_n hx hb dX5_withRegister_197 rfl (lv_at hl 3 rfl) ?_
          refine lv_iload_n hx hb dX5_withRegister_198 rfl (lv_at hl 2 rfl) ?_
          refine lv_ixor hx hb dX5_withRegister_199 ?_
          refine k_mv (w := wR bH bM bR bC jM jR jC) wR_ad (va_runV (As := [.int ((fX5_a x) ^^^ (fX5_b x))]) (rest := []) ⟨hx, hb, hml, hown, hB⟩ (mX5_lay l dC dI bH bM bR bC jM jR jC s.heap.size x ((fX5_a x) ^^^ (fX5_b x))) (cwV 1 hB (gV q_t3_86 q_t3_88 q_s_39 q_t1_4 wX5_lay) rfl rfl rfl hX5_lay ⟨Nat.le_of_ble_eq_true rfl, Nat.le_of_ble_eq_true rfl⟩) ⟨kM_blind NT_blind, va_recv hK hP (ci := 3) (q0 := 0) rfl rfl, kM_pre NT_warm hP hK hD hN⟩ rfl rfl hl.1 rfl (lv_room (Nat.le_of_ble_eq_true rfl)) dX5_withRegister_200 ⟨Nat.zero_le _, Nat.zero_le _⟩) hD hS hA (fun u H locs hw hP hD hS => ?_)
          obtain rfl := hw
          exact W.vret hx hb hr (fun t ht hW => ⟨⟨(fX5_lay ((fX5_a x) ^^^ (fX5_b x)) x), rfl, (by unfold fX5_withRegister; rw [if_neg c_31, if_neg c_48, if_pos c_92, if_neg c_103_0, if_neg c_103_1, if_neg c_103_2, if_neg c_103_3, if_pos c_103_4] <;> rfl), hpT ht hP⟩, hS.F ht⟩) hS.2.2 dX5_withRegister_203
        by_cases c_103_5 : (fX5_bits (12 : Int32) (3 : Int32) x) = (5 : Int32)
        · refine lv_tableIn (off := 101) (tgt := 204) hx hb dX5_withRegister_103 (by rw [c_103_5]; decide) (by rw [c_103_5]; decide) (by rw [c_103_5]; rfl) (by decide) ?_
          refine lv_aload_n hx hb dX5_withRegister_204 rfl (lv_at hl 4 rfl) ?_
          refine lv_iload_n hx hb dX5_withRegister_205 rfl (lv_at hl 3 rfl) ?_
          refine lv_iload_n hx hb dX5_withRegister_206 rfl (lv_at hl 2 rfl) ?_
          refine lv_bipush (v := 31) hx hb dX5_withRegister_207 (by decide) ?_
          refine lv_iand hx hb dX5_withRegister_209 ?_
          refine lv_iushr (v := ush (fX5_a x) ((fX5_b x) &&& (31 : Int32))) hx hb dX5_withRegister_210 rfl ?_
          refine k_mv (w := wR bH bM bR bC jM jR jC) wR_ad (va_runV (As := [.int (ush (fX5_a x) ((fX5_b x) &&& (31 : Int32)))]) (rest := []) ⟨hx, hb, hml, hown, hB⟩ (mX5_lay l dC dI bH bM bR bC jM jR jC s.heap.size x (ush (fX5_a x) ((fX5_b x) &&& (31 : Int32)))) (cwV 1 hB (gV q_t3_86 q_t3_88 q_s_39 q_t1_4 wX5_lay) rfl rfl rfl hX5_lay ⟨Nat.le_of_ble_eq_true rfl, Nat.le_of_ble_eq_true rfl⟩) ⟨kM_blind NT_blind, va_recv hK hP (ci := 3) (q0 := 0) rfl rfl, kM_pre NT_warm hP hK hD hN⟩ rfl rfl hl.1 rfl (lv_room (Nat.le_of_ble_eq_true rfl)) dX5_withRegister_211 ⟨Nat.zero_le _, Nat.zero_le _⟩) hD hS hA (fun u H locs hw hP hD hS => ?_)
          obtain rfl := hw
          exact W.vret hx hb hr (fun t ht hW => ⟨⟨(fX5_lay (ush (fX5_a x) ((fX5_b x) &&& (31 : Int32))) x), rfl, (by unfold fX5_withRegister; rw [if_neg c_31, if_neg c_48, if_pos c_92, if_neg c_103_0, if_neg c_103_1, if_neg c_103_2, if_neg c_103_3, if_neg c_103_4, if_pos c_103_5] <;> rfl), hpT ht hP⟩, hS.F ht⟩) hS.2.2 dX5_withRegister_214
        by_cases c_103_6 : (fX5_bits (12 : Int32) (3 : Int32) x) = (6 : Int32)
        · refine lv_tableIn (off := 112) (tgt := 215) hx hb dX5_withRegister_103 (by rw [c_103_6]; decide) (by rw [c_103_6]; decide) (by rw [c_103_6]; rfl) (by decide) ?_
          refine lv_aload_n hx hb dX5_withRegister_215 rfl (lv_at hl 4 rfl) ?_
          refine lv_iload_n hx hb dX5_withRegister_216 rfl (lv_at hl 3 rfl) ?_
          refine lv_iload_n hx hb dX5_withRegister_217 rfl (lv_at hl 2 rfl) ?_
          refine lv_ior hx hb dX5_withRegister_218 ?_
          refine k_mv (w := wR bH bM bR bC jM jR jC) wR_ad (va_runV (As := [.int ((fX5_a x) ||| (fX5_b x))]) (rest := []) ⟨hx, hb, hml, hown, hB⟩ (mX5_lay l dC dI bH bM bR bC jM jR jC s.heap.size x ((fX5_a x) ||| (fX5_b x))) (cwV 1 hB (gV q_t3_86 q_t3_88 q_s_39 q_t1_4 wX5_lay) rfl rfl rfl hX5_lay ⟨Nat.le_of_ble_eq_true rfl, Nat.le_of_ble_eq_true rfl⟩) ⟨kM_blind NT_blind, va_recv hK hP (ci := 3) (q0 := 0) rfl rfl, kM_pre NT_warm hP hK hD hN⟩ rfl rfl hl.1 rfl (lv_room (Nat.le_of_ble_eq_true rfl)) dX5_withRegister_219 ⟨Nat.zero_le _, Nat.zero_le _⟩) hD hS hA (fun u H locs hw hP hD hS => ?_)
          obtain rfl := hw
          exact W.vret hx hb hr (fun t ht hW => ⟨⟨(fX5_lay ((fX5_a x) ||| (fX5_b x)) x), rfl, (by unfold fX5_withRegister; rw [if_neg c_31, if_neg c_48, if_pos c_92, if_neg c_103_0, if_neg c_103_1, if_neg c_103_2, if_neg c_103_3, if_neg c_103_4, if_neg c_103_5, if_pos c_103_6] <;> rfl), hpT ht hP⟩, hS.F ht⟩) hS.2.2 dX5_withRegister_222
        refine lv_tableOut (tgt := 223) hx hb dX5_withRegister_103 (by have h0 := lv_neT (a := 0) c_103_0 (by decide); have h1 := lv_neT (a := 1) c_103_1 (by decide); have h2 := lv_neT (a := 2) c_103_2 (by decide); have h3 := lv_neT (a := 3) c_103_3 (by decide); have h4 := lv_neT (a := 4) c_103_4 (by decide); have h5 := lv_neT (a := 5) c_103_5 (by decide); have h6 := lv_neT (a := 6) c_103_6 (by decide); omega) (by decide) ?_
        refine lv_aload_n hx hb dX5_withRegister_223 rfl (lv_at hl 4 rfl) ?_
        refine lv_iload_n hx hb dX5_withRegister_224 rfl (lv_at hl 3 rfl) ?_
        refine lv_iload_n hx hb dX5_withRegister_225 rfl (lv_at hl 2 rfl) ?_
        refine lv_iand hx hb dX5_withRegister_226 ?_
        refine k_mv (w := wR bH bM bR bC jM jR jC) wR_ad (va_runV (As := [.int ((fX5_a x) &&& (fX5_b x))]) (rest := []) ⟨hx, hb, hml, hown, hB⟩ (mX5_lay l dC dI bH bM bR bC jM jR jC s.heap.size x ((fX5_a x) &&& (fX5_b x))) (cwV 1 hB (gV q_t3_86 q_t3_88 q_s_39 q_t1_4 wX5_lay) rfl rfl rfl hX5_lay ⟨Nat.le_of_ble_eq_true rfl, Nat.le_of_ble_eq_true rfl⟩) ⟨kM_blind NT_blind, va_recv hK hP (ci := 3) (q0 := 0) rfl rfl, kM_pre NT_warm hP hK hD hN⟩ rfl rfl hl.1 rfl (lv_room (Nat.le_of_ble_eq_true rfl)) dX5_withRegister_227 ⟨Nat.zero_le _, Nat.zero_le _⟩) hD hS hA (fun u H locs hw hP hD hS => ?_)
        obtain rfl := hw
        exact W.vret hx hb hr (fun t ht hW => ⟨⟨(fX5_lay ((fX5_a x) &&& (fX5_b x)) x), rfl, (by unfold fX5_withRegister; rw [if_neg c_31, if_neg c_48, if_pos c_92, if_neg c_103_0, if_neg c_103_1, if_neg c_103_2, if_neg c_103_3, if_neg c_103_4, if_neg c_103_5, if_neg c_103_6] <;> rfl), hpT ht hP⟩, hS.F ht⟩) hS.2.2 dX5_withRegister_230
      · refine lv_aload_n hx hb dX5_withRegister_95 rfl (lv_at hl 4 rfl) ?_
        refine k_mv (w := wR bH bM bR bC jM jR jC) wR_ad (va_runV (As := []) (rest := []) ⟨hx, hb, hml, hown, hB⟩ (mX5_none l dC dI bH bM bR bC jM jR jC s.heap.size x) (cwV 0 hB (gV q_t3_102 q_t3_104 q_s_43 q_t1_4 wX5_none) rfl rfl rfl hX5_none ⟨Nat.le_of_ble_eq_true rfl, Nat.le_of_ble_eq_true rfl⟩) ⟨kM_blind NT_blind, va_recv hK hP (ci := 3) (q0 := 0) rfl rfl, kM_pre NT_warm hP hK hD hN⟩ rfl rfl hl.1 rfl (lv_room (Nat.le_of_ble_eq_true rfl)) dX5_withRegister_96 ⟨Nat.zero_le _, Nat.zero_le _⟩) hD hS hA (fun u H locs hw hP hD hS => ?_)
        obtain rfl := hw
        refine lv_goto (tgt := 231) hx hb dX5_withRegister_99 (by decide) ?_
        exact W.vret hx hb hr (fun t ht hW => ⟨⟨(fX5_none x), rfl, (by unfold fX5_withRegister; rw [if_neg c_31, if_neg c_48, if_neg c_92] <;> rfl), hpT ht hP⟩, hS.F ht⟩) hS.2.2 dX5_withRegister_231
    · refine lv_iload_n hx hb dX5_withRegister_51 rfl (lv_at hl 1 rfl) ?_
      refine lv_if_ne (tgt := 65) hx hb dX5_withRegister_52 (by decide) (fun c_52 => ?_) (fun c_52 => ?_)
      · refine lv_iload_n hx hb dX5_withRegister_65 rfl (lv_at hl 1 rfl) ?_
        refine lv_iconst (v := 5) hx hb dX5_withRegister_66 (by decide) ?_
        refine lv_icmp_ne (tgt := 83) hx hb dX5_withRegister_67 (by decide) (fun c_67 => ?_) (fun c_67 => ?_)
        · refine lv_aload_n hx hb dX5_withRegister_83 rfl (lv_at hl 4 rfl) ?_
          refine k_mv (w := wR bH bM bR bC jM jR jC) wR_ad (va_runV (As := []) (rest := []) ⟨hx, hb, hml, hown, hB⟩ (mX5_none l dC dI bH bM bR bC jM jR jC s.heap.size x) (cwV 0 hB (gV q_t3_102 q_t3_104 q_s_43 q_t1_4 wX5_none) rfl rfl rfl hX5_none ⟨Nat.le_of_ble_eq_true rfl, Nat.le_of_ble_eq_true rfl⟩) ⟨kM_blind NT_blind, va_recv hK hP (ci := 3) (q0 := 0) rfl rfl, kM_pre NT_warm hP hK hD hN⟩ rfl rfl hl.1 rfl (lv_room (Nat.le_of_ble_eq_true rfl)) dX5_withRegister_84 ⟨Nat.zero_le _, Nat.zero_le _⟩) hD hS hA (fun u H locs hw hP hD hS => ?_)
          obtain rfl := hw
          refine lv_goto (tgt := 231) hx hb dX5_withRegister_87 (by decide) ?_
          exact W.vret hx hb hr (fun t ht hW => ⟨⟨(fX5_none x), rfl, (by unfold fX5_withRegister; rw [if_neg c_31, if_pos c_48, if_neg c_52, if_neg c_67] <;> rfl), hpT ht hP⟩, hS.F ht⟩) hS.2.2 dX5_withRegister_231
        · refine lv_aload_n hx hb dX5_withRegister_70 rfl (lv_at hl 4 rfl) ?_
          refine lv_iload_n hx hb dX5_withRegister_71 rfl (lv_at hl 3 rfl) ?_
          refine lv_iload_n hx hb dX5_withRegister_72 rfl (lv_at hl 2 rfl) ?_
          refine lv_bipush (v := 31) hx hb dX5_withRegister_73 (by decide) ?_
          refine lv_iand hx hb dX5_withRegister_75 ?_
          refine lv_ishr hx hb dX5_withRegister_76 ?_
          refine k_mv (w := wR bH bM bR bC jM jR jC) wR_ad (va_runV (As := [.int ((fX5_a x) >>> (((fX5_b x) &&& (31 : Int32)) &&& 31))]) (rest := []) ⟨hx, hb, hml, hown, hB⟩ (mX5_lay l dC dI bH bM bR bC jM jR jC s.heap.size x ((fX5_a x) >>> (((fX5_b x) &&& (31 : Int32)) &&& 31))) (cwV 1 hB (gV q_t3_86 q_t3_88 q_s_39 q_t1_4 wX5_lay) rfl rfl rfl hX5_lay ⟨Nat.le_of_ble_eq_true rfl, Nat.le_of_ble_eq_true rfl⟩) ⟨kM_blind NT_blind, va_recv hK hP (ci := 3) (q0 := 0) rfl rfl, kM_pre NT_warm hP hK hD hN⟩ rfl rfl hl.1 rfl (lv_room (Nat.le_of_ble_eq_true rfl)) dX5_withRegister_77 ⟨Nat.zero_le _, Nat.zero_le _⟩) hD hS hA (fun u H locs hw hP hD hS => ?_)
          obtain rfl := hw
          refine lv_goto (tgt := 231) hx hb dX5_withRegister_80 (by decide) ?_
          exact W.vret hx hb hr (fun t ht hW => ⟨⟨(fX5_lay ((fX5_a x) >>> (((fX5_b x) &&& (31 : Int32)) &&& 31)) x), rfl, (by unfold fX5_withRegister; rw [if_neg c_31, if_pos c_48, if_neg c_52, if_pos c_67] <;> rfl), hpT ht hP⟩, hS.F ht⟩) hS.2.2 dX5_withRegister_231
      · refine lv_aload_n hx hb dX5_withRegister_55 rfl (lv_at hl 4 rfl) ?_
        refine lv_iload_n hx hb dX5_withRegister_56 rfl (lv_at hl 3 rfl) ?_
        refine lv_iload_n hx hb dX5_withRegister_57 rfl (lv_at hl 2 rfl) ?_
        refine lv_isub hx hb dX5_withRegister_58 ?_
        refine k_mv (w := wR bH bM bR bC jM jR jC) wR_ad (va_runV (As := [.int ((fX5_a x) - (fX5_b x))]) (rest := []) ⟨hx, hb, hml, hown, hB⟩ (mX5_lay l dC dI bH bM bR bC jM jR jC s.heap.size x ((fX5_a x) - (fX5_b x))) (cwV 1 hB (gV q_t3_86 q_t3_88 q_s_39 q_t1_4 wX5_lay) rfl rfl rfl hX5_lay ⟨Nat.le_of_ble_eq_true rfl, Nat.le_of_ble_eq_true rfl⟩) ⟨kM_blind NT_blind, va_recv hK hP (ci := 3) (q0 := 0) rfl rfl, kM_pre NT_warm hP hK hD hN⟩ rfl rfl hl.1 rfl (lv_room (Nat.le_of_ble_eq_true rfl)) dX5_withRegister_59 ⟨Nat.zero_le _, Nat.zero_le _⟩) hD hS hA (fun u H locs hw hP hD hS => ?_)
        obtain rfl := hw
        refine lv_goto (tgt := 231) hx hb dX5_withRegister_62 (by decide) ?_
        exact W.vret hx hb hr (fun t ht hW => ⟨⟨(fX5_lay ((fX5_a x) - (fX5_b x)) x), rfl, (by unfold fX5_withRegister; rw [if_neg c_31, if_pos c_48, if_pos c_52] <;> rfl), hpT ht hP⟩, hS.F ht⟩) hS.2.2 dX5_withRegister_231
  · refine lv_aload_n hx hb dX5_withRegister_34 rfl (lv_at hl 4 rfl) ?_
    refine lv_iload_n hx hb dX5_withRegister_35 rfl (lv_at hl 1 rfl) ?_
    refine lv_iload_n hx hb dX5_withRegister_36 rfl (lv_at hl 3 rfl) ?_
    refine lv_iload_n hx hb dX5_withRegister_37 rfl (lv_at hl 2 rfl) ?_
    refine k_mv (w := wR bH bM bR bC jM jR jC) wR_ad (va_runV (As := [.int (fX5_bits (12 : Int32) (3 : Int32) x), .int (fX5_a x), .int (fX5_b x)]) (rest := []) ⟨hx, hb, hml, hown, hB⟩ (mX5_product l dC dI bH bM bR bC jM jR jC s.heap.size x (fX5_bits (12 : Int32) (3 : Int32) x) (fX5_a x) (fX5_b x)) (cwV 3 hB (gV q_t3_155 q_t3_157 q_s_55 q_t1_4 wX5_product) rfl rfl rfl hX5_product ⟨Nat.le_of_ble_eq_true rfl, Nat.le_of_ble_eq_true rfl⟩) ⟨kM_blind NT_blind, va_recv hK hP (ci := 3) (q0 := 0) rfl rfl, kM_pre NT_warm hP hK hD hN⟩ rfl rfl hl.1 rfl (lv_room (Nat.le_of_ble_eq_true rfl)) dX5_withRegister_38 ⟨Nat.zero_le _, Nat.zero_le _⟩) hD hS hA (fun u H locs hw hP hD hS => ?_)
    obtain rfl := hw
    refine lv_goto (tgt := 231) hx hb dX5_withRegister_41 (by decide) ?_
    exact W.vret hx hb hr (fun t ht hW => ⟨⟨(fX5_product (fX5_bits (12 : Int32) (3 : Int32) x) (fX5_a x) (fX5_b x) x), rfl, (by unfold fX5_withRegister; rw [if_pos c_31] <;> rfl), hpT ht hP⟩, hS.F ht⟩) hS.2.2 dX5_withRegister_231
