def fX5_step_105 (x : SR) : SR := if (bi (r_trapped x)) = 0 then
    t_done (t_pc (t_steps x ((r_steps x) + (1 : Int32))) (r_next x)) ((r_done x) + (1 : Int32))
  else
    if ((upd (upd (upd (upd (r_ctl x) (4 : Int32).toNatClampNeg (r_pc x)) (5 : Int32).toNatClampNeg (r_cause x)) (6 : Int32).toNatClampNeg (r_why x)) (0 : Int32).toNatClampNeg ((((upd (upd (upd (r_ctl x) (4 : Int32).toNatClampNeg (r_pc x)) (5 : Int32).toNatClampNeg (r_cause x)) (6 : Int32).toNatClampNeg (r_why x)) (0 : Int32).toNatClampNeg) <<< ((4 : Int32) &&& 31)) &&& (128 : Int32))) (2 : Int32).toNatClampNeg) = 0 then
      t_stopped (t_ctl (t_traps (t_steps x ((r_steps x) + (1 : Int32))) ((r_traps x) + (1 : Int32))) (upd (upd (upd (upd (r_ctl x) (4 : Int32).toNatClampNeg (r_pc x)) (5 : Int32).toNatClampNeg (r_cause x)) (6 : Int32).toNatClampNeg (r_why x)) (0 : Int32).toNatClampNeg ((((upd (upd (upd (r_ctl x) (4 : Int32).toNatClampNeg (r_pc x)) (5 : Int32).toNatClampNeg (r_cause x)) (6 : Int32).toNatClampNeg (r_why x)) (0 : Int32).toNatClampNeg) <<< ((4 : Int32) &&& 31)) &&& (128 : Int32)))) true
    else
      t_pc (t_stopped (t_ctl (t_traps (t_steps x ((r_steps x) + (1 : Int32))) ((r_traps x) + (1 : Int32))) (upd (upd (upd (upd (r_ctl x) (4 : Int32).toNatClampNeg (r_pc x)) (5 : Int32).toNatClampNeg (r_cause x)) (6 : Int32).toNatClampNeg (r_why x)) (0 : Int32).toNatClampNeg ((((upd (upd (upd (r_ctl x) (4 : Int32).toNatClampNeg (r_pc x)) (5 : Int32).toNatClampNeg (r_cause x)) (6 : Int32).toNatClampNeg (r_why x)) (0 : Int32).toNatClampNeg) <<< ((4 : Int32) &&& 31)) &&& (128 : Int32)))) false) ((upd (upd (upd (upd (r_ctl x) (4 : Int32).toNatClampNeg (r_pc x)) (5 : Int32).toNatClampNeg (r_cause x)) (6 : Int32).toNatClampNeg (r_why x)) (0 : Int32).toNatClampNeg ((((upd (upd (upd (r_ctl x) (4 : Int32).toNatClampNeg (r_pc x)) (5 : Int32).toNatClampNeg (r_cause x)) (6 : Int32).toNatClampNeg (r_why x)) (0 : Int32).toNatClampNeg) <<< ((4 : Int32) &&& 31)) &&& (128 : Int32))) (2 : Int32).toNatClampNeg)
set_option maxHeartbeats 4000000 in
set_option maxRecDepth 100000 in
theorem tfX5_step_105 {p : Program} {l : Launch} {e : Env} {s : State} {m : MethodId} {args : Array Value} {below : List Frame} {meth : Method} {c : Code} {dC : Nat → ClassId} {dI : Nat → Nat → Nat} {bH bM bR bC jM jR jC : Nat} {A : Nat → Prop} (hx : p.tables.exec = Jvm.exec) (hb : c.code = cX5_step) (hr : meth.sig.returnType = none) (hlocks : meth.locks = false) (hml : c.maxLocals = 2) (hown : s.vm.findClass RX5 = some m.cls) (hB : ∀ w ∈ BIG, w.before args s = true) (hK : va_K (dC, dI) vwCl [(jM, .int), (jR, .int), (jC, .int)] s) (hN : NT s) (hA : ∀ q : Nat, s.heap.size ≤ q → A q) (x : SR) (H : Heap) (locs : List Loc) (ls : Array Slot) (hP : va_P (dC, dI) vwCl (wR bH bM bR bC jM jR jC x) H) (hD : va_D A (wR bH bM bR bC jM jR jC x)) (hS : va_S A s.heap H locs) (hl : lv_has ls 2 [(0, .ref bH)]) :
    W p l e (headSpec wsX5_step ({ frames := 5, cells := 0, slots := 0, locals := 113 })).room s m args below meth c H locs 0 0 (MQ below (va_Qv (fun u => u = fX5_step_105 x) (fun u t => va_P (dC, dI) vwCl (wR bH bM bR bC jM jR jC u) t.heap) A) args s 0 0 A) (F0 m 105 ls []) := by
  refine lv_aload_n hx hb dX5_step_105 rfl (lv_at hl 0 rfl) ?_
  refine lv_dup hx hb dX5_step_106 rfl ?_
  refine va_get (D := (dC, dI)) (ci := 3) (v := .int (r_steps x)) (C := RX5) (T := TX5) (N := 15) hx hb hB iX5 hown hK hP 0 rfl rfl 7 (by decide) (hB _ q_t2_238) (fun _ h9 => h9) rfl dX5_step_107 ?_
  refine lv_iconst (v := 1) hx hb dX5_step_110 (by decide) ?_
  refine lv_iadd hx hb dX5_step_111 ?_
  refine va_put (D := (dC, dI)) (ci := 3) (v := .int ((r_steps x) + (1 : Int32))) (ty := .int) (C := RX5) (T := TX5) (N := 15) hx hb hB iX5 tyX5 tyX5_ok nmX5 hown hK hP hD hS 0 rfl rfl 7 (by decide) (hB _ q_t2_238) (fun _ h9 => h9) rfl (by decide +kernel) rfl rfl (Nat.le_of_ble_eq_true rfl) dX5_step_112 (fun H locs hP hD hS => ?_)
  have hP : va_P (dC, dI) vwCl (wR bH bM bR bC jM jR jC (t_steps x ((r_steps x) + (1 : Int32)))) H := hP
  have hD : va_D A (wR bH bM bR bC jM jR jC (t_steps x ((r_steps x) + (1 : Int32)))) := hD
  refine lv_aload_n hx hb dX5_step_115 rfl (lv_at hl 0 rfl) ?_
  refine va_get (D := (dC, dI)) (ci := 3) (v := .int (bi (r_trapped x))) (C := RX5) (T := TX5) (N := 15) hx hb hB iX5 hown hK hP 0 rfl rfl 11 (by decide) (hB _ q_t3_2) (fun _ h9 => h9) rfl dX5_step_116 ?_
  refine lv_if_ne (tgt := 141) hx hb dX5_step_119 (by decide) (fun c_119 => ?_) (fun c_119 => ?_)
  · refine lv_aload_n hx hb dX5_step_141 rfl (lv_at hl 0 rfl) ?_
    refine lv_dup hx hb dX5_step_142 rfl ?_
    refine va_get (D := (dC, dI)) (ci := 3) (v := .int (r_traps x)) (C := RX5) (T := TX5) (N := 15) hx hb hB iX5 hown hK hP 0 rfl rfl 9 (by decide) (hB _ q_t3_0) (fun _ h9 => h9) rfl dX5_step_143 ?_
    refine lv_iconst (v := 1) hx hb dX5_step_146 (by decide) ?_
    refine lv_iadd hx hb dX5_step_147 ?_
    refine va_put (D := (dC, dI)) (ci := 3) (v := .int ((r_traps x) + (1 : Int32))) (ty := .int) (C := RX5) (T := TX5) (N := 15) hx hb hB iX5 tyX5 tyX5_ok nmX5 hown hK hP hD hS 0 rfl rfl 9 (by decide) (hB _ q_t3_0) (fun _ h9 => h9) rfl (by decide +kernel) rfl rfl (Nat.le_of_ble_eq_true rfl) dX5_step_148 (fun H locs hP hD hS => ?_)
    have hP : va_P (dC, dI) vwCl (wR bH bM bR bC jM jR jC (t_traps (t_steps x ((r_steps x) + (1 : Int32))) ((r_traps x) + (1 : Int32)))) H := hP
    have hD : va_D A (wR bH bM bR bC jM jR jC (t_traps (t_steps x ((r_steps x) + (1 : Int32))) ((r_traps x) + (1 : Int32)))) := hD
    refine lv_aload_n hx hb dX5_step_151 rfl (lv_at hl 0 rfl) ?_
    refine va_get (D := (dC, dI)) (ci := 3) (v := .ref bC) (C := RX5) (T := TX5) (N := 15) hx hb hB iX5 hown hK hP 0 rfl rfl 4 (by decide) (hB _ q_t2_235) (fun _ h9 => h9) rfl dX5_step_152 ?_
    refine lv_iconst (v := 4) hx hb dX5_step_155 (by decide) ?_
    refine lv_aload_n hx hb dX5_step_156 rfl (lv_at hl 0 rfl) ?_
    refine va_get (D := (dC, dI)) (ci := 3) (v := .int (r_pc x)) (C := RX5) (T := TX5) (N := 15) hx hb hB iX5 hown hK hP 0 rfl rfl 3 (by decide) (hB _ q_t2_234) (fun _ h9 => h9) rfl dX5_step_157 ?_
    refine va_iast hx hb hK hP hD hS 3 2 rfl rfl (by unfold vp_in; decide) dX5_step_160 (fun H locs hP hD hS => ?_)
    have hP : va_P (dC, dI) vwCl (wR bH bM bR bC jM jR jC (t_ctl (t_traps (t_steps x ((r_steps x) + (1 : Int32))) ((r_traps x) + (1 : Int32))) (upd (r_ctl x) (4 : Int32).toNatClampNeg (r_pc x)))) H := hP
    have hD : va_D A (wR bH bM bR bC jM jR jC (t_ctl (t_traps (t_steps x ((r_steps x) + (1 : Int32))) ((r_traps x) + (1 : Int32))) (upd (r_ctl x) (4 : Int32).toNatClampNeg (r_pc x)))) := hD
    refine lv_aload_n hx hb dX5_step_161 rfl (lv_at hl 0 rfl) ?_
    refine va_get (D := (dC, dI)) (ci := 3) (v := .ref bC) (C := RX5) (T := TX5) (N := 15) hx hb hB iX5 hown hK hP 0 rfl rfl 4 (by decide) (hB _ q_t2_235) (fun _ h9 => h9) rfl dX5_step_162 ?_
    refine lv_iconst (v := 5) hx hb dX5_step_165 (by decide) ?_
    refine lv_aload_n hx hb dX5_step_166 rfl (lv_at hl 0 rfl) ?_
    refine va_get (D := (dC, dI)) (ci := 3) (v := .int (r_cause x)) (C := RX5) (T := TX5) (N := 15) hx hb hB iX5 hown hK hP 0 rfl rfl 12 (by decide) (hB _ q_t3_3) (fun _ h9 => h9) rfl dX5_step_167 ?_
    refine va_iast hx hb hK hP hD hS 3 2 rfl rfl (by unfold vp_in; decide) dX5_step_170 (fun H locs hP hD hS => ?_)
    have hP : va_P (dC, dI) vwCl (wR bH bM bR bC jM jR jC (t_ctl (t_traps (t_steps x ((r_steps x) + (1 : Int32))) ((r_traps x) + (1 : Int32))) (upd (upd (r_ctl x) (4 : Int32).toNatClampNeg (r_pc x)) (5 : Int32).toNatClampNeg (r_cause x)))) H := hP
    have hD : va_D A (wR bH bM bR bC jM jR jC (t_ctl (t_traps (t_steps x ((r_steps x) + (1 : Int32))) ((r_traps x) + (1 : Int32))) (upd (upd (r_ctl x) (4 : Int32).toNatClampNeg (r_pc x)) (5 : Int32).toNatClampNeg (r_cause x)))) := hD
    refine lv_aload_n hx hb dX5_step_171 rfl (lv_at hl 0 rfl) ?_
    refine va_get (D := (dC, dI)) (ci := 3) (v := .ref bC) (C := RX5) (T := TX5) (N := 15) hx hb hB iX5 hown hK hP 0 rfl rfl 4 (by decide) (hB _ q_t2_235) (fun _ h9 => h9) rfl dX5_step_172 ?_
    refine lv_bipush (v := 6) hx hb dX5_step_175 (by decide) ?_
    refine lv_aload_n hx hb dX5_step_177 rfl (lv_at hl 0 rfl) ?_
    refine va_get (D := (dC, dI)) (ci := 3) (v := .int (r_why x)) (C := RX5) (T := TX5) (N := 15) hx hb hB iX5 hown hK hP 0 rfl rfl 13 (by decide) (hB _ q_t3_4) (fun _ h9 => h9) rfl dX5_step_178 ?_
    refine va_iast hx hb hK hP hD hS 3 2 rfl rfl (by unfold vp_in; decide) dX5_step_181 (fun H locs hP hD hS => ?_)
    have hP : va_P (dC, dI) vwCl (wR bH bM bR bC jM jR jC (t_ctl (t_traps (t_steps x ((r_steps x) + (1 : Int32))) ((r_traps x) + (1 : Int32))) (upd (upd (upd (r_ctl x) (4 : Int32).toNatClampNeg (r_pc x)) (5 : Int32).toNatClampNeg (r_cause x)) (6 : Int32).toNatClampNeg (r_why x)))) H := hP
    have hD : va_D A (wR bH bM bR bC jM jR jC (t_ctl (t_traps (t_steps x ((r_steps x) + (1 : Int32))) ((r_traps x) + (1 : Int32))) (upd (upd (upd (r_ctl x) (4 : Int32).toNatClampNeg (r_pc x)) (5 : Int32).toNatClampNeg (r_cause x)) (6 : Int32).toNatClampNeg (r_why x)))) := hD
    refine lv_aload_n hx hb dX5_step_182 rfl (lv_at hl 0 rfl) ?_
    refine va_get (D := (dC, dI)) (ci := 3) (v := .ref bC) (C := RX5) (T := TX5) (N := 15) hx hb hB iX5 hown hK hP 0 rfl rfl 4 (by decide) (hB _ q_t2_235) (fun _ h9 => h9) rfl dX5_step_183 ?_
    refine lv_iconst (v := 0) hx hb dX5_step_186 (by decide) ?_
    refine lv_aload_n hx hb dX5_step_187 rfl (lv_at hl 0 rfl) ?_
    refine va_get (D := (dC, dI)) (ci := 3) (v := .ref bC) (C := RX5) (T := TX5) (N := 15) hx hb hB iX5 hown hK hP 0 rfl rfl 4 (by decide) (hB _ q_t2_235) (fun _ h9 => h9) rfl dX5_step_188 ?_
    refine lv_iconst (v := 0) hx hb dX5_step_191 (by decide) ?_
    refine va_iald hx hb hK hP 3 2 rfl rfl (by unfold vp_in; decide) dX5_step_192 ?_
    refine lv_iconst (v := 4) hx hb dX5_step_193 (by decide) ?_
    refine lv_ishl hx hb dX5_step_194 ?_
    refine lv_sipush (v := 128) hx hb dX5_step_195 (by decide) ?_
    refine lv_iand hx hb dX5_step_198 ?_
    refine va_iast hx hb hK hP hD hS 3 2 rfl rfl (by unfold vp_in; decide) dX5_step_199 (fun H locs hP hD hS => ?_)
    have hP : va_P (dC, dI) vwCl (wR bH bM bR bC jM jR jC (t_ctl (t_traps (t_steps x ((r_steps x) + (1 : Int32))) ((r_traps x) + (1 : Int32))) (upd (upd (upd (upd (r_ctl x) (4 : Int32).toNatClampNeg (r_pc x)) (5 : Int32).toNatClampNeg (r_cause x)) (6 : Int32).toNatClampNeg (r_why x)) (0 : Int32).toNatClampNeg ((((upd (upd (upd (r_ctl x) (4 : Int32).toNatClampNeg (r_pc x)) (5 : Int32).toNatClampNeg (r_cause x)) (6 : Int32).toNatClampNeg (r_why x)) (0 : Int32).toNatClampNeg) <<< ((4 : Int32) &&& 31)) &&& (128 : Int32))))) H := hP
    have hD : va_D A (wR bH bM bR bC jM jR jC (t_ctl (t_traps (t_steps x ((r_steps x) + (1 : Int32))) ((r_traps x) + (1 : Int32))) (upd (upd (upd (upd (r_ctl x) (4 : Int32).toNatClampNeg (r_pc x)) (5 : Int32).toNatClampNeg (r_cause x)) (6 : Int32).toNatClampNeg (r_why x)) (0 : Int32).toNatClampNeg ((((upd (upd (upd (r_ctl x) (4 : Int32).toNatClampNeg (r_pc x)) (5 : Int32).toNatClampNeg (r_cause x)) (6 : Int32).toNatClampNeg (r_why x)) (0 : Int32).toNatClampNeg) <<< ((4 : Int32) &&& 31)) &&& (128 : Int32))))) := hD
    refine lv_aload_n hx hb dX5_step_200 rfl (lv_at hl 0 rfl) ?_
    refine lv_aload_n hx hb dX5_step_201 rfl (lv_at hl 0 rfl) ?_
    refine va_get (D := (dC, dI)) (ci := 3) (v := .ref bC) (C := RX5) (T := TX5) (N := 15) hx hb hB iX5 hown hK hP 0 rfl rfl 4 (by decide) (hB _ q_t2_235) (fun _ h9 => h9) rfl dX5_step_202 ?_
    refine lv_iconst (v := 2) hx hb dX5_step_205 (by decide) ?_
    refine va_iald hx hb hK hP 3 2 rfl rfl (by unfold vp_in; decide) dX5_step_206 ?_
    refine lv_if_ne (tgt := 214) hx hb dX5_step_207 (by decide) (fun c_207 => ?_) (fun c_207 => ?_)
    · refine lv_iconst (v := 0) hx hb dX5_step_214 (by decide) ?_
      refine va_put (D := (dC, dI)) (ci := 3) (v := .int 0) (ty := .boolean) (C := RX5) (T := TX5) (N := 15) hx hb hB iX5 tyX5 tyX5_ok nmX5 hown hK hP hD hS 0 rfl rfl 6 (by decide) (hB _ q_t2_237) (fun _ h9 => h9) rfl (by decide +kernel) rfl rfl (Nat.le_of_ble_eq_true rfl) dX5_step_215 (fun H locs hP hD hS => ?_)
      have hP : va_P (dC, dI) vwCl (wR bH bM bR bC jM jR jC (t_stopped (t_ctl (t_traps (t_steps x ((r_steps x) + (1 : Int32))) ((r_traps x) + (1 : Int32))) (upd (upd (upd (upd (r_ctl x) (4 : Int32).toNatClampNeg (r_pc x)) (5 : Int32).toNatClampNeg (r_cause x)) (6 : Int32).toNatClampNeg (r_why x)) (0 : Int32).toNatClampNeg ((((upd (upd (upd (r_ctl x) (4 : Int32).toNatClampNeg (r_pc x)) (5 : Int32).toNatClampNeg (r_cause x)) (6 : Int32).toNatClampNeg (r_why x)) (0 : Int32).toNatClampNeg) <<< ((4 : Int32) &&& 31)) &&& (128 : Int32)))) false)) H := hP
      have hD : va_D A (wR bH bM bR bC jM jR jC (t_stopped (t_ctl (t_traps (t_steps x ((r_steps x) + (1 : Int32))) ((r_traps x) + (1 : Int32))) (upd (upd (upd (upd (r_ctl x) (4 : Int32).toNatClampNeg (r_pc x)) (5 : Int32).toNatClampNeg (r_cause x)) (6 : Int32).toNatClampNeg (r_why x)) (0 : Int32).toNatClampNeg ((((upd (upd (upd (r_ctl x) (4 : Int32).toNatClampNeg (r_pc x)) (5 : Int32).toNatClampNeg (r_cause x)) (6 : Int32).toNatClampNeg (r_why x)) (0 : Int32).toNatClampNeg) <<< ((4 : Int32) &&& 31)) &&& (128 : Int32)))) false)) := hD
      refine lv_aload_n hx hb dX5_step_218 rfl (lv_at hl 0 rfl) ?_
      refine va_get (D := (dC, dI)) (ci := 3) (v := .int (0 : Int32)) (C := RX5) (T := TX5) (N := 15) hx hb hB iX5 hown hK hP 0 rfl rfl 6 (by decide) (hB _ q_t2_237) (fun _ h9 => h9) rfl dX5_step_219 ?_
      refine lv_if_ne (tgt := 235) hx hb dX5_step_222 (by decide) (fun h9 => absurd h9 (by decide)) (fun _ => ?_)
      refine lv_aload_n hx hb dX5_step_225 rfl (lv_at hl 0 rfl) ?_
      refine lv_aload_n hx hb dX5_step_226 rfl (lv_at hl 0 rfl) ?_
      refine va_get (D := (dC, dI)) (ci := 3) (v := .ref bC) (C := RX5) (T := TX5) (N := 15) hx hb hB iX5 hown hK hP 0 rfl rfl 4 (by decide) (hB _ q_t2_235) (fun _ h9 => h9) rfl dX5_step_227 ?_
      refine lv_iconst (v := 2) hx hb dX5_step_230 (by decide) ?_
      refine va_iald hx hb hK hP 3 2 rfl rfl (by unfold vp_in; decide) dX5_step_231 ?_
      refine va_put (D := (dC, dI)) (ci := 3) (v := .int ((upd (upd (upd (upd (r_ctl x) (4 : Int32).toNatClampNeg (r_pc x)) (5 : Int32).toNatClampNeg (r_cause x)) (6 : Int32).toNatClampNeg (r_why x)) (0 : Int32).toNatClampNeg ((((upd (upd (upd (r_ctl x) (4 : Int32).toNatClampNeg (r_pc x)) (5 : Int32).toNatClampNeg (r_cause x)) (6 : Int32).toNatClampNeg (r_why x)) (0 : Int32).toNatClampNeg) <<< ((4 : Int32) &&& 31)) &&& (128 : Int32))) (2 : Int32).toNatClampNeg)) (ty := .int) (C := RX5) (T := TX5) (N := 15) hx hb hB iX5 tyX5 tyX5_ok nmX5 hown hK hP hD hS 0 rfl rfl 3 (by decide) (hB _ q_t2_234) (fun _ h9 => h9) rfl (by decide +kernel) rfl rfl (Nat.le_of_ble_eq_true rfl) dX5_step_232 (fun H locs hP hD hS => ?_)
      have hP : va_P (dC, dI) vwCl (wR bH bM bR bC jM jR jC (t_pc (t_stopped (t_ctl (t_traps (t_steps x ((r_steps x) + (1 : Int32))) ((r_traps x) + (1 : Int32))) (upd (upd (upd (upd (r_ctl x) (4 : Int32).toNatClampNeg (r_pc x)) (5 : Int32).toNatClampNeg (r_cause x)) (6 : Int32).toNatClampNeg (r_why x)) (0 : Int32).toNatClampNeg ((((upd (upd (upd (r_ctl x) (4 : Int32).toNatClampNeg (r_pc x)) (5 : Int32).toNatClampNeg (r_cause x)) (6 : Int32).toNatClampNeg (r_why x)) (0 : Int32).toNatClampNeg) <<< ((4 : Int32) &&& 31)) &&& (128 : Int32)))) false) ((upd (upd (upd (upd (r_ctl x) (4 : Int32).toNatClampNeg (r_pc x)) (5 : Int32).toNatClampNeg (r_cause x)) (6 : Int32).toNatClampNeg (r_why x)) (0 : Int32).toNatClampNeg ((((upd (upd (upd (r_ctl x) (4 : Int32).toNatClampNeg (r_pc x)) (5 : Int32).toNatClampNeg (r_cause x)) (6 : Int32).toNatClampNeg (r_why x)) (0 : Int32).toNatClampNeg) <<< ((4 : Int32) &&& 31)) &&& (128 : Int32))) (2 : Int32).toNatClampNeg))) H := hP
      have hD : va_D A (wR bH bM bR bC jM jR jC (t_pc (t_stopped (t_ctl (t_traps (t_steps x ((r_steps x) + (1 : Int32))) ((r_traps x) + (1 : Int32))) (upd (upd (upd (upd (r_ctl x) (4 : Int32).toNatClampNeg (r_pc x)) (5 : Int32).toNatClampNeg (r_cause x)) (6 : Int32).toNatClampNeg (r_why x)) (0 : Int32).toNatClampNeg ((((upd (upd (upd (r_ctl x) (4 : Int32).toNatClampNeg (r_pc x)) (5 : Int32).toNatClampNeg (r_cause x)) (6 : Int32).toNatClampNeg (r_why x)) (0 : Int32).toNatClampNeg) <<< ((4 : Int32) &&& 31)) &&& (128 : Int32)))) false) ((upd (upd (upd (upd (r_ctl x) (4 : Int32).toNatClampNeg (r_pc x)) (5 : Int32).toNatClampNeg (r_cause x)) (6 : Int32).toNatClampNeg (r_why x)) (0 : Int32).toNatClampNeg ((((upd (upd (upd (r_ctl x) (4 : Int32).toNatClampNeg (r_pc x)) (5 : Int32).toNatClampNeg (r_cause x)) (6 : Int32).toNatClampNeg (r_why x)) (0 : Int32).toNatClampNeg) <<< ((4 : Int32) &&& 31)) &&& (128 : Int32))) (2 : Int32).toNatClampNeg))) := hD
      exact W.vret hx hb hr (fun t ht hW => ⟨⟨(t_pc (t_stopped (t_ctl (t_traps (t_steps x ((r_steps x) + (1 : Int32))) ((r_traps x) + (1 : Int32))) (upd (upd (upd (upd (r_ctl x) (4 : Int32).toNatClampNeg (r_pc x)) (5 : Int32).toNatClampNeg (r_cause x)) (6 : Int32).toNatClampNeg (r_why x)) (0 : Int32).toNatClampNeg ((((upd (upd (upd (r_ctl x) (4 : Int32).toNatClampNeg (r_pc x)) (5 : Int32).toNatClampNeg (r_cause x)) (6 : Int32).toNatClampNeg (r_why x)) (0 : Int32).toNatClampNeg) <<< ((4 : Int32) &&& 31)) &&& (128 : Int32)))) false) ((upd (upd (upd (upd (r_ctl x) (4 : Int32).toNatClampNeg (r_pc x)) (5 : Int32).toNatClampNeg (r_cause x)) (6 : Int32).toNatClampNeg (r_why x)) (0 : Int32).toNatClampNeg ((((upd (upd (upd (r_ctl x) (4 : Int32).toNatClampNeg (r_pc x)) (5 : Int32).toNatClampNeg (r_cause x)) (6 : Int32).toNatClampNeg (r_why x)) (0 : Int32).toNatClampNeg) <<< ((4 : Int32) &&& 31)) &&& (128 : Int32))) (2 : Int32).toNatClampNeg)), rfl, (by unfold fX5_step_105; rw [if_neg c_119, if_neg c_207] <;> rfl), hpT ht hP⟩, hS.F ht⟩) hS.2.2 dX5_step_235
    · refine lv_iconst (v := 1) hx hb dX5_step_210 (by decide) ?_
      refine lv_goto (tgt := 215) hx hb dX5_step_211 (by decide) ?_
      refine va_put (D := (dC, dI)) (ci := 3) (v := .int 1) (ty := .boolean) (C := RX5) (T := TX5) (N := 15) hx hb hB iX5 tyX5 tyX5_ok nmX5 hown hK hP hD hS 0 rfl rfl 6 (by decide) (hB _ q_t2_237) (fun _ h9 => h9) rfl (by decide +kernel) rfl rfl (Nat.le_of_ble_eq_true rfl) dX5_step_215 (fun H locs hP hD hS => ?_)
      have hP : va_P (dC, dI) vwCl (wR bH bM bR bC jM jR jC (t_stopped (t_ctl (t_traps (t_steps x ((r_steps x) + (1 : Int32))) ((r_traps x) + (1 : Int32))) (upd (upd (upd (upd (r_ctl x) (4 : Int32).toNatClampNeg (r_pc x)) (5 : Int32).toNatClampNeg (r_cause x)) (6 : Int32).toNatClampNeg (r_why x)) (0 : Int32).toNatClampNeg ((((upd (upd (upd (r_ctl x) (4 : Int32).toNatClampNeg (r_pc x)) (5 : Int32).toNatClampNeg (r_cause x)) (6 : Int32).toNatClampNeg (r_why x)) (0 : Int32).toNatClampNeg) <<< ((4 : Int32) &&& 31)) &&& (128 : Int32)))) true)) H := hP
      have hD : va_D A (wR bH bM bR bC jM jR jC (t_stopped (t_ctl (t_traps (t_steps x ((r_steps x) + (1 : Int32))) ((r_traps x) + (1 : Int32))) (upd (upd (upd (upd (r_ctl x) (4 : Int32).toNatClampNeg (r_pc x)) (5 : Int32).toNatClampNeg (r_cause x)) (6 : Int32).toNatClampNeg (r_why x)) (0 : Int32).toNatClampNeg ((((upd (upd (upd (r_ctl x) (4 : Int32).toNatClampNeg (r_pc x)) (5 : Int32).toNatClampNeg (r_cause x)) (6 : Int32).toNatClampNeg (r_why x)) (0 : Int32).toNatClampNeg) <<< ((4 : Int32) &&& 31)) &&& (128 : Int32)))) true)) := hD
      refine lv_aload_n hx hb dX5_step_218 rfl (lv_at hl 0 rfl) ?_
      refine va_get (D := (dC, dI)) (ci := 3) (v := .int (1 : Int32)) (C := RX5) (T := TX5) (N := 15) hx hb hB iX5 hown hK hP 0 rfl rfl 6 (by decide) (hB _ q_t2_237) (fun _ h9 => h9) rfl dX5_step_219 ?_
      refine lv_if_ne (tgt := 235) hx hb dX5_step_222 (by decide) (fun _ => ?_) (fun h9 => absurd h9 (by decide))
      exact W.vret hx hb hr (fun t ht hW => ⟨⟨(t_stopped (t_ctl (t_traps (t_steps x ((r_steps x) + (1 : Int32))) ((r_traps x) + (1 : Int32))) (upd (upd (upd (upd (r_ctl x) (4 : Int32).toNatClampNeg (r_pc x)) (5 : Int32).toNatClampNeg (r_cause x)) (6 : Int32).toNatClampNeg (r_why x)) (0 : Int32).toNatClampNeg ((((upd (upd (upd (r_ctl x) (4 : Int32).toNatClampNeg (r_pc x)) (5 : Int32).toNatClampNeg (r_cause x)) (6 : Int32).toNatClampNeg (r_why x)) (0 : Int32).toNatClampNeg) <<< ((4 : Int32) &&& 31)) &&& (128 : Int32)))) true), rfl, (by unfold fX5_step_105; rw [if_neg c_119, if_pos c_207] <;> rfl), hpT ht hP⟩, hS.F ht⟩) hS.2.2 dX5_step_235
  · refine lv_aload_n hx hb dX5_step_122 rfl (lv_at hl 0 rfl) ?_
    refine lv_aload_n hx hb dX5_step_123 rfl (lv_at hl 0 rfl) ?_
    refine va_get (D := (dC, dI)) (ci := 3) (v := .int (r_next x)) (C := RX5) (T := TX5) (N := 15) hx hb hB iX5 hown hK hP 0 rfl rfl 14 (by decide) (hB _ q_t3_5) (fun _ h9 => h9) rfl dX5_step_124 ?_
    refine va_put (D := (dC, dI)) (ci := 3) (v := .int (r_next x)) (ty := .int) (C := RX5) (T := TX5) (N := 15) hx hb hB iX5 tyX5 tyX5_ok nmX5 hown hK hP hD hS 0 rfl rfl 3 (by decide) (hB _ q_t2_234) (fun _ h9 => h9) rfl (by decide +kernel) rfl rfl (Nat.le_of_ble_eq_true rfl) dX5_step_127 (fun H locs hP hD hS => ?_)
    have hP : va_P (dC, dI) vwCl (wR bH bM bR bC jM jR jC (t_pc (t_steps x ((r_steps x) + (1 : Int32))) (r_next x))) H := hP
    have hD : va_D A (wR bH bM bR bC jM jR jC (t_pc (t_steps x ((r_steps x) + (1 : Int32))) (r_next x))) := hD
    refine lv_aload_n hx hb dX5_step_130 rfl (lv_at hl 0 rfl) ?_
    refine lv_dup hx hb dX5_step_131 rfl ?_
    refine va_get (D := (dC, dI)) (ci := 3) (v := .int (r_done x)) (C := RX5) (T := TX5) (N := 15) hx hb hB iX5 hown hK hP 0 rfl rfl 8 (by decide) (hB _ q_t2_239) (fun _ h9 => h9) rfl dX5_step_132 ?_
    refine lv_iconst (v := 1) hx hb dX5_step_135 (by decide) ?_
    refine lv_iadd hx hb dX5_step_136 ?_
    refine va_put (D := (dC, dI)) (ci := 3) (v := .int ((r_done x) + (1 : Int32))) (ty := .int) (C := RX5) (T := TX5) (N := 15) hx hb hB iX5 tyX5 tyX5_ok nmX5 hown hK hP hD hS 0 rfl rfl 8 (by decide) (hB _ q_t2_239) (fun _ h9 => h9) rfl (by decide +kernel) rfl rfl (Nat.le_of_ble_eq_true rfl) dX5_step_137 (fun H locs hP hD hS => ?_)
    have hP : va_P (dC, dI) vwCl (wR bH bM bR bC jM jR jC (t_done (t_pc (t_steps x ((r_steps x) + (1 : Int32))) (r_next x)) ((r_done x) + (1 : Int32)))) H := hP
    have hD : va_D A (wR bH bM bR bC jM jR jC (t_done (t_pc (t_steps x ((r_steps x) + (1 : Int32))) (r_next x)) ((r_done x) + (1 : Int32)))) := hD
    exact W.vret hx hb hr (fun t ht hW => ⟨⟨(t_done (t_pc (t_steps x ((r_steps x) + (1 : Int32))) (r_next x)) ((r_done x) + (1 : Int32))), rfl, (by unfold fX5_step_105; rw [if_pos c_119] <;> rfl), hpT ht hP⟩, hS.F ht⟩) hS.2.2 dX5_step_140
def fX5_step_42 (b1 : Bool) (x : SR) : SR := if (bi b1) = 0 then
    if (r_pc x) < 0 then
      fX5_step_105 (fX5_trap (1 : Int32) (r_pc x) x)
    else
      if (r_pc x) ≤ (4092 : Int32) then
        fX5_step_105 (fX5_instruct (t_word x ((r_mem x) ((r_pc x) / (4 : Int32)).toNatClampNeg)))
      else
        fX5_step_105 (fX5_trap (1 : Int32) (r_pc x) x)
  else
    fX5_step_105 (fX5_trap (-2147483637 : Int32) (0 : Int32) x)
set_option maxHeartbeats 4000000 in
set_option maxRecDepth 100000 in
theorem tfX5_step_42 {p : Program} {l : Launch} {e : Env} {s : State} {m : MethodId} {args : Array Value} {below : List Frame} {meth : Method} {c : Code} {dC : Nat → ClassId} {dI : Nat → Nat → Nat} {bH bM bR bC jM jR jC : Nat} {A : Nat → Prop} (hx : p.tables.exec = Jvm.exec) (hb : c.code = cX5_step) (hr : meth.sig.returnType = none) (hlocks : meth.locks = false) (hml : c.maxLocals = 2) (hown : s.vm.findClass RX5 = some m.cls) (hB : ∀ w ∈ BIG, w.before args s = true) (hK : va_K (dC, dI) vwCl [(jM, .int), (jR, .int), (jC, .int)] s) (hN : NT s) (hA : ∀ q : Nat, s.heap.size ≤ q → A q) (b1 : Bool) (x : SR) (H : Heap) (locs : List Loc) (ls : Array Slot) (hP : va_P (dC, dI) vwCl (wR bH bM bR bC jM jR jC x) H) (hD : va_D A (wR bH bM bR bC jM jR jC x)) (hS : va_S A s.heap H locs) (hl : lv_has ls 2 [(0, .ref bH)]) :
    W p l e (headSpec wsX5_step ({ frames := 5, cells := 0, slots := 0, locals := 113 })).room s m args below meth c H locs 0 0 (MQ below (va_Qv (fun u => u = fX5_step_42 b1 x) (fun u t => va_P (dC, dI) vwCl (wR bH bM bR bC jM jR jC u) t.heap) A) args s 0 0 A) (F0 m 42 ls [.int (bi b1)]) := by
  refine lv_istore_n (lv' := [(1, .int (bi b1)), (0, .ref bH)]) hx hb dX5_step_42 rfl hl (by decide) rfl (fun ls hl => ?_)
  refine lv_iload_n hx hb dX5_step_43 rfl (lv_at hl 0 rfl) ?_
  refine lv_if_eq (tgt := 57) hx hb dX5_step_44 (by decide) (fun c_44 => ?_) (fun c_44 => ?_)
  · refine lv_aload_n hx hb dX5_step_57 rfl (lv_at hl 1 rfl) ?_
    refine va_get (D := (dC, dI)) (ci := 3) (v := .int (r_pc x)) (C := RX5) (T := TX5) (N := 15) hx hb hB iX5 hown hK hP 0 rfl rfl 3 (by decide) (hB _ q_t2_234) (fun _ h9 => h9) rfl dX5_step_58 ?_
    refine lv_if_lt (tgt := 74) hx hb dX5_step_61 (by decide) (fun c_61 => ?_) (fun c_61 => ?_)
    · refine lv_aload_n hx hb dX5_step_74 rfl (lv_at hl 1 rfl) ?_
      refine lv_iconst (v := 1) hx hb dX5_step_75 (by decide) ?_
      refine lv_aload_n hx hb dX5_step_76 rfl (lv_at hl 1 rfl) ?_
      refine va_get (D := (dC, dI)) (ci := 3) (v := .int (r_pc x)) (C := RX5) (T := TX5) (N := 15) hx hb hB iX5 hown hK hP 0 rfl rfl 3 (by decide) (hB _ q_t2_234) (fun _ h9 => h9) rfl dX5_step_77 ?_
      refine k_mv (w := wR bH bM bR bC jM jR jC) wR_ad (va_runV (As := [.int (1 : Int32), .int (r_pc x)]) (rest := []) ⟨hx, hb, hml, hown, hB⟩ (mX5_trap l dC dI bH bM bR bC jM jR jC H.size x (1 : Int32) (r_pc x)) (cwV 2 hB (gV q_t3_70 q_t3_72 q_s_35 q_t1_4 wX5_trap) rfl rfl rfl hX5_trap ⟨Nat.le_of_ble_eq_true rfl, Nat.le_of_ble_eq_true rfl⟩) ⟨kM_blind NT_blind, va_recv hK hP (ci := 3) (q0 := 0) rfl rfl, kM_pre NT_warm hP hK hD hN⟩ rfl rfl hl.1 rfl (lv_room (Nat.le_of_ble_eq_true rfl)) dX5_step_80 ⟨Nat.zero_le _, Nat.zero_le _⟩) hD hS hA (fun u H locs hw hP hD hS => ?_)
      obtain rfl := hw
      refine lv_goto (tgt := 105) hx hb dX5_step_83 (by decide) ?_
      have e9 : fX5_step_42 b1 x = fX5_step_105 (fX5_trap (1 : Int32) (r_pc x) x) := by (unfold fX5_step_42; rw [if_pos c_44, if_pos c_61] <;> rfl)
      rw [e9]
      exact tfX5_step_105 hx hb hr hlocks hml hown hB hK hN hA  (fX5_trap (1 : Int32) (r_pc x) x) H _ ls hP hD hS (lv_sub hl [1] rfl)
    · refine lv_aload_n hx hb dX5_step_64 rfl (lv_at hl 1 rfl) ?_
      refine va_get (D := (dC, dI)) (ci := 3) (v := .int (r_pc x)) (C := RX5) (T := TX5) (N := 15) hx hb hB iX5 hown hK hP 0 rfl rfl 3 (by decide) (hB _ q_t2_234) (fun _ h9 => h9) rfl dX5_step_65 ?_
      refine lv_sipush (v := 4092) hx hb dX5_step_68 (by decide) ?_
      refine lv_icmp_le (tgt := 86) hx hb dX5_step_71 (by decide) (fun c_71 => ?_) (fun c_71 => ?_)
      · refine lv_aload_n hx hb dX5_step_86 rfl (lv_at hl 1 rfl) ?_
        refine lv_aload_n hx hb dX5_step_87 rfl (lv_at hl 1 rfl) ?_
        refine va_get (D := (dC, dI)) (ci := 3) (v := .ref bM) (C := RX5) (T := TX5) (N := 15) hx hb hB iX5 hown hK hP 0 rfl rfl 1 (by decide) (hB _ q_t2_232) (fun _ h9 => h9) rfl dX5_step_88 ?_
        refine lv_aload_n hx hb dX5_step_91 rfl (lv_at hl 1 rfl) ?_
        refine va_get (D := (dC, dI)) (ci := 3) (v := .int (r_pc x)) (C := RX5) (T := TX5) (N := 15) hx hb hB iX5 hown hK hP 0 rfl rfl 3 (by decide) (hB _ q_t2_234) (fun _ h9 => h9) rfl dX5_step_92 ?_
        refine lv_iconst (v := 4) hx hb dX5_step_95 (by decide) ?_
        refine lv_idiv hx hb dX5_step_96 (by decide) ?_
        refine va_iald hx hb hK hP 1 0 rfl rfl (in_div4 c_61 c_71) dX5_step_97 ?_
        refine va_put (D := (dC, dI)) (ci := 3) (v := .int ((r_mem x) ((r_pc x) / (4 : Int32)).toNatClampNeg)) (ty := .int) (C := RX5) (T := TX5) (N := 15) hx hb hB iX5 tyX5 tyX5_ok nmX5 hown hK hP hD hS 0 rfl rfl 10 (by decide) (hB _ q_t3_1) (fun _ h9 => h9) rfl (by decide +kernel) rfl rfl (Nat.le_of_ble_eq_true rfl) dX5_step_98 (fun H locs hP hD hS => ?_)
        have hP : va_P (dC, dI) vwCl (wR bH bM bR bC jM jR jC (t_word x ((r_mem x) ((r_pc x) / (4 : Int32)).toNatClampNeg))) H := hP
        have hD : va_D A (wR bH bM bR bC jM jR jC (t_word x ((r_mem x) ((r_pc x) / (4 : Int32)).toNatClampNeg))) := hD
        refine lv_aload_n hx hb dX5_step_101 rfl (lv_at hl 1 rfl) ?_
        refine k_mv (w := wR bH bM bR bC jM jR jC) wR_ad (va_runV (As := []) (rest := []) ⟨hx, hb, hml, hown, hB⟩ (mX5_instruct l dC dI bH bM bR bC jM jR jC H.size (t_word x ((r_mem x) ((r_pc x) / (4 : Int32)).toNatClampNeg))) (cwV 0 hB (gV q_t3_74 q_t3_76 q_s_36 q_t1_4 wX5_instruct) rfl rfl rfl hX5_instruct ⟨Nat.le_of_ble_eq_true rfl, Nat.le_of_ble_eq_true rfl⟩) ⟨kM_blind NT_blind, va_recv hK hP (ci := 3) (q0 := 0) rfl rfl, kM_pre NT_warm hP hK hD hN⟩ rfl rfl hl.1 rfl (lv_room (Nat.le_of_ble_eq_true rfl)) dX5_step_102 ⟨Nat.zero_le _, Nat.zero_le _⟩) hD hS hA (fun u H locs hw hP hD hS => ?_)
        obtain rfl := hw
        have e9 : fX5_step_42 b1 x = fX5_step_105 (fX5_instruct (t_word x ((r_mem x) ((r_pc x) / (4 : Int32)).toNatClampNeg))) := by (unfold fX5_step_42; rw [if_pos c_44, if_neg c_61, if_pos c_71] <;> rfl)
        rw [e9]
        exact tfX5_step_105 hx hb hr hlocks hml hown hB hK hN hA  (fX5_instruct (t_word x ((r_mem x) ((r_pc x) / (4 : Int32)).toNatClampNeg))) H _ ls hP hD hS (lv_sub hl [1] rfl)
      · refine lv_aload_n hx hb dX5_step_74 rfl (lv_at hl 1 rfl) ?_
        refine lv_iconst (v := 1) hx hb dX5_step_75 (by decide) ?_
        refine lv_aload_n hx hb dX5_step_76 rfl (lv_at hl 1 rfl) ?_
        refine va_get (D := (dC, dI)) (ci := 3) (v := .int (r_pc x)) (C := RX5) (T := TX5) (N := 15) hx hb hB iX5 hown hK hP 0 rfl rfl 3 (by decide) (hB _ q_t2_234) (fun _ h9 => h9) rfl dX5_step_77 ?_
        refine k_mv (w := wR bH bM bR bC jM jR jC) wR_ad (va_runV (As := [.int (1 : Int32), .int (r_pc x)]) (rest := []) ⟨hx, hb, hml, hown, hB⟩ (mX5_trap l dC dI bH bM bR bC jM jR jC H.size x (1 : Int32) (r_pc x)) (cwV 2 hB (gV q_t3_70 q_t3_72 q_s_35 q_t1_4 wX5_trap) rfl rfl rfl hX5_trap ⟨Nat.le_of_ble_eq_true rfl, Nat.le_of_ble_eq_true rfl⟩) ⟨kM_blind NT_blind, va_recv hK hP (ci := 3) (q0 := 0) rfl rfl, kM_pre NT_warm hP hK hD hN⟩ rfl rfl hl.1 rfl (lv_room (Nat.le_of_ble_eq_true rfl)) dX5_step_80 ⟨Nat.zero_le _, Nat.zero_le _⟩) hD hS hA (fun u H locs hw hP hD hS => ?_)
        obtain rfl := hw
        refine lv_goto (tgt := 105) hx hb dX5_step_83 (by decide) ?_
        have e9 : fX5_step_42 b1 x = fX5_step_105 (fX5_trap (1 : Int32) (r_pc x) x) := by (unfold fX5_step_42; rw [if_pos c_44, if_neg c_61, if_neg c_71] <;> rfl)
        rw [e9]
        exact tfX5_step_105 hx hb hr hlocks hml hown hB hK hN hA  (fX5_trap (1 : Int32) (r_pc x) x) H _ ls hP hD hS (lv_sub hl [1] rfl)
  · refine lv_aload_n hx hb dX5_step_47 rfl (lv_at hl 1 rfl) ?_
    refine lv_ldc (v := -2147483637) hx hb hown (hB _ q_t3_69) dX5_step_48 ?_
    refine lv_iconst (v := 0) hx hb dX5_step_50 (by decide) ?_
    refine k_mv (w := wR bH bM bR bC jM jR jC) wR_ad (va_runV (As := [.int (-2147483637 : Int32), .int (0 : Int32)]) (rest := []) ⟨hx, hb, hml, hown, hB⟩ (mX5_trap l dC dI bH bM bR bC jM jR jC H.size x (-2147483637 : Int32) (0 : Int32)) (cwV 2 hB (gV q_t3_70 q_t3_72 q_s_35 q_t1_4 wX5_trap) rfl rfl rfl hX5_trap ⟨Nat.le_of_ble_eq_true rfl, Nat.le_of_ble_eq_true rfl⟩) ⟨kM_blind NT_blind, va_recv hK hP (ci := 3) (q0 := 0) rfl rfl, kM_pre NT_warm hP hK hD hN⟩ rfl rfl hl.1 rfl (lv_room (Nat.le_of_ble_eq_true rfl)) dX5_step_51 ⟨Nat.zero_le _, Nat.zero_le _⟩) hD hS hA (fun u H locs hw hP hD hS => ?_)
    obtain rfl := hw
    refine lv_goto (tgt := 105) hx hb dX5_step_54 (by decide) ?_
    have e9 : fX5_step_42 b1 x = fX5_step_105 (fX5_trap (-2147483637 : Int32) (0 : Int32) x) := by (unfold fX5_step_42; rw [if_neg c_44] <;> rfl)
    rw [e9]
    exact tfX5_step_105 hx hb hr hlocks hml hown hB hK hN hA  (fX5_trap (-2147483637 : Int32) (0 : Int32) x) H _ ls hP hD hS (lv_sub hl [1] rfl)
def fX5_step (x : SR) : SR := if (((r_ctl x) (0 : Int32).toNatClampNeg) &&& (8 : Int32)) = 0 then
    fX5_step_42 false (t_trapped x false)
  else
    if (((r_ctl x) (1 : Int32).toNatClampNeg) &&& (2048 : Int32)) = 0 then
      fX5_step_42 false (t_trapped x false)
    else
      if (bi (r_line x)) = 0 then
        fX5_step_42 false (t_trapped x false)
      else
        fX5_step_42 true (t_trapped x false)
set_option maxHeartbeats 4000000 in
set_option maxRecDepth 100000 in
theorem mX5_step (l : Launch) (dC : Nat → ClassId) (dI : Nat → Nat → Nat) (bH bM bR bC jM jR jC : Nat) (sz : Nat) (x : SR) : Met l yX5_step wsX5_step ({ frames := 5, cells := 0, slots := 0, locals := 113 }) (va_Pc [.ref bH] (kM (dC, dI) [(jM, .int), (jR, .int), (jC, .int)] NT (wR bH bM bR bC jM jR jC x) sz)) (va_Qv (fun u => u = fX5_step x) (fun u t => va_P (dC, dI) vwCl (wR bH bM bR bC jM jR jC u) t.heap) (va_A (wR bH bM bR bC jM jR jC x) sz)) 0 0 (va_A (wR bH bM bR bC jM jR jC x) sz) := by
  refine Met.ofW (cc := cX5_step) (maxL := 2) (ret := none) (by decide) rfl ?_
  intro p e s m args below meth c s₁ B hml hv
  obtain ⟨rfl, hsz, hD0, hP, hK, hN⟩ := hv
  have hx := B.exec
  have hb := B.bytes
  have hr := B.returns
  have hB := fun (w : Cond) (h : w ∈ BIG) => atoms_spec (ws := wsX5_step) B.pre w (List.mem_cons_of_mem _ h)
  have hown : s.vm.findClass RX5 = some m.cls := findClass_of_methodNamed B.named
  have hlocks := B.notSynchronized
  subst hsz
  have hD := hD0.self (sz := s.heap.size)
  generalize hAe : va_A (wR bH bM bR bC jM jR jC x) s.heap.size = A at hD ⊢
  have hA : ∀ q : Nat, s.heap.size ≤ q → A q := fun q h => by rw [← hAe]; exact Or.inr h
  have hS : va_S A s.heap s.heap [] := va_S.rf
  have hl := lv_entry ([.ref bH]) (n := 2) (Nat.le_of_ble_eq_true rfl)
  rw [lg_entry_eq]
  generalize (lg_sl ([.ref bH]) ++ List.replicate (2 - (lg_sl ([.ref bH])).length) Slot.unset).toArray = ls at hl ⊢
  have hl : lv_has ls 2 [(0, .ref bH)] := hl
  refine lv_aload_n hx hb dX5_step_0 rfl (lv_at hl 0 rfl) ?_
  refine lv_iconst (v := 0) hx hb dX5_step_1 (by decide) ?_
  refine va_put (D := (dC, dI)) (ci := 3) (v := .int 0) (ty := .boolean) (C := RX5) (T := TX5) (N := 15) hx hb hB iX5 tyX5 tyX5_ok nmX5 hown hK hP hD hS 0 rfl rfl 11 (by decide) (hB _ q_t3_2) (fun _ h9 => h9) rfl (by decide +kernel) rfl rfl (Nat.le_of_ble_eq_true rfl) dX5_step_2 (fun H locs hP hD hS => ?_)
  have hP : va_P (dC, dI) vwCl (wR bH bM bR bC jM jR jC (t_trapped x false)) H := hP
  have hD : va_D A (wR bH bM bR bC jM jR jC (t_trapped x false)) := hD
  refine lv_aload_n hx hb dX5_step_5 rfl (lv_at hl 0 rfl) ?_
  refine va_get (D := (dC, dI)) (ci := 3) (v := .ref bC) (C := RX5) (T := TX5) (N := 15) hx hb hB iX5 hown hK hP 0 rfl rfl 4 (by decide) (hB _ q_t2_235) (fun _ h9 => h9) rfl dX5_step_6 ?_
  refine lv_iconst (v := 0) hx hb dX5_step_9 (by decide) ?_
  refine va_iald hx hb hK hP 3 2 rfl rfl (by unfold vp_in; decide) dX5_step_10 ?_
  refine lv_bipush (v := 8) hx hb dX5_step_11 (by decide) ?_
  refine lv_iand hx hb dX5_step_13 ?_
  refine lv_if_eq (tgt := 41) hx hb dX5_step_14 (by decide) (fun c_14 => ?_) (fun c_14 => ?_)
  · refine lv_iconst (v := 0) hx hb dX5_step_41 (by decide) ?_
    have e9 : fX5_step x = fX5_step_42 false (t_trapped x false) := by (unfold fX5_step; rw [if_pos c_14] <;> rfl)
    rw [e9]
    exact tfX5_step_42 hx hb hr hlocks hml hown hB hK hN hA false (t_trapped x false) H _ ls hP hD hS (lv_sub hl [0] rfl)
  · refine lv_aload_n hx hb dX5_step_17 rfl (lv_at hl 0 rfl) ?_
    refine va_get (D := (dC, dI)) (ci := 3) (v := .ref bC) (C := RX5) (T := TX5) (N := 15) hx hb hB iX5 hown hK hP 0 rfl rfl 4 (by decide) (hB _ q_t2_235) (fun _ h9 => h9) rfl dX5_step_18 ?_
    refine lv_iconst (v := 1) hx hb dX5_step_21 (by decide) ?_
    refine va_iald hx hb hK hP 3 2 rfl rfl (by unfold vp_in; decide) dX5_step_22 ?_
    refine lv_sipush (v := 2048) hx hb dX5_step_23 (by decide) ?_
    refine lv_iand hx hb dX5_step_26 ?_
    refine lv_if_eq (tgt := 41) hx hb dX5_step_27 (by decide) (fun c_27 => ?_) (fun c_27 => ?_)
    · refine lv_iconst (v := 0) hx hb dX5_step_41 (by decide) ?_
      have e9 : fX5_step x = fX5_step_42 false (t_trapped x false) := by (unfold fX5_step; rw [if_neg c_14, if_pos c_27] <;> rfl)
      rw [e9]
      exact tfX5_step_42 hx hb hr hlocks hml hown hB hK hN hA false (t_trapped x false) H _ ls hP hD hS (lv_sub hl [0] rfl)
    · refine lv_aload_n hx hb dX5_step_30 rfl (lv_at hl 0 rfl) ?_
      refine va_get (D := (dC, dI)) (ci := 3) (v := .int (bi (r_line x))) (C := RX5) (T := TX5) (N := 15) hx hb hB iX5 hown hK hP 0 rfl rfl 5 (by decide) (hB _ q_t2_236) (fun _ h9 => h9) rfl dX5_step_31 ?_
      refine lv_if_eq (tgt := 41) hx hb dX5_step_34 (by decide) (fun c_34 => ?_) (fun c_34 => ?_)
      · refine lv_iconst (v := 0) hx hb dX5_step_41 (by decide) ?_
        have e9 : fX5_step x = fX5_step_42 false (t_trapped x false) := by (unfold fX5_step; rw [if_neg c_14, if_neg c_27, if_pos c_34] <;> rfl)
        rw [e9]
        exact tfX5_step_42 hx hb hr hlocks hml hown hB hK hN hA false (t_trapped x false) H _ ls hP hD hS (lv_sub hl [0] rfl)
      · refine lv_iconst (v := 1) hx hb dX5_step_37 (by decide) ?_
        refine lv_goto (tgt := 42) hx hb dX5_step_38 (by decide) ?_
        have e9 : fX5_step x = fX5_step_42 true (t_trapped x false) := by (unfold fX5_step; rw [if_neg c_14, if_neg c_27, if_neg c_34] <;> rfl)
        rw [e9]
        exact tfX5_step_42 hx hb hr hlocks hml hown hB hK hN hA true (t_trapped x false) H _ ls hP hD hS (lv_sub hl [0] rfl)
