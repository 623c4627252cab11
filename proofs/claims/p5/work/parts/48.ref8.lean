theorem fillf_c {i n : Nat} (h : i < n) (hn : n < 2 ^ 31) {v : Int32} {f : Nat → Int32} : upd (fillf i v f) (nI i).toNatClampNeg v = fillf (i + 1) v f := by
  rw [nI_clamp (Nat.lt_trans h hn), fillf_s]
theorem tt_reg (x : SR) (F G : Nat → Int32) : t_reg (t_reg x F) G = t_reg x G := rfl
theorem tt_ctl (x : SR) (F G : Nat → Int32) : t_ctl (t_ctl x F) G = t_ctl x G := rfl
theorem tt_mem (x : SR) (F G : Nat → Int32) : t_mem (t_mem x F) G = t_mem x G := rfl
theorem rt_reg (x : SR) (F : Nat → Int32) : r_reg (t_reg x F) = F := rfl
theorem rt_ctl (x : SR) (F : Nat → Int32) : r_ctl (t_ctl x F) = F := rfl
theorem rt_mem (x : SR) (F : Nat → Int32) : r_mem (t_mem x F) = F := rfl
set_option maxHeartbeats 4000000 in
set_option maxRecDepth 100000 in
theorem zl_7 {p : Program} {l : Launch} {e : Env} {s : State} {m : MethodId} {args : Array Value} {below : List Frame} {meth : Method} {c : Code} {dC : Nat → ClassId} {dI : Nat → Nat → Nat} {bH bM bR bC jM jR jC : Nat} {A : Nat → Prop} {R : Room} {Q : State → Prop} (hx : p.tables.exec = Jvm.exec) (hb : c.code = cX5_reset) (hown : s.vm.findClass RX5 = some m.cls) (hB : ∀ w ∈ BIG, w.before args s = true) (hK : va_K (dC, dI) vwCl [(jM, .int), (jR, .int), (jC, .int)] s) (b1 : Bool) (x : SR)
    (kx : ∀ (H : Heap) (locs : List Loc) (ls : Array Slot), va_P (dC, dI) vwCl (wR bH bM bR bC jM jR jC (t_reg x (fillf 32 0 (r_reg x)))) H → va_D A (wR bH bM bR bC jM jR jC (t_reg x (fillf 32 0 (r_reg x)))) → va_S A s.heap H locs → lv_has ls 3 [(0, .ref bH), (1, .int (bi b1))] → W p l e R s m args below meth c H locs 0 0 Q (F0 m 26 ls [])) :
    ∀ (k i : Nat), i + k = 32 → ∀ (z : Int32), z = nI i → ∀ (y : SR), y = t_reg x (fillf i 0 (r_reg x)) → ∀ (H : Heap) (locs : List Loc) (ls : Array Slot), va_P (dC, dI) vwCl (wR bH bM bR bC jM jR jC y) H → va_D A (wR bH bM bR bC jM jR jC y) → va_S A s.heap H locs → lv_has ls 3 [(0, .ref bH), (1, .int (bi b1)), (2, .int z)] → W p l e R s m args below meth c H locs 0 0 Q (F0 m 7 ls []) := by
  intro k
  induction k with
  | zero =>
    intro i hi z hz y hy H locs ls hP hD hS hl
    obtain rfl : i = 32 := by omega
    subst hy
    refine lv_iload_n hx hb dX5_reset_7 rfl (lv_at hl 2 rfl) ?_
    refine lv_bipush (v := nI 32) hx hb dX5_reset_8 (by decide) ?_
    refine lv_icmp_ge (tgt := 26) hx hb dX5_reset_10 (by decide) (fun _ => ?_) (fun h9 => absurd (by rw [hz]; exact nI_le (Nat.le_refl _) (by decide)) h9)
    exact kx H locs ls hP hD hS (lv_sub hl [0, 1] rfl)
  | succ k ih =>
    intro i hi z hz y hy H locs ls hP hD hS hl
    have hlt : i < 32 := by omega
    refine lv_iload_n hx hb dX5_reset_7 rfl (lv_at hl 2 rfl) ?_
    refine lv_bipush (v := nI 32) hx hb dX5_reset_8 (by decide) ?_
    refine lv_icmp_ge (tgt := 26) hx hb dX5_reset_10 (by decide) (fun h9 => absurd (by rw [hz] at h9; exact h9) (nI_ge hlt (by decide))) (fun _ => ?_)
    refine lv_aload_n hx hb dX5_reset_13 rfl (lv_at hl 0 rfl) ?_
    refine va_get (D := (dC, dI)) (ci := 3) (v := .ref bR) (C := RX5) (T := TX5) (N := 15) hx hb hB iX5 hown hK hP 0 rfl rfl 2 (by decide) (hB _ q_t2_233) (fun _ h9 => h9) rfl dX5_reset_14 ?_
    refine lv_iload_n hx hb dX5_reset_17 rfl (lv_at hl 2 rfl) ?_
    refine lv_iconst (v := 0) hx hb dX5_reset_18 (by decide) ?_
    refine va_iast hx hb hK hP hD hS 2 1 rfl rfl (by rw [hz]; exact vp_in_nI hlt (by decide)) dX5_reset_19 (fun H locs hP hD hS => ?_)
    have hP : va_P (dC, dI) vwCl (wR bH bM bR bC jM jR jC (t_reg y (upd (r_reg y) z.toNatClampNeg 0))) H := hP
    have hD : va_D A (wR bH bM bR bC jM jR jC (t_reg y (upd (r_reg y) z.toNatClampNeg 0))) := hD
    refine lv_iinc (v := z + 1) (lv' := [(2, .int (z + 1)), (0, .ref bH), (1, .int (bi b1))]) hx hb dX5_reset_20 hl (k := 2) rfl rfl (by decide) rfl (fun ls hl => ?_)
    refine lv_goto (tgt := 7) hx hb dX5_reset_23 (by decide) ?_
    exact ih (i + 1) (by omega) (z + 1) (by rw [hz]; exact nI_1 i) (t_reg y (upd (r_reg y) z.toNatClampNeg 0)) (by rw [hy, tt_reg, rt_reg, hz, fillf_c hlt (by decide)]) H locs ls hP hD hS (lv_sub hl [1, 2, 0] rfl)
set_option maxHeartbeats 4000000 in
set_option maxRecDepth 100000 in
theorem zl_28 {p : Program} {l : Launch} {e : Env} {s : State} {m : MethodId} {args : Array Value} {below : List Frame} {meth : Method} {c : Code} {dC : Nat → ClassId} {dI : Nat → Nat → Nat} {bH bM bR bC jM jR jC : Nat} {A : Nat → Prop} {R : Room} {Q : State → Prop} (hx : p.tables.exec = Jvm.exec) (hb : c.code = cX5_reset) (hown : s.vm.findClass RX5 = some m.cls) (hB : ∀ w ∈ BIG, w.before args s = true) (hK : va_K (dC, dI) vwCl [(jM, .int), (jR, .int), (jC, .int)] s) (b1 : Bool) (x : SR)
    (kx : ∀ (H : Heap) (locs : List Loc) (ls : Array Slot), va_P (dC, dI) vwCl (wR bH bM bR bC jM jR jC (t_ctl x (fillf 9 0 (r_ctl x)))) H → va_D A (wR bH bM bR bC jM jR jC (t_ctl x (fillf 9 0 (r_ctl x)))) → va_S A s.heap H locs → lv_has ls 3 [(0, .ref bH), (1, .int (bi b1))] → W p l e R s m args below meth c H locs 0 0 Q (F0 m 47 ls [])) :
    ∀ (k i : Nat), i + k = 9 → ∀ (z : Int32), z = nI i → ∀ (y : SR), y = t_ctl x (fillf i 0 (r_ctl x)) → ∀ (H : Heap) (locs : List Loc) (ls : Array Slot), va_P (dC, dI) vwCl (wR bH bM bR bC jM jR jC y) H → va_D A (wR bH bM bR bC jM jR jC y) → va_S A s.heap H locs → lv_has ls 3 [(0, .ref bH), (1, .int (bi b1)), (2, .int z)] → W p l e R s m args below meth c H locs 0 0 Q (F0 m 28 ls []) := by
  intro k
  induction k with
  | zero =>
    intro i hi z hz y hy H locs ls hP hD hS hl
    obtain rfl : i = 9 := by omega
    subst hy
    refine lv_iload_n hx hb dX5_reset_28 rfl (lv_at hl 2 rfl) ?_
    refine lv_bipush (v := nI 9) hx hb dX5_reset_29 (by decide) ?_
    refine lv_icmp_ge (tgt := 47) hx hb dX5_reset_31 (by decide) (fun _ => ?_) (fun h9 => absurd (by rw [hz]; exact nI_le (Nat.le_refl _) (by decide)) h9)
    exact kx H locs ls hP hD hS (lv_sub hl [0, 1] rfl)
  | succ k ih =>
    intro i hi z hz y hy H locs ls hP hD hS hl
    have hlt : i < 9 := by omega
    refine lv_iload_n hx hb dX5_reset_28 rfl (lv_at hl 2 rfl) ?_
    refine lv_bipush (v := nI 9) hx hb dX5_reset_29 (by decide) ?_
    refine lv_icmp_ge (tgt := 47) hx hb dX5_reset_31 (by decide) (fun h9 => absurd (by rw [hz] at h9; exact h9) (nI_ge hlt (by decide))) (fun _ => ?_)
    refine lv_aload_n hx hb dX5_reset_34 rfl (lv_at hl 0 rfl) ?_
    refine va_get (D := (dC, dI)) (ci := 3) (v := .ref bC) (C := RX5) (T := TX5) (N := 15) hx hb hB iX5 hown hK hP 0 rfl rfl 4 (by decide) (hB _ q_t2_235) (fun _ h9 => h9) rfl dX5_reset_35 ?_
    refine lv_iload_n hx hb dX5_reset_38 rfl (lv_at hl 2 rfl) ?_
    refine lv_iconst (v := 0) hx hb dX5_reset_39 (by decide) ?_
    refine va_iast hx hb hK hP hD hS 3 2 rfl rfl (by rw [hz]; exact vp_in_nI hlt (by decide)) dX5_reset_40 (fun H locs hP hD hS => ?_)
    have hP : va_P (dC, dI) vwCl (wR bH bM bR bC jM jR jC (t_ctl y (upd (r_ctl y) z.toNatClampNeg 0))) H := hP
    have hD : va_D A (wR bH bM bR bC jM jR jC (t_ctl y (upd (r_ctl y) z.toNatClampNeg 0))) := hD
    refine lv_iinc (v := z + 1) (lv' := [(2, .int (z + 1)), (0, .ref bH), (1, .int (bi b1))]) hx hb dX5_reset_41 hl (k := 2) rfl rfl (by decide) rfl (fun ls hl => ?_)
    refine lv_goto (tgt := 28) hx hb dX5_reset_44 (by decide) ?_
    exact ih (i + 1) (by omega) (z + 1) (by rw [hz]; exact nI_1 i) (t_ctl y (upd (r_ctl y) z.toNatClampNeg 0)) (by rw [hy, tt_ctl, rt_ctl, hz, fillf_c hlt (by decide)]) H locs ls hP hD hS (lv_sub hl [1, 2, 0] rfl)
set_option maxHeartbeats 4000000 in
set_option maxRecDepth 100000 in
theorem zl_49 {p : Program} {l : Launch} {e : Env} {s : State} {m : MethodId} {args : Array Value} {below : List Frame} {meth : Method} {c : Code} {dC : Nat → ClassId} {dI : Nat → Nat → Nat} {bH bM bR bC jM jR jC : Nat} {A : Nat → Prop} {R : Room} {Q : State → Prop} (hx : p.tables.exec = Jvm.exec) (hb : c.code = cX5_reset) (hown : s.vm.findClass RX5 = some m.cls) (hB : ∀ w ∈ BIG, w.before args s = true) (hK : va_K (dC, dI) vwCl [(jM, .int), (jR, .int), (jC, .int)] s) (b1 : Bool) (hb1 : b1 = true) (x : SR)
    (kx : ∀ (H : Heap) (locs : List Loc) (ls : Array Slot), va_P (dC, dI) vwCl (wR bH bM bR bC jM jR jC (t_mem x (fillf 1024 0 (r_mem x)))) H → va_D A (wR bH bM bR bC jM jR jC (t_mem x (fillf 1024 0 (r_mem x)))) → va_S A s.heap H locs → lv_has ls 3 [(0, .ref bH), (1, .int (bi b1))] → W p l e R s m args below meth c H locs 0 0 Q (F0 m 73 ls [])) :
    ∀ (k i : Nat), i + k = 1024 → ∀ (z : Int32), z = nI i → ∀ (y : SR), y = t_mem x (fillf i 0 (r_mem x)) → ∀ (H : Heap) (locs : List Loc) (ls : Array Slot), va_P (dC, dI) vwCl (wR bH bM bR bC jM jR jC y) H → va_D A (wR bH bM bR bC jM jR jC y) → va_S A s.heap H locs → lv_has ls 3 [(0, .ref bH), (1, .int (bi b1)), (2, .int z)] → W p l e R s m args below meth c H locs 0 0 Q (F0 m 49 ls []) := by
  intro k
  induction k with
  | zero =>
    intro i hi z hz y hy H locs ls hP hD hS hl
    obtain rfl : i = 1024 := by omega
    subst hy
    refine lv_iload_n hx hb dX5_reset_49 rfl (lv_at hl 2 rfl) ?_
    refine lv_sipush (v := nI 1024) hx hb dX5_reset_50 (by decide) ?_
    refine lv_icmp_ge (tgt := 73) hx hb dX5_reset_53 (by decide) (fun _ => ?_) (fun h9 => absurd (by rw [hz]; exact nI_le (Nat.le_refl _) (by decide)) h9)
    exact kx H locs ls hP hD hS (lv_sub hl [0, 1] rfl)
  | succ k ih =>
    intro i hi z hz y hy H locs ls hP hD hS hl
    have hlt : i < 1024 := by omega
    refine lv_iload_n hx hb dX5_reset_49 rfl (lv_at hl 2 rfl) ?_
    refine lv_sipush (v := nI 1024) hx hb dX5_reset_50 (by decide) ?_
    refine lv_icmp_ge (tgt := 73) hx hb dX5_reset_53 (by decide) (fun h9 => absurd (by rw [hz] at h9; exact h9) (nI_ge hlt (by decide))) (fun _ => ?_)
    refine lv_iload_n hx hb dX5_reset_56 rfl (lv_at hl 1 rfl) ?_
    refine lv_if_eq (tgt := 73) hx hb dX5_reset_57 (by decide) (fun h9 => absurd h9 (by rw [hb1]; decide)) (fun _ => ?_)
    refine lv_aload_n hx hb dX5_reset_60 rfl (lv_at hl 0 rfl) ?_
    refine va_get (D := (dC, dI)) (ci := 3) (v := .ref bM) (C := RX5) (T := TX5) (N := 15) hx hb hB iX5 hown hK hP 0 rfl rfl 1 (by decide) (hB _ q_t2_232) (fun _ h9 => h9) rfl dX5_reset_61 ?_
    refine lv_iload_n hx hb dX5_reset_64 rfl (lv_at hl 2 rfl) ?_
    refine lv_iconst (v := 0) hx hb dX5_reset_65 (by decide) ?_
    refine va_iast hx hb hK hP hD hS 1 0 rfl rfl (by rw [hz]; exact vp_in_nI hlt (by decide)) dX5_reset_66 (fun H locs hP hD hS => ?_)
    have hP : va_P (dC, dI) vwCl (wR bH bM bR bC jM jR jC (t_mem y (upd (r_mem y) z.toNatClampNeg 0))) H := hP
    have hD : va_D A (wR bH bM bR bC jM jR jC (t_mem y (upd (r_mem y) z.toNatClampNeg 0))) := hD
    refine lv_iinc (v := z + 1) (lv' := [(2, .int (z + 1)), (0, .ref bH), (1, .int (bi b1))]) hx hb dX5_reset_67 hl (k := 2) rfl rfl (by decide) rfl (fun ls hl => ?_)
    refine lv_goto (tgt := 49) hx hb dX5_reset_70 (by decide) ?_
    exact ih (i + 1) (by omega) (z + 1) (by rw [hz]; exact nI_1 i) (t_mem y (upd (r_mem y) z.toNatClampNeg 0)) (by rw [hy, tt_mem, rt_mem, hz, fillf_c hlt (by decide)]) H locs ls hP hD hS (lv_sub hl [1, 2, 0] rfl)
def fX5_reset (p0 : Bool) (x : SR) : SR := if p0 = true then
    t_traps (t_done (t_stopped (t_pc (t_mem (t_ctl (t_reg (t_thrown x (0 : Int32)) (fillf 32 0 (r_reg x))) (fillf 9 0 (r_ctl x))) (fillf 1024 0 (r_mem x))) (0 : Int32)) false) (0 : Int32)) (0 : Int32)
  else
    t_traps (t_done (t_stopped (t_pc (t_ctl (t_reg (t_thrown x (0 : Int32)) (fillf 32 0 (r_reg x))) (fillf 9 0 (r_ctl x))) (0 : Int32)) false) (0 : Int32)) (0 : Int32)
set_option maxHeartbeats 4000000 in
set_option maxRecDepth 100000 in
theorem mX5_reset (l : Launch) (dC : Nat → ClassId) (dI : Nat → Nat → Nat) (bH bM bR bC jM jR jC : Nat) (sz : Nat) (x : SR) (p0 : Bool) : Met l yX5_reset wsX5_reset ({ frames := 0, cells := 0, slots := 0, locals := 0 }) (va_Pc [.ref bH, .int (bi p0)] (kM (dC, dI) [(jM, .int), (jR, .int), (jC, .int)] NT (wR bH bM bR bC jM jR jC x) sz)) (va_Qv (fun u => u = fX5_reset p0 x) (fun u t => va_P (dC, dI) vwCl (wR bH bM bR bC jM jR jC u) t.heap) (va_A (wR bH bM bR bC jM jR jC x) sz)) 0 0 (va_A (wR bH bM bR bC jM jR jC x) sz) := by
  refine Met.ofW (cc := cX5_reset) (maxL := 3) (ret := none) (by decide) rfl ?_
  intro p e s m args below meth c s₁ B hml hv
  obtain ⟨rfl, hsz, hD0, hP, hK, hN⟩ := hv
  have hx := B.exec
  have hb := B.bytes
  have hr := B.returns
  have hB := fun (w : Cond) (h : w ∈ BIG) => atoms_spec (ws := wsX5_reset) B.pre w (List.mem_cons_of_mem _ h)
  have hown : s.vm.findClass RX5 = some m.cls := findClass_of_methodNamed B.named
  have hlocks := B.notSynchronized
  subst hsz
  have hD := hD0.self (sz := s.heap.size)
  generalize hAe : va_A (wR bH bM bR bC jM jR jC x) s.heap.size = A at hD ⊢
  have hA : ∀ q : Nat, s.heap.size ≤ q → A q := fun q h => by rw [← hAe]; exact Or.inr h
  have hS : va_S A s.heap s.heap [] := va_S.rf
  have hl := lv_entry ([.ref bH, .int (bi p0)]) (n := 3) (Nat.le_of_ble_eq_true rfl)
  rw [lg_entry_eq]
  generalize (lg_sl ([.ref bH, .int (bi p0)]) ++ List.replicate (3 - (lg_sl ([.ref bH, .int (bi p0)])).length) Slot.unset).toArray = ls at hl ⊢
  have hl : lv_has ls 3 [(0, .ref bH), (1, .int (bi p0))] := hl
  refine lv_aload_n hx hb dX5_reset_0 rfl (lv_at hl 0 rfl) ?_
  refine lv_iconst (v := 0) hx hb dX5_reset_1 (by decide) ?_
  refine va_put (D := (dC, dI)) (ci := 3) (v := .int (0 : Int32)) (ty := .int) (C := RX5) (T := TX5) (N := 15) hx hb hB iX5 tyX5 tyX5_ok nmX5 hown hK hP hD hS 0 rfl rfl 0 (by decide) (hB _ q_t2_231) (fun _ h9 => h9) rfl (by decide +kernel) rfl rfl (Nat.le_of_ble_eq_true rfl) dX5_reset_2 (fun H locs hP hD hS => ?_)
  have hP : va_P (dC, dI) vwCl (wR bH bM bR bC jM jR jC (t_thrown x (0 : Int32))) H := hP
  have hD : va_D A (wR bH bM bR bC jM jR jC (t_thrown x (0 : Int32))) := hD
  refine lv_iconst (v := 0) hx hb dX5_reset_5 (by decide) ?_
  refine lv_istore_n (lv' := [(2, .int (0 : Int32)), (0, .ref bH), (1, .int (bi p0))]) hx hb dX5_reset_6 rfl hl (by decide) rfl (fun ls hl => ?_)
  have hl : lv_has ls 3 [(0, .ref bH), (1, .int (bi p0)), (2, .int (nI 0))] := by rw [nI_0]; exact lv_sub hl [1, 2, 0] rfl
  refine zl_7 (bH := bH) (bM := bM) (bR := bR) (bC := bC) (jM := jM) (jR := jR) (jC := jC) hx hb hown hB hK p0 (t_thrown x (0 : Int32)) (fun H locs ls hP hD hS hl => ?_) 32 0 rfl (nI 0) rfl (t_thrown x (0 : Int32)) (by rw [fillf_0]) H _ ls hP hD hS hl
  have hP : va_P (dC, dI) vwCl (wR bH bM bR bC jM jR jC (t_reg (t_thrown x (0 : Int32)) (fillf 32 0 (r_reg x)))) H := hP
  have hD : va_D A (wR bH bM bR bC jM jR jC (t_reg (t_thrown x (0 : Int32)) (fillf 32 0 (r_reg x)))) := hD
  refine lv_iconst (v := 0) hx hb dX5_reset_26 (by decide) ?_
  refine lv_istore_n (lv' := [(2, .int (0 : Int32)), (0, .ref bH), (1, .int (bi p0))]) hx hb dX5_reset_27 rfl hl (by decide) rfl (fun ls hl => ?_)
  have hl : lv_has ls 3 [(0, .ref bH), (1, .int (bi p0)), (2, .int (nI 0))] := by rw [nI_0]; exact lv_sub hl [1, 2, 0] rfl
  refine zl_28 (bH := bH) (bM := bM) (bR := bR) (bC := bC) (jM := jM) (jR := jR) (jC := jC) hx hb hown hB hK p0 (t_reg (t_thrown x (0 : Int32)) (fillf 32 0 (r_reg x))) (fun H locs ls hP hD hS hl => ?_) 9 0 rfl (nI 0) rfl (t_reg (t_thrown x (0 : Int32)) (fillf 32 0 (r_reg x))) (by rw [fillf_0]) H _ ls hP hD hS hl
  have hP : va_P (dC, dI) vwCl (wR bH bM bR bC jM jR jC (t_ctl (t_reg (t_thrown x (0 : Int32)) (fillf 32 0 (r_reg x))) (fillf 9 0 (r_ctl x)))) H := hP
  have hD : va_D A (wR bH bM bR bC jM jR jC (t_ctl (t_reg (t_thrown x (0 : Int32)) (fillf 32 0 (r_reg x))) (fillf 9 0 (r_ctl x)))) := hD
  refine lv_iconst (v := 0) hx hb dX5_reset_47 (by decide) ?_
  refine lv_istore_n (lv' := [(2, .int (0 : Int32)), (0, .ref bH), (1, .int (bi p0))]) hx hb dX5_reset_48 rfl hl (by decide) rfl (fun ls hl => ?_)
  have hl : lv_has ls 3 [(0, .ref bH), (1, .int (bi p0)), (2, .int (nI 0))] := by rw [nI_0]; exact lv_sub hl [1, 2, 0] rfl
  by_cases hb1 : p0 = true
  · refine zl_49 (bH := bH) (bM := bM) (bR := bR) (bC := bC) (jM := jM) (jR := jR) (jC := jC) hx hb hown hB hK p0 hb1 (t_ctl (t_reg (t_thrown x (0 : Int32)) (fillf 32 0 (r_reg x))) (fillf 9 0 (r_ctl x))) (fun H locs ls hP hD hS hl => ?_) 1024 0 rfl (nI 0) rfl (t_ctl (t_reg (t_thrown x (0 : Int32)) (fillf 32 0 (r_reg x))) (fillf 9 0 (r_ctl x))) (by rw [fillf_0]) H _ ls hP hD hS hl
    have hP : va_P (dC, dI) vwCl (wR bH bM bR bC jM jR jC (t_mem (t_ctl (t_reg (t_thrown x (0 : Int32)) (fillf 32 0 (r_reg x))) (fillf 9 0 (r_ctl x))) (fillf 1024 0 (r_mem x)))) H := hP
    have hD : va_D A (wR bH bM bR bC jM jR jC (t_mem (t_ctl (t_reg (t_thrown x (0 : Int32)) (fillf 32 0 (r_reg x))) (fillf 9 0 (r_ctl x))) (fillf 1024 0 (r_mem x)))) := hD
    refine lv_aload_n hx hb dX5_reset_73 rfl (lv_at hl 0 rfl) ?_
    refine lv_iconst (v := 0) hx hb dX5_reset_74 (by decide) ?_
    refine va_put (D := (dC, dI)) (ci := 3) (v := .int (0 : Int32)) (ty := .int) (C := RX5) (T := TX5) (N := 15) hx hb hB iX5 tyX5 tyX5_ok nmX5 hown hK hP hD hS 0 rfl rfl 3 (by decide) (hB _ q_t2_234) (fun _ h9 => h9) rfl (by decide +kernel) rfl rfl (Nat.le_of_ble_eq_true rfl) dX5_reset_75 (fun H locs hP hD hS => ?_)
    have hP : va_P (dC, dI) vwCl (wR bH bM bR bC jM jR jC (t_pc (t_mem (t_ctl (t_reg (t_thrown x (0 : Int32)) (fillf 32 0 (r_reg x))) (fillf 9 0 (r_ctl x))) (fillf 1024 0 (r_mem x))) (0 : Int32))) H := hP
    have hD : va_D A (wR bH bM bR bC jM jR jC (t_pc (t_mem (t_ctl (t_reg (t_thrown x (0 : Int32)) (fillf 32 0 (r_reg x))) (fillf 9 0 (r_ctl x))) (fillf 1024 0 (r_mem x))) (0 : Int32))) := hD
    refine lv_aload_n hx hb dX5_reset_78 rfl (lv_at hl 0 rfl) ?_
    refine lv_iconst (v := 0) hx hb dX5_reset_79 (by decide) ?_
    refine va_put (D := (dC, dI)) (ci := 3) (v := .int 0) (ty := .boolean) (C := RX5) (T := TX5) (N := 15) hx hb hB iX5 tyX5 tyX5_ok nmX5 hown hK hP hD hS 0 rfl rfl 6 (by decide) (hB _ q_t2_237) (fun _ h9 => h9) rfl (by decide +kernel) rfl rfl (Nat.le_of_ble_eq_true rfl) dX5_reset_80 (fun H locs hP hD hS => ?_)
    have hP : va_P (dC, dI) vwCl (wR bH bM bR bC jM jR jC (t_stopped (t_pc (t_mem (t_ctl (t_reg (t_thrown x (0 : Int32)) (fillf 32 0 (r_reg x))) (fillf 9 0 (r_ctl x))) (fillf 1024 0 (r_mem x))) (0 : Int32)) false)) H := hP
    have hD : va_D A (wR bH bM bR bC jM jR jC (t_stopped (t_pc (t_mem (t_ctl (t_reg (t_thrown x (0 : Int32)) (fillf 32 0 (r_reg x))) (fillf 9 0 (r_ctl x))) (fillf 1024 0 (r_mem x))) (0 : Int32)) false)) := hD
    refine lv_aload_n hx hb dX5_reset_83 rfl (lv_at hl 0 rfl) ?_
    refine lv_iconst (v := 0) hx hb dX5_reset_84 (by decide) ?_
    refine va_put (D := (dC, dI)) (ci := 3) (v := .int (0 : Int32)) (ty := .int) (C := RX5) (T := TX5) (N := 15) hx hb hB iX5 tyX5 tyX5_ok nmX5 hown hK hP hD hS 0 rfl rfl 8 (by decide) (hB _ q_t2_239) (fun _ h9 => h9) rfl (by decide +kernel) rfl rfl (Nat.le_of_ble_eq_true rfl) dX5_reset_85 (fun H locs hP hD hS => ?_)
    have hP : va_P (dC, dI) vwCl (wR bH bM bR bC jM jR jC (t_done (t_stopped (t_pc (t_mem (t_ctl (t_reg (t_thrown x (0 : Int32)) (fillf 32 0 (r_reg x))) (fillf 9 0 (r_ctl x))) (fillf 1024 0 (r_mem x))) (0 : Int32)) false) (0 : Int32))) H := hP
    have hD : va_D A (wR bH bM bR bC jM jR jC (t_done (t_stopped (t_pc (t_mem (t_ctl (t_reg (t_thrown x (0 : Int32)) (fillf 32 0 (r_reg x))) (fillf 9 0 (r_ctl x))) (fillf 1024 0 (r_mem x))) (0 : Int32)) false) (0 : Int32))) := hD
    refine lv_aload_n hx hb dX5_reset_88 rfl (lv_at hl 0 rfl) ?_
    refine lv_iconst (v := 0) hx hb dX5_reset_89 (by decide) ?_
    refine va_put (D := (dC, dI)) (ci := 3) (v := .int (0 : Int32)) (ty := .int) (C := RX5) (T := TX5) (N := 15) hx hb hB iX5 tyX5 tyX5_ok nmX5 hown hK hP hD hS 0 rfl rfl 9 (by decide) (hB _ q_t3_0) (fun _ h9 => h9) rfl (by decide +kernel) rfl rfl (Nat.le_of_ble_eq_true rfl) dX5_reset_90 (fun H locs hP hD hS => ?_)
    have hP : va_P (dC, dI) vwCl (wR bH bM bR bC jM jR jC (t_traps (t_done (t_stopped (t_pc (t_mem (t_ctl (t_reg (t_thrown x (0 : Int32)) (fillf 32 0 (r_reg x))) (fillf 9 0 (r_ctl x))) (fillf 1024 0 (r_mem x))) (0 : Int32)) false) (0 : Int32)) (0 : Int32))) H := hP
    have hD : va_D A (wR bH bM bR bC jM jR jC (t_traps (t_done (t_stopped (t_pc (t_mem (t_ctl (t_reg (t_thrown x (0 : Int32)) (fillf 32 0 (r_reg x))) (fillf 9 0 (r_ctl x))) (fillf 1024 0 (r_mem x))) (0 : Int32)) false) (0 : Int32)) (0 : Int32))) := hD
    exact W.vret hx hb hr (fun t ht hW => ⟨⟨(t_traps (t_done (t_stopped (t_pc (t_mem (t_ctl (t_reg (t_thrown x (0 : Int32)) (fillf 32 0 (r_reg x))) (fillf 9 0 (r_ctl x))) (fillf 1024 0 (r_mem x))) (0 : Int32)) false) (0 : Int32)) (0 : Int32)), rfl, (by unfold fX5_reset; rw [if_pos hb1] <;> rfl), hpT ht hP⟩, hS.F ht⟩) hS.2.2 dX5_reset_93
  · refine lv_iload_n hx hb dX5_reset_49 rfl (lv_at hl 2 rfl) ?_
    refine lv_sipush (v := nI 1024) hx hb dX5_reset_50 (by decide) ?_
    refine lv_icmp_ge (tgt := 73) hx hb dX5_reset_53 (by decide) (fun h9 => absurd h9 (nI_ge (by decide) (by decide))) (fun _ => ?_)
    refine lv_iload_n hx hb dX5_reset_56 rfl (lv_at hl 1 rfl) ?_
    refine lv_if_eq (tgt := 73) hx hb dX5_reset_57 (by decide) (fun _ => ?_) (fun h9 => absurd (by rw [Bool.not_eq_true] at hb1; rw [hb1]; rfl) h9)
    refine lv_aload_n hx hb dX5_reset_73 rfl (lv_at hl 0 rfl) ?_
    refine lv_iconst (v := 0) hx hb dX5_reset_74 (by decide) ?_
    refine va_put (D := (dC, dI)) (ci := 3) (v := .int (0 : Int32)) (ty := .int) (C := RX5) (T := TX5) (N := 15) hx hb hB iX5 tyX5 tyX5_ok nmX5 hown hK hP hD hS 0 rfl rfl 3 (by decide) (hB _ q_t2_234) (fun _ h9 => h9) rfl (by decide +kernel) rfl rfl (Nat.le_of_ble_eq_true rfl) dX5_reset_75 (fun H locs hP hD hS => ?_)
    have hP : va_P (dC, dI) vwCl (wR bH bM bR bC jM jR jC (t_pc (t_ctl (t_reg (t_thrown x (0 : Int32)) (fillf 32 0 (r_reg x))) (fillf 9 0 (r_ctl x))) (0 : Int32))) H := hP
    have hD : va_D A (wR bH bM bR bC jM jR jC (t_pc (t_ctl (t_reg (t_thrown x (0 : Int32)) (fillf 32 0 (r_reg x))) (fillf 9 0 (r_ctl x))) (0 : Int32))) := hD
    refine lv_aload_n hx hb dX5_reset_78 rfl (lv_at hl 0 rfl) ?_
    refine lv_iconst (v := 0) hx hb dX5_reset_79 (by decide) ?_
    refine va_put (D := (dC, dI)) (ci := 3) (v := .int 0) (ty := .boolean) (C := RX5) (T := TX5) (N := 15) hx hb hB iX5 tyX5 tyX5_ok nmX5 hown hK hP hD hS 0 rfl rfl 6 (by decide) (hB _ q_t2_237) (fun _ h9 => h9) rfl (by decide +kernel) rfl rfl (Nat.le_of_ble_eq_true rfl) dX5_reset_80 (fun H locs hP hD hS => ?_)
    have hP : va_P (dC, dI) vwCl (wR bH bM bR bC jM jR jC (t_stopped (t_pc (t_ctl (t_reg (t_thrown x (0 : Int32)) (fillf 32 0 (r_reg x))) (fillf 9 0 (r_ctl x))) (0 : Int32)) false)) H := hP
    have hD : va_D A (wR bH bM bR bC jM jR jC (t_stopped (t_pc (t_ctl (t_reg (t_thrown x (0 : Int32)) (fillf 32 0 (r_reg x))) (fillf 9 0 (r_ctl x))) (0 : Int32)) false)) := hD
    refine lv_aload_n hx hb dX5_reset_83 rfl (lv_at hl 0 rfl) ?_
    refine lv_iconst (v := 0) hx hb dX5_reset_84 (by decide) ?_
    refine va_put (D := (dC, dI)) (ci := 3) (v := .int (0 : Int32)) (ty := .int) (C := RX5) (T := TX5) (N := 15) hx hb hB iX5 tyX5 tyX5_ok nmX5 hown hK hP hD hS 0 rfl rfl 8 (by decide) (hB _ q_t2_239) (fun _ h9 => h9) rfl (by decide +kernel) rfl rfl (Nat.le_of_ble_eq_true rfl) dX5_reset_85 (fun H locs hP hD hS => ?_)
    have hP : va_P (dC, dI) vwCl (wR bH bM bR bC jM jR jC (t_done (t_stopped (t_pc (t_ctl (t_reg (t_thrown x (0 : Int32)) (fillf 32 0 (r_reg x))) (fillf 9 0 (r_ctl x))) (0 : Int32)) false) (0 : Int32))) H := hP
    have hD : va_D A (wR bH bM bR bC jM jR jC (t_done (t_stopped (t_pc (t_ctl (t_reg (t_thrown x (0 : Int32)) (fillf 32 0 (r_reg x))) (fillf 9 0 (r_ctl x))) (0 : Int32)) false) (0 : Int32))) := hD
    refine lv_aload_n hx hb dX5_reset_88 rfl (lv_at hl 0 rfl) ?_
    refine lv_iconst (v := 0) hx hb dX5_reset_89 (by decide) ?_
    refine va_put (D := (dC, dI)) (ci := 3) (v := .int (0 : Int32)) (ty := .int) (C := RX5) (T := TX5) (N := 15) hx hb hB iX5 tyX5 tyX5_ok nmX5 hown hK hP hD hS 0 rfl rfl 9 (by decide) (hB _ q_t3_0) (fun _ h9 => h9) rfl (by decide +kernel) rfl rfl (Nat.le_of_ble_eq_true rfl) dX5_reset_90 (fun H locs hP hD hS => ?_)
    have hP : va_P (dC, dI) vwCl (wR bH bM bR bC jM jR jC (t_traps (t_done (t_stopped (t_pc (t_ctl (t_reg (t_thrown x (0 : Int32)) (fillf 32 0 (r_reg x))) (fillf 9 0 (r_ctl x))) (0 : Int32)) false) (0 : Int32)) (0 : Int32))) H := hP
    have hD : va_D A (wR bH bM bR bC jM jR jC (t_traps (t_done (t_stopped (t_pc (t_ctl (t_reg (t_thrown x (0 : Int32)) (fillf 32 0 (r_reg x))) (fillf 9 0 (r_ctl x))) (0 : Int32)) false) (0 : Int32)) (0 : Int32))) := hD
    exact W.vret hx hb hr (fun t ht hW => ⟨⟨(t_traps (t_done (t_stopped (t_pc (t_ctl (t_reg (t_thrown x (0 : Int32)) (fillf 32 0 (r_reg x))) (fillf 9 0 (r_ctl x))) (0 : Int32)) false) (0 : Int32)) (0 : Int32)), rfl, (by unfold fX5_reset; rw [if_neg hb1] <;> rfl), hpT ht hP⟩, hS.F ht⟩) hS.2.2 dX5_reset_93
