/-! the two sides' states and instructions -/
def aS (y : SR) : St := (r_pc y, r_stopped y, r_steps y, r_traps y, r_mem y, r_reg y, r_ctl y 0, r_ctl y 1, r_ctl y 2, r_ctl y 3, r_ctl y 4, r_ctl y 5, r_ctl y 6, r_done y, r_line y)
def res (z z2 : SR) (n : Int32) : Bool × St := if r_trapped z2 = true then (false, (fX4_trap (r_cause z2) (r_why z2) (s_steps (aS z) n)).2) else (true, s_steps (s_pc (aS z2) (r_next z2)) n)
theorem tn0 : (0 : Int32).toNatClampNeg = 0 := by decide
theorem tn1 : (1 : Int32).toNatClampNeg = 1 := by decide
theorem tn2 : (2 : Int32).toNatClampNeg = 2 := by decide
theorem tn3 : (3 : Int32).toNatClampNeg = 3 := by decide
theorem tn4 : (4 : Int32).toNatClampNeg = 4 := by decide
theorem tn5 : (5 : Int32).toNatClampNeg = 5 := by decide
theorem tn6 : (6 : Int32).toNatClampNeg = 6 := by decide
theorem lt_nat {a b : Int32} (ha : un a < 2147483648) (hb : un b < 2147483648) : (a < b) ↔ un a < un b := by
  rw [Int32.lt_iff_toInt_lt, un_toInt, un_toInt, if_pos ha, if_pos hb]
  omega
theorem le_nat {a b : Int32} (ha : un a < 2147483648) (hb : un b < 2147483648) : (a ≤ b) ↔ un a ≤ un b := by
  rw [Int32.le_iff_toInt_le, un_toInt, un_toInt, if_pos ha, if_pos hb]
  omega
theorem lt0 (a : Int32) : (a < 0) ↔ ¬ un a < 2147483648 := by
  rw [Int32.lt_iff_toInt_lt]
  have e : (0 : Int32).toInt = 0 := by decide
  rw [e, un_toInt]
  have := un_lt a
  split <;> omega
theorem tnc {a : Int32} (h : un a < 2147483648) : a.toNatClampNeg = un a := by
  show a.toInt.toNat = _
  rw [un_toInt, if_pos h]
  omega
theorem r31 (v : Int32) : un (v &&& 31) < 32 := by rw [un_and31]; omega
theorem n31_a (v : Int32) : ¬ (32 : Int32) ≤ v &&& 31 := by
  have h := r31 v
  have e : un (32 : Int32) = 32 := by decide
  rw [le_nat (by omega) (by omega), e]
  omega
theorem n31_b (v : Int32) : (v &&& 31 < 1) ↔ v &&& 31 = 0 := by
  have h := r31 v
  have e : un (1 : Int32) = 1 := by decide
  have z0 : un (0 : Int32) = 0 := by decide
  rw [lt_nat (by omega) (by omega), e]
  constructor
  · intro g; apply un_inj; omega
  · intro g; rw [g]; decide
theorem n31_c (v : Int32) : (v &&& 31 ≤ 0) ↔ v &&& 31 = 0 := by
  have h := r31 v
  have z0 : un (0 : Int32) = 0 := by decide
  rw [le_nat (by omega) (by omega), z0]
  constructor
  · intro g; apply un_inj; omega
  · intro g; rw [g]; decide
theorem c_read (v : Int32) (x : St) (h0 : g_reg x 0 = 0) : fX4_readRegister (v &&& 31) x = g_reg x (v &&& 31).toNatClampNeg := by
  unfold fX4_readRegister
  rw [if_neg (n31_a v)]
  simp only [n31_b]
  split
  · rename_i h; rw [h, tn0, h0]
  · rfl
theorem c_a (z : SR) (n : Int32) (h0 : r_reg z 0 = 0) : fX4_valueA (r_word z) (s_steps (aS z) n) = fX5_a z := by
  unfold fX4_valueA fX5_a
  rw [e_ra]
  exact c_read _ _ h0
theorem c_b (z : SR) (n : Int32) (h0 : r_reg z 0 = 0) : fX4_valueB (r_word z) (s_steps (aS z) n) = fX5_b z := by
  unfold fX4_valueB fX5_b
  rw [e_rb]
  exact c_read _ _ h0
theorem c_lay' (z z' : SR) (n v : Int32) (ht : r_trapped z' = false) : (true, s_pc (fX4_writeRegister (fX1_d (r_word z')) v (s_steps (aS z') n)) (r_next z')) = res z (fX5_lay v z') n := by
  unfold fX4_writeRegister fX5_lay res
  rw [e_d]
  unfold fX1_d
  rw [if_neg (n31_a _)]
  simp only [n31_b, n31_c]
  split
  · rw [ht]; rfl
  · show _ = if r_trapped z' = true then _ else _
    rw [ht]; rfl
theorem c_lay (z z' : SR) (n v : Int32) (ht : r_trapped z' = false) (hn : r_next z' = r_pc z' + 4) : fX4_goOnWith (r_word z') v (s_steps (aS z') n) = res z (fX5_lay v z') n := by
  rw [← c_lay' z z' n v ht, hn]
  unfold fX4_goOnWith fX4_goOn fX4_writeRegister
  repeat' split
  all_goals rfl
theorem c_goOn (z z' : SR) (n : Int32) (ht : r_trapped z' = false) (hn : r_next z' = r_pc z' + 4) : fX4_goOn (s_steps (aS z') n) = res z z' n := by
  unfold fX4_goOn res
  rw [ht, hn]
  rfl
theorem trap_fst (c v : Int32) (x : St) : fX4_trap c v x = (false, (fX4_trap c v x).2) := by
  unfold fX4_trap
  split <;> rfl
theorem t5_trapped (c v : Int32) (z : SR) (ht : r_trapped z = false) : fX5_trap c v z = t_why (t_cause (t_trapped z true) c) v := by
  unfold fX5_trap
  rw [ht]
  rfl
theorem c_trap (z : SR) (n c v : Int32) (ht : r_trapped z = false) : fX4_trap c v (s_steps (aS z) n) = res z (fX5_trap c v z) n := by
  rw [trap_fst, t5_trapped _ _ _ ht]
  rfl
theorem c_none (z : SR) (n : Int32) (ht : r_trapped z = false) : fX4_unknown (r_word z) (s_steps (aS z) n) = res z (fX5_none z) n := by
  unfold fX4_unknown fX5_none
  exact c_trap z n 2 (r_word z) ht
theorem c_jump (z : SR) (n t : Int32) (ht : r_trapped z = false) : fX4_jump (fX1_d (r_word z)) t (s_steps (aS z) n) = res z (fX5_jump t z) n := by
  unfold fX4_jump fX5_jump fX5_goes
  split
  · exact c_lay' z (t_next z t) n _ ht
  · exact c_trap z n 0 t ht
theorem c_jump0 (z : SR) (n t : Int32) (ht : r_trapped z = false) : fX4_jump 0 t (s_steps (aS z) n) = res z (fX5_goes t z).2 n := by
  unfold fX4_jump fX5_goes
  split
  · unfold fX4_writeRegister res
    rw [if_pos (by decide)]
    show _ = if r_trapped z = true then _ else _
    rw [ht]
    rfl
  · exact c_trap z n 0 t ht
theorem f_cases (w : Int32) : fX1_f w = 0 ∨ fX1_f w = 1 ∨ fX1_f w = 2 ∨ fX1_f w = 3 ∨ fX1_f w = 4 ∨ fX1_f w = 5 ∨ fX1_f w = 6 ∨ fX1_f w = 7 := by
  have h : un (fX1_f w) < 8 := by unfold fX1_f; rw [un_and7]; omega
  have k : un (fX1_f w) = 0 ∨ un (fX1_f w) = 1 ∨ un (fX1_f w) = 2 ∨ un (fX1_f w) = 3 ∨ un (fX1_f w) = 4 ∨ un (fX1_f w) = 5 ∨ un (fX1_f w) = 6 ∨ un (fX1_f w) = 7 := by omega
  rcases k with k | k | k | k | k | k | k | k
  · exact .inl (un_inj k)
  · exact .inr (.inl (un_inj k))
  · exact .inr (.inr (.inl (un_inj k)))
  · exact .inr (.inr (.inr (.inl (un_inj k))))
  · exact .inr (.inr (.inr (.inr (.inl (un_inj k)))))
  · exact .inr (.inr (.inr (.inr (.inr (.inl (un_inj k))))))
  · exact .inr (.inr (.inr (.inr (.inr (.inr (.inl (un_inj k)))))))
  · exact .inr (.inr (.inr (.inr (.inr (.inr (.inr (un_inj k)))))))
theorem peta (p : Bool × St) : (p.1, p.2) = p := rfl
theorem bi1 (b : Bool) : (bi b = 0) = (b = false) := propext (bi0 b)
theorem c_branch (z : SR) (n : Int32) (ht : r_trapped z = false) (h0 : r_reg z 0 = 0) (hn : r_next z = r_pc z + 4) : fX4_branch (r_word z) (s_steps (aS z) n) = res z (fX5_branch z) n := by
  have g := c_goOn z z n ht hn
  have j := c_jump0 z n (r_pc z + fX1_numberB (r_word z)) ht
  have u := c_none z n ht
  have hp : g_pc (s_steps (aS z) n) = r_pc z := rfl
  unfold fX4_branch fX5_branch
  rw [c_a z n h0, c_b z n h0, e_f, e_nB, e_isBelow]
  simp only [peta, hp, g, j, u, bi1]
  generalize fX5_a z = a
  generalize fX5_b z = b
  unfold fX0_holds
  simp only [bi1]
  rcases f_cases (r_word z) with k | k | k | k | k | k | k | k <;> rw [k] <;> simp <;> (repeat' split) <;> simp_all
/-! numbers, registers, bytes -/
theorem b_31 (w : Int32) : fX1_b w &&& 31 = fX1_b w := by
  apply un_inj
  unfold fX1_b
  rw [un_and31, un_and31]
  omega
theorem c_basic (f a b : Int32) : fX0_basic f a b = if f = 0 then a + b else if f = 1 then a <<< ((b &&& 31) &&& 31) else if f = 2 then (if b ≤ a then 0 else 1) else if f = 3 then (if fX5_isBelow a b = false then 0 else 1) else if f = 4 then a ^^^ b else if f = 5 then ush a (b &&& 31) else if f = 6 then a ||| b else a &&& b := by
  unfold fX0_basic
  rw [e_isBelow]
  simp only [bi1]
theorem c_withNumber (z : SR) (n : Int32) (ht : r_trapped z = false) (h0 : r_reg z 0 = 0) (hn : r_next z = r_pc z + 4) : fX4_computeWithNumber (r_word z) (s_steps (aS z) n) = res z (fX5_withNumber z) n := by
  have l := fun v => c_lay z z n v ht hn
  have u := c_none z n ht
  unfold fX4_computeWithNumber fX5_withNumber
  rw [c_a z n h0, e_f, e_s, e_rb, e_nI]
  simp only [peta, l, u, bi1, c_basic, b_31]
  generalize fX5_a z = a
  rcases f_cases (r_word z) with k | k | k | k | k | k | k | k <;> rw [k] <;> simp <;> (repeat' split) <;> simp_all
theorem c_product (z : SR) (n a b : Int32) (ht : r_trapped z = false) (hn : r_next z = r_pc z + 4) : fX4_goOnWith (r_word z) (fX0_productOrQuotient (fX1_f (r_word z)) a b) (s_steps (aS z) n) = res z (fX5_product (fX1_f (r_word z)) a b z) n := by
  have l := fun v => c_lay z z n v ht hn
  unfold fX0_productOrQuotient fX5_product
  rw [l, e_mulh, e_mulhsu, e_mulhu, e_quot, e_rest, e_quotU, e_restU]
  rcases f_cases (r_word z) with k | k | k | k | k | k | k | k <;> rw [k] <;> simp <;> (repeat' split) <;> simp_all
theorem c_withRegister (z : SR) (n : Int32) (ht : r_trapped z = false) (h0 : r_reg z 0 = 0) (hn : r_next z = r_pc z + 4) : fX4_computeWithRegister (r_word z) (s_steps (aS z) n) = res z (fX5_withRegister z) n := by
  have l := fun v => c_lay z z n v ht hn
  have u := c_none z n ht
  have q := fun a b => c_product z n a b ht hn
  unfold fX4_computeWithRegister fX5_withRegister
  rw [c_a z n h0, c_b z n h0, e_f, e_s]
  simp only [peta, q]
  simp only [l, u, bi1, c_basic]
  generalize fX5_a z = a
  generalize fX5_b z = b
  by_cases s0 : fX1_s (r_word z) = 0
  · rw [s0]
    rcases f_cases (r_word z) with k | k | k | k | k | k | k | k <;> rw [k] <;> simp <;> (repeat' split) <;> simp_all
  · by_cases s1 : fX1_s (r_word z) = 1
    · rw [s1]; simp
    · by_cases s2 : fX1_s (r_word z) = 32
      · rw [s2]
        rcases f_cases (r_word z) with k | k | k | k | k | k | k | k <;> rw [k] <;> simp
      · rw [if_neg s0, if_neg s1, if_neg s2, if_neg s1, if_neg s2, if_neg s0]
theorem holds_un (p : Int32) : fX3_holds p = decide (un p < 4096) := by
  unfold fX3_holds
  have h := un_lt p
  have e : un (4096 : Int32) = 4096 := by decide
  by_cases c : un p < 2147483648
  · rw [if_neg (by rw [lt0]; omega)]
    simp only [le_nat (show un (4096 : Int32) < 2147483648 by omega) c, e]
    split <;> symm
    · exact decide_eq_false (by omega)
    · exact decide_eq_true (by omega)
  · rw [if_pos (by rw [lt0]; omega)]
    symm
    exact decide_eq_false (by omega)
theorem isBy_eq (p k : Int32) : fX3_isBy p k = decide (p &&& (((1 : Int32) <<< (k &&& 31)) - 1) = 0) := by
  unfold fX3_isBy
  split <;> rename_i h
  · rw [decide_eq_true h]
  · rw [decide_eq_false h]
theorem trap_trap (c1 c2 p : Int32) (z : SR) (ht : r_trapped z = false) : fX5_trap c2 p (fX5_trap c1 p z) = fX5_trap c1 p z := by
  rw [t5_trapped c1 p z ht]
  rfl
theorem le_sub4 (p : Int32) (k m : Nat) (hk : 4096 - k = m) (h : un p < 2147483648) (hm : m ≤ 4096) : (p ≤ nI m) ↔ un p ≤ m := by
  rw [le_nat h (by rw [un_nI (by omega)]; omega), un_nI (by omega)]
theorem may_eq (z : SR) (p s c1 c2 : Int32) (ht : r_trapped z = false) (hs : s = 1 ∨ s = 2 ∨ s = 4) : fX5_may p s c1 c2 z = if p &&& (s - 1) = 0 then (if fX3_holds p = true then (true, z) else (false, fX5_trap c2 p z)) else (false, fX5_trap c1 p z) := by
  have hp := un_lt p
  unfold fX5_may
  rw [trap_trap _ _ _ _ ht]
  simp only [t5_trapped _ _ _ ht, ht]
  have e1 : (bi true = 0) = False := eq_false (by decide)
  have e2 : (bi false = 0) = True := eq_true (by decide)
  have key : p &&& (s - 1) = 0 → ¬ p < 0 → ((p ≤ 4096 - s) ↔ fX3_holds p = true) := by
    intro h1 h2
    rw [holds_un, decide_eq_true_iff]
    have h3 : un p < 2147483648 := by
      rw [lt0] at h2
      omega
    rcases hs with rfl | rfl | rfl
    · have := le_sub4 p 1 4095 rfl h3 (by decide)
      have e : (4096 : Int32) - 1 = nI 4095 := by decide
      rw [e, this]; omega
    · have := le_sub4 p 2 4094 rfl h3 (by decide)
      have e : (4096 : Int32) - 2 = nI 4094 := by decide
      have f : (2 : Int32) - 1 = 1 := by decide
      rw [f] at h1
      have g := congrArg un h1
      rw [un_and1] at g
      have z0 : un (0 : Int32) = 0 := by decide
      rw [e, this]; omega
    · have := le_sub4 p 4 4092 rfl h3 (by decide)
      have e : (4096 : Int32) - 4 = nI 4092 := by decide
      have f : (4 : Int32) - 1 = 3 := by decide
      rw [f] at h1
      have g := congrArg un h1
      rw [un_and3] at g
      have z0 : un (0 : Int32) = 0 := by decide
      rw [e, this]; omega
  have neg : p < 0 → ¬ fX3_holds p = true := by
    intro h
    rw [holds_un, decide_eq_true_iff]
    rw [lt0] at h
    omega
  simp only [e1, e2, if_true, if_false]
  by_cases h1 : p &&& (s - 1) = 0
  · rw [if_pos h1, if_pos h1]
    by_cases h2 : p < 0
    · rw [if_pos h2, if_neg (neg h2)]
    · rw [if_neg h2]
      simp only [key h1 h2]
  · rw [if_neg h1, if_neg h1]
    split
    · rfl
    · split <;> rfl
theorem idx_eq (p : Int32) (h : un p < 4096) : (ush p 2).toNatClampNeg = (p / 4).toNatClampNeg ∧ ¬ (1024 : Int32) ≤ ush p 2 := by
  have h2 := un_ush2 p
  have e : un (1024 : Int32) = 1024 := by decide
  have hd : (p / 4).toInt = (un p / 4 : Nat) := by
    rw [Int32.toInt_div, un_toInt p, if_pos (by omega)]
    have e4 : (4 : Int32).toInt = ((4 : Nat) : Int) := by decide
    rw [e4, ← Int.ofNat_tdiv]
    have e2 : (2 : Nat) ^ 32 = 4294967296 := rfl
    rw [e2, Int.bmod_def]
    split <;> omega
  constructor
  · rw [tnc (by omega), h2]
    show _ = (p / 4).toInt.toNat
    rw [hd]
    rfl
  · rw [le_nat (by omega) (by omega), e, h2]
    omega
theorem c_readWord (p : Int32) (x : St) (h : un p < 4096) : fX3_readWord p x = g_mem x (p / 4).toNatClampNeg := by
  unfold fX3_readWord
  rw [if_neg (idx_eq p h).2, (idx_eq p h).1]
theorem c_writeWord (p v : Int32) (x : St) (h : un p < 4096) : fX3_writeWord p v x = s_mem x (upd (g_mem x) (p / 4).toNatClampNeg v) := by
  unfold fX3_writeWord
  rw [if_neg (idx_eq p h).2, (idx_eq p h).1]
theorem un_sx (v : Int32) : (v.toInt8.toInt32).toInt = v.toInt.bmod 256 ∧ (v.toInt16.toInt32).toInt = v.toInt.bmod 65536 := by
  constructor
  · rw [Int8.toInt_toInt32, Int32.toInt_toInt8]
  · rw [Int16.toInt_toInt32, Int32.toInt_toInt16]
theorem shl_toInt (v k : Int32) (n : Nat) (hn : n < 32) (hk : k.toBitVec.smod 32#32 = BitVec.ofNat 32 n) : (v <<< k).toInt = (v.toInt * 2 ^ n).bmod 4294967296 := by
  show (v.toBitVec <<< (k.toBitVec.smod 32#32)).toInt = _
  rw [hk, BitVec.shiftLeft_eq', BitVec.toNat_ofNat, Nat.mod_eq_of_lt (show n < 2 ^ 32 by omega), BitVec.toInt_shiftLeft]
  rw [Nat.shiftLeft_eq]
  show Int.bmod ((v.toBitVec.toNat * 2 ^ n : Nat) : Int) 4294967296 = _
  have h := un_toInt v
  have hl := un_lt v
  have e : ((v.toBitVec.toNat * 2 ^ n : Nat) : Int) = v.toInt * 2 ^ n + 4294967296 * (if un v < 2147483648 then 0 else 2 ^ n) := by
    rw [Int.natCast_mul, h]
    have p : ((2 ^ n : Nat) : Int) = 2 ^ n := by simp
    rw [p]
    split
    · simp
    · rw [Int.sub_mul]
      show (un v : Int) * 2 ^ n = _
      omega
  rw [e]
  exact Int.add_mul_bmod_self_left _ _ _
theorem shr_toInt (v k : Int32) (n : Nat) (hn : n < 32) (hk : k.toBitVec.smod 32#32 = BitVec.ofNat 32 n) : (v >>> k).toInt = v.toInt / 2 ^ n := by
  show (v.toBitVec.sshiftRight' (k.toBitVec.smod 32#32)).toInt = _
  rw [hk]
  show (v.toBitVec.sshiftRight (BitVec.ofNat 32 n).toNat).toInt = _
  rw [BitVec.toNat_ofNat, Nat.mod_eq_of_lt (show n < 2 ^ 32 by omega), BitVec.toInt_sshiftRight, Int.shiftRight_eq_div_pow]
  rfl
theorem e_sx8 (v : Int32) : v.toInt8.toInt32 = (v <<< ((24 : Int32) &&& 31)) >>> ((24 : Int32) &&& 31) := by
  apply i32_ext
  rw [(un_sx v).1, shr_toInt _ _ 24 (by decide) (by decide), shl_toInt _ _ 24 (by decide) (by decide)]
  simp only [Int.bmod_def]
  repeat' split
  all_goals omega
theorem e_sx16 (v : Int32) : v.toInt16.toInt32 = (v <<< ((16 : Int32) &&& 31)) >>> ((16 : Int32) &&& 31) := by
  apply i32_ext
  rw [(un_sx v).2, shr_toInt _ _ 16 (by decide) (by decide), shl_toInt _ _ 16 (by decide) (by decide)]
  simp only [Int.bmod_def]
  repeat' split
  all_goals omega
