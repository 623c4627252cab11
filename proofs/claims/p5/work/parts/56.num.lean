/-! the two sides agree: bits and numbers -/
abbrev un (x : Int32) : Nat := x.toBitVec.toNat
theorem un_inj {x y : Int32} (h : un x = un y) : x = y := Int32.toBitVec_inj.mp (BitVec.eq_of_toNat_eq h)
theorem un_lt (x : Int32) : un x < 4294967296 := x.toBitVec.isLt
theorem un_toInt (x : Int32) : x.toInt = if un x < 2147483648 then (un x : Int) else (un x : Int) - 4294967296 := by
  show x.toBitVec.toInt = _
  rw [BitVec.toInt_eq_toNat_cond]
  have h := un_lt x
  simp only [un]
  split <;> split <;> omega
theorem un_of {x : Int32} {v : Int} (h : x.toInt = v) : (un x : Int) = v % 4294967296 := by
  have h1 := un_toInt x
  have h2 := un_lt x
  split at h1 <;> omega
theorem un_add (x y : Int32) : un (x + y) = (un x + un y) % 4294967296 := by
  show (x.toBitVec + y.toBitVec).toNat = _
  rw [BitVec.toNat_add]
theorem un_sub (x y : Int32) : un (x - y) = (4294967296 - un y + un x) % 4294967296 := by
  show (x.toBitVec - y.toBitVec).toNat = _
  rw [BitVec.toNat_sub]
theorem un_mul (x y : Int32) : un (x * y) = (un x * un y) % 4294967296 := by
  show (x.toBitVec * y.toBitVec).toNat = _
  rw [BitVec.toNat_mul]
theorem un_and (x y : Int32) : un (x &&& y) = un x &&& un y := by
  show (x.toBitVec &&& y.toBitVec).toNat = _
  rw [BitVec.toNat_and]
theorem un_or (x y : Int32) : un (x ||| y) = un x ||| un y := by
  show (x.toBitVec ||| y.toBitVec).toNat = _
  rw [BitVec.toNat_or]
theorem un_and1 (x : Int32) : un (x &&& 1) = un x % 2 := by
  rw [un_and]
  have h : un (1 : Int32) = 2 ^ 1 - 1 := by decide
  rw [h, Nat.and_two_pow_sub_one_eq_mod]
theorem un_and3 (x : Int32) : un (x &&& 3) = un x % 4 := by
  rw [un_and]
  have h : un (3 : Int32) = 2 ^ 2 - 1 := by decide
  rw [h, Nat.and_two_pow_sub_one_eq_mod]
theorem un_and7 (x : Int32) : un (x &&& 7) = un x % 8 := by
  rw [un_and]
  have h : un (7 : Int32) = 2 ^ 3 - 1 := by decide
  rw [h, Nat.and_two_pow_sub_one_eq_mod]
theorem un_and31 (x : Int32) : un (x &&& 31) = un x % 32 := by
  rw [un_and]
  have h : un (31 : Int32) = 2 ^ 5 - 1 := by decide
  rw [h, Nat.and_two_pow_sub_one_eq_mod]
theorem un_and127 (x : Int32) : un (x &&& 127) = un x % 128 := by
  rw [un_and]
  have h : un (127 : Int32) = 2 ^ 7 - 1 := by decide
  rw [h, Nat.and_two_pow_sub_one_eq_mod]
theorem un_and4095 (x : Int32) : un (x &&& 4095) = un x % 4096 := by
  rw [un_and]
  have h : un (4095 : Int32) = 2 ^ 12 - 1 := by decide
  rw [h, Nat.and_two_pow_sub_one_eq_mod]
theorem un_and65535 (x : Int32) : un (x &&& 65535) = un x % 65536 := by
  rw [un_and]
  have h : un (65535 : Int32) = 2 ^ 16 - 1 := by decide
  rw [h, Nat.and_two_pow_sub_one_eq_mod]
theorem un_ush (x : Int32) {k : Int32} {n : Nat} (hk : (k.toUInt32 &&& Int32.toUInt32 31).toBitVec.toNat % 32 = n) : un (ush x k) = un x / 2 ^ n := by
  show (x.toBitVec >>> ((k.toUInt32 &&& Int32.toUInt32 31).toBitVec % 32)).toNat = _
  rw [BitVec.ushiftRight_eq', BitVec.toNat_ushiftRight, BitVec.toNat_umod]
  show un x >>> ((k.toUInt32 &&& Int32.toUInt32 31).toBitVec.toNat % 32) = _
  rw [hk, Nat.shiftRight_eq_div_pow]
theorem un_ush2 (x : Int32) : un (ush x 2) = un x / 4 := un_ush x (n := 2) (by decide)
theorem un_ush12 (x : Int32) : un (ush x 12) = un x / 4096 := un_ush x (n := 12) (by decide)
theorem un_ush16 (x : Int32) : un (ush x 16) = un x / 65536 := un_ush x (n := 16) (by decide)
theorem un_ush20 (x : Int32) : un (ush x 20) = un x / 1048576 := un_ush x (n := 20) (by decide)
theorem un_ush25 (x : Int32) : un (ush x 25) = un x / 33554432 := un_ush x (n := 25) (by decide)
theorem ush_0 (x : Int32) : ush x 0 = x := un_inj (by rw [un_ush x (k := 0) (n := 0) (by decide)]; simp)
theorem un_nI {n : Nat} (h : n < 4294967296) : un (nI n) = n := by
  show (BitVec.ofNat 32 n).toNat = n
  rw [BitVec.toNat_ofNat]
  exact Nat.mod_eq_of_lt h
theorem un_ushI (x : Int32) {j : Nat} (hj : j < 32) : un (ush x (nI j)) = un x / 2 ^ j := by
  refine un_ush x ?_
  show ((nI j).toBitVec &&& (31 : Int32).toBitVec).toNat % 32 = j
  rw [BitVec.toNat_and]
  have h : (31 : Int32).toBitVec.toNat = 2 ^ 5 - 1 := by decide
  have h2 : (nI j).toBitVec.toNat = j := un_nI (by omega)
  rw [h, h2, Nat.and_two_pow_sub_one_eq_mod]
  omega
theorem un_shl1 (x : Int32) : un (x <<< ((1 : Int32) &&& 31)) = (2 * un x) % 4294967296 := by
  have e : x <<< ((1 : Int32) &&& 31) = x + x := by
    apply Int32.toBitVec_inj.mp
    show x.toBitVec <<< _ = x.toBitVec + x.toBitVec
    apply BitVec.eq_of_toNat_eq
    rw [BitVec.shiftLeft_eq', BitVec.toNat_shiftLeft, BitVec.toNat_add]
    have h : ((1 : Int32) &&& 31).toBitVec.toNat = 1 := by decide
    show x.toBitVec.toNat <<< ((((1 : Int32) &&& 31).toBitVec).smod 32#32).toNat % 2 ^ 32 = _
    have h : ((((1 : Int32) &&& 31).toBitVec).smod 32#32).toNat = 1 := by decide
    rw [h, Nat.shiftLeft_eq]
    omega
  rw [e, un_add]
  omega
theorem or_even {a b : Nat} (ha : a % 2 = 0) (hb : b < 2) : a ||| b = a + b := by
  have h := Nat.two_pow_add_eq_or_of_lt (i := 1) (b := b) (by omega) (a / 2)
  have e : 2 ^ 1 * (a / 2) = a := by omega
  rw [e] at h
  exact h.symm
/-- the bits of a word, both ways -/
theorem e_op (z : SR) : fX5_bits 0 7 z = fX1_op (r_word z) := by
  have h : ((1 : Int32) <<< ((7 : Int32) &&& 31)) - 1 = 127 := by decide
  unfold fX5_bits fX1_op
  rw [h, ush_0]
theorem e_d (z : SR) : fX5_bits 7 5 z = fX1_d (r_word z) := by
  have h : ((1 : Int32) <<< ((5 : Int32) &&& 31)) - 1 = 31 := by decide
  unfold fX5_bits fX1_d
  rw [h]
theorem e_f (z : SR) : fX5_bits 12 3 z = fX1_f (r_word z) := by
  have h : ((1 : Int32) <<< ((3 : Int32) &&& 31)) - 1 = 7 := by decide
  unfold fX5_bits fX1_f
  rw [h]
theorem e_ra (z : SR) : fX5_bits 15 5 z = fX1_a (r_word z) := by
  have h : ((1 : Int32) <<< ((5 : Int32) &&& 31)) - 1 = 31 := by decide
  unfold fX5_bits fX1_a
  rw [h]
theorem e_rb (z : SR) : fX5_bits 20 5 z = fX1_b (r_word z) := by
  have h : ((1 : Int32) <<< ((5 : Int32) &&& 31)) - 1 = 31 := by decide
  unfold fX5_bits fX1_b
  rw [h]
theorem e_s (z : SR) : fX5_bits 25 7 z = fX1_s (r_word z) := by
  have h : ((1 : Int32) <<< ((7 : Int32) &&& 31)) - 1 = 127 := by decide
  unfold fX5_bits fX1_s
  rw [h]
  apply un_inj
  rw [un_and127, un_ush25]
  have := un_lt (r_word z)
  omega
theorem e_cn (z : SR) : fX5_bits 20 12 z = fX1_controlNumber (r_word z) := by
  have h : ((1 : Int32) <<< ((12 : Int32) &&& 31)) - 1 = 4095 := by decide
  unfold fX5_bits fX1_controlNumber
  rw [h]
  apply un_inj
  rw [un_and4095, un_ush20]
  have := un_lt (r_word z)
  omega
theorem e_nI (z : SR) : fX5_numberI z = fX1_numberI (r_word z) := rfl
theorem e_nU (z : SR) : fX5_numberU z = fX1_numberU (r_word z) := rfl
theorem e_nS (z : SR) : fX5_numberS z = fX1_numberS (r_word z) := by
  unfold fX5_numberS fX1_numberS
  rw [e_d]
theorem e_nB (z : SR) : fX5_numberB z = fX1_numberB (r_word z) := by
  have h1 : ((1 : Int32) <<< ((1 : Int32) &&& 31)) - 1 = 1 := by decide
  have h6 : ((1 : Int32) <<< ((6 : Int32) &&& 31)) - 1 = 63 := by decide
  have h4 : ((1 : Int32) <<< ((4 : Int32) &&& 31)) - 1 = 15 := by decide
  unfold fX5_numberB fX1_numberB fX5_bits
  rw [h1, h6, h4]
theorem e_nJ (z : SR) : fX5_numberJ z = fX1_numberJ (r_word z) := by
  have h1 : ((1 : Int32) <<< ((1 : Int32) &&& 31)) - 1 = 1 := by decide
  have h8 : ((1 : Int32) <<< ((8 : Int32) &&& 31)) - 1 = 255 := by decide
  have h4 : ((1 : Int32) <<< ((10 : Int32) &&& 31)) - 1 = 1023 := by decide
  unfold fX5_numberJ fX1_numberJ fX5_bits
  rw [h1, h8, h4]
/-- longs -/
theorem l_toInt (x : Int64) : x.toInt = if x.toBitVec.toNat < 9223372036854775808 then (x.toBitVec.toNat : Int) else (x.toBitVec.toNat : Int) - 18446744073709551616 := by
  show x.toBitVec.toInt = _
  rw [BitVec.toInt_eq_toNat_cond]
  have h : x.toBitVec.toNat < 18446744073709551616 := x.toBitVec.isLt
  split <;> split <;> omega
theorem l_mask (a : Int32) : (a.toInt64 &&& (4294967295 : Int64)).toInt = (un a : Int) := by
  have h1 : (a.toInt64 &&& (4294967295 : Int64)).toBitVec.toNat = a.toInt64.toBitVec.toNat % 4294967296 := by
    show (a.toInt64.toBitVec &&& (4294967295 : Int64).toBitVec).toNat = _
    rw [BitVec.toNat_and]
    have h : (4294967295 : Int64).toBitVec.toNat = 2 ^ 32 - 1 := by decide
    rw [h, Nat.and_two_pow_sub_one_eq_mod]
  have h2 : a.toInt64.toInt = a.toInt := Int32.toInt_toInt64 a
  rw [l_toInt] at h2
  rw [un_toInt] at h2
  have h3 : a.toInt64.toBitVec.toNat < 18446744073709551616 := a.toInt64.toBitVec.isLt
  have h4 := un_lt a
  rw [l_toInt, h1]
  split at h2 <;> split at h2 <;> split <;> omega
theorem e_below (a b : Int32) : fX0_isBelow a b = decide (un a < un b) := by
  unfold fX0_isBelow
  simp only [lg_cmp_ge, Int64.le_iff_toInt_le, l_mask]
  split <;> symm
  · exact decide_eq_false (by omega)
  · exact decide_eq_true (by omega)
theorem e_below5 (a b : Int32) : fX5_isBelow a b = decide (un a < un b) := by
  unfold fX5_isBelow
  have h : ((b + (-2147483648 : Int32)) ≤ (a + (-2147483648 : Int32))) ↔ un b ≤ un a := by
    rw [Int32.le_iff_toInt_le, Int32.toInt_add, Int32.toInt_add]
    have e3 : (-2147483648 : Int32).toInt = -2147483648 := by decide
    rw [e3, un_toInt a, un_toInt b]
    have h1 := un_lt a
    have h2 := un_lt b
    simp only [Int.bmod_def]
    repeat' split
    all_goals omega
  simp only [h]
  split <;> symm
  · exact decide_eq_false (by omega)
  · exact decide_eq_true (by omega)
theorem e_isBelow (a b : Int32) : fX5_isBelow a b = fX0_isBelow a b := by rw [e_below, e_below5]
/-! products and quotients -/
theorem mulw (a b A B : Nat) (ha : a = A / 65536) (hA : A < 4294967296) (hb : b = B / 65536) (hB : B < 4294967296) : ∃ P Q R S : Nat, a * b = P ∧ a * (B % 65536) = Q ∧ (A % 65536) * b = R ∧ (A % 65536) * (B % 65536) = S ∧ A * B = P * 4294967296 + Q * 65536 + R * 65536 + S ∧ P ≤ 4294836225 ∧ Q ≤ 4294836225 ∧ R ≤ 4294836225 ∧ S ≤ 4294836225 := by
  refine ⟨_, _, _, _, rfl, rfl, rfl, rfl, ?_, ?_, ?_, ?_, ?_⟩
  · have e1 : A = a * 65536 + A % 65536 := by omega
    have e2 : B = b * 65536 + B % 65536 := by omega
    conv => lhs; rw [e1, e2]
    simp only [Nat.add_mul, Nat.mul_add]
    have h1 : a * 65536 * (b * 65536) = a * b * 4294967296 := by
      rw [Nat.mul_comm b 65536, ← Nat.mul_assoc, Nat.mul_assoc a 65536 65536, Nat.mul_right_comm]
    have h2 : a * 65536 * (B % 65536) = a * (B % 65536) * 65536 := Nat.mul_right_comm _ _ _
    have h3 : A % 65536 * (b * 65536) = A % 65536 * b * 65536 := (Nat.mul_assoc _ _ _).symm
    rw [h1, h2, h3]
    omega
  · exact Nat.le_trans (Nat.mul_le_mul (show a ≤ 65535 by omega) (show b ≤ 65535 by omega)) (by decide)
  · exact Nat.le_trans (Nat.mul_le_mul (show a ≤ 65535 by omega) (show B % 65536 ≤ 65535 by omega)) (by decide)
  · exact Nat.le_trans (Nat.mul_le_mul (show A % 65536 ≤ 65535 by omega) (show b ≤ 65535 by omega)) (by decide)
  · exact Nat.le_trans (Nat.mul_le_mul (show A % 65536 ≤ 65535 by omega) (show B % 65536 ≤ 65535 by omega)) (by decide)
theorem prod_lt (a b : Int32) : un a * un b ≤ 18446744065119617025 :=
  Nat.le_trans (Nat.mul_le_mul (show un a ≤ 4294967295 from Nat.le_of_lt_succ (un_lt a)) (show un b ≤ 4294967295 from Nat.le_of_lt_succ (un_lt b))) (by decide)
theorem un_upper (a b : Int32) : un (fX5_upper a b) = un a * un b / 4294967296 := by
  unfold fX5_upper
  have hl := prod_lt a b
  simp only [un_add, un_mul, un_ush16, un_and65535]
  obtain ⟨P, Q, R, S, hP, hQ, hR, hS, h, h1, h2, h3, h4⟩ := mulw (un a / 65536) (un b / 65536) (un a) (un b) rfl (un_lt a) rfl (un_lt b)
  rw [h] at hl ⊢
  rw [hP, hQ, hR, hS]
  omega
theorem ll_mul {x y : Int64} {v : Int} (h : x.toInt * y.toInt = v) (h1 : -9223372036854775808 ≤ v) (h2 : v < 9223372036854775808) : (x * y).toInt = v := by
  rw [Int64.toInt_mul, h, Int.bmod_def]
  split <;> omega
theorem lshr32 (x : Int64) : (lshrf x 32).toInt = x.toInt / 4294967296 := by
  unfold lshrf
  show (x.toBitVec.sshiftRight' _).toInt = _
  have h : ((((32 : Int32).toInt64 &&& 63).toBitVec).smod 64#64).toNat = 32 := by decide
  show (x.toBitVec.sshiftRight ((((32 : Int32).toInt64 &&& 63).toBitVec).smod 64#64).toNat).toInt = _
  rw [h, BitVec.toInt_sshiftRight, Int.shiftRight_eq_div_pow]
  rfl
theorem lush32 (x : Int64) : (lushf x 32).toBitVec.toNat = x.toBitVec.toNat / 4294967296 := by
  unfold lushf
  show (x.toBitVec >>> (((32 : Int32).toInt64.toUInt64 &&& Int64.toUInt64 63).toBitVec % 64#64)).toNat = _
  have h : ((((32 : Int32).toInt64.toUInt64 &&& Int64.toUInt64 63).toBitVec % 64#64)).toNat = 32 := by decide
  rw [BitVec.ushiftRight_eq', BitVec.toNat_ushiftRight, h, Nat.shiftRight_eq_div_pow]
theorem un_l2i (x : Int64) : (un x.toInt32 : Int) = x.toInt % 4294967296 := by
  rw [un_of (Int64.toInt_toInt32 x)]
  have e : (2 : Nat) ^ 32 = 4294967296 := rfl
  rw [e, Int.bmod_def]
  split <;> omega
theorem un_l2iN (x : Int64) : un x.toInt32 = x.toBitVec.toNat % 4294967296 := by
  have h := un_l2i x
  have h2 := l_toInt x
  have h3 : x.toBitVec.toNat < 18446744073709551616 := x.toBitVec.isLt
  split at h2 <;> omega
theorem ge0 (a : Int32) : (0 ≤ a) ↔ un a < 2147483648 := by
  rw [Int32.le_iff_toInt_le]
  have e : (0 : Int32).toInt = 0 := by decide
  rw [e, un_toInt]
  have := un_lt a
  split <;> omega
theorem subm {x d y : Nat} (hx : x < 4294967296) (hd : d < 4294967296) (h : (y : Int) = ((d : Int) - (x : Int)) % 4294967296) : y = (4294967296 - x + d) % 4294967296 := by omega
theorem e_mulh (a b : Int32) : (lshrf (a.toInt64 * b.toInt64) 32).toInt32 = fX5_upper a b - (if 0 ≤ a then 0 else b) - (if 0 ≤ b then 0 else a) := by
  apply un_inj
  have hu := un_upper a b
  have ha := un_toInt a
  have hb := un_toInt b
  have h1 := un_lt a
  have h2 := un_lt b
  have hl := prod_lt a b
  obtain ⟨M, hM⟩ : ∃ M, un a * un b = M := ⟨_, rfl⟩
  have hMi : (un a : Int) * (un b : Int) = (M : Int) := by rw [← hM]; exact (Int.natCast_mul _ _).symm
  rw [hM] at hu hl
  obtain ⟨D, hD⟩ : ∃ D, M / 4294967296 = D := ⟨_, rfl⟩
  rw [hD] at hu
  have hDl : D < 4294967296 := by omega
  have hDi : ∀ k : Int, ((M : Int) + 4294967296 * k) / 4294967296 = (D : Int) + k := by intro k; omega
  have bnd : -4611686018427387904 ≤ a.toInt * b.toInt ∧ a.toInt * b.toInt ≤ 4611686018427387904 := by
    have ga : a.toInt.natAbs ≤ 2147483648 := by split at ha <;> omega
    have gb : b.toInt.natAbs ≤ 2147483648 := by split at hb <;> omega
    have gm : (a.toInt * b.toInt).natAbs ≤ 2147483648 * 2147483648 := by
      rw [Int.natAbs_mul]
      exact Nat.mul_le_mul ga gb
    generalize a.toInt * b.toInt = V at gm ⊢
    omega
  have key : ∀ k : Int, a.toInt * b.toInt = (M : Int) + 4294967296 * k → (un (lshrf (a.toInt64 * b.toInt64) 32).toInt32 : Int) = ((D : Int) + k) % 4294967296 := by
    intro k hV
    rw [un_l2i, lshr32, ll_mul (v := a.toInt * b.toInt) (by rw [Int32.toInt_toInt64, Int32.toInt_toInt64]) (by omega) (by omega), hV, hDi]
  by_cases ca : un a < 2147483648 <;> by_cases cb : un b < 2147483648
  · rw [if_pos ca] at ha; rw [if_pos cb] at hb
    rw [if_pos ((ge0 a).mpr ca), if_pos ((ge0 b).mpr cb), Int32.sub_zero, Int32.sub_zero, hu]
    have hk := key 0 (by rw [ha, hb, hMi]; omega)
    omega
  · rw [if_pos ca] at ha; rw [if_neg cb] at hb
    rw [if_pos ((ge0 a).mpr ca), if_neg (mt (ge0 b).mp cb), Int32.sub_zero, un_sub, hu]
    have hk := key (-(un a : Int)) (by rw [ha, hb, Int.mul_sub, hMi]; omega)
    exact subm h1 hDl hk
  · rw [if_neg ca] at ha; rw [if_pos cb] at hb
    rw [if_neg (mt (ge0 a).mp ca), if_pos ((ge0 b).mpr cb), Int32.sub_zero, un_sub, hu]
    have hk := key (-(un b : Int)) (by rw [ha, hb, Int.sub_mul, hMi]; omega)
    exact subm h2 hDl hk
  · rw [if_neg ca] at ha; rw [if_neg cb] at hb
    rw [if_neg (mt (ge0 a).mp ca), if_neg (mt (ge0 b).mp cb), un_sub, un_sub, hu]
    have hk := key (-(un b : Int) - (un a : Int) + 4294967296) (by rw [ha, hb, Int.mul_sub, Int.sub_mul, Int.sub_mul, hMi]; omega)
    refine subm h1 (Nat.mod_lt _ (by decide)) ?_
    rw [hk]
    omega
theorem e_mulhsu (a b : Int32) : (lshrf (a.toInt64 * (b.toInt64 &&& 4294967295)) 32).toInt32 = fX5_upper a b - (if 0 ≤ a then 0 else b) := by
  apply un_inj
  have hu := un_upper a b
  have ha := un_toInt a
  have h1 := un_lt a
  have h2 := un_lt b
  have hl := prod_lt a b
  obtain ⟨M, hM⟩ : ∃ M, un a * un b = M := ⟨_, rfl⟩
  have hMi : (un a : Int) * (un b : Int) = (M : Int) := by rw [← hM]; exact (Int.natCast_mul _ _).symm
  rw [hM] at hu hl
  obtain ⟨D, hD⟩ : ∃ D, M / 4294967296 = D := ⟨_, rfl⟩
  rw [hD] at hu
  have hDl : D < 4294967296 := by omega
  have hDi : ∀ k : Int, ((M : Int) + 4294967296 * k) / 4294967296 = (D : Int) + k := by intro k; omega
  have bnd : -9223372034707292160 ≤ a.toInt * (un b : Int) ∧ a.toInt * (un b : Int) ≤ 9223372034707292160 := by
    have ga : a.toInt.natAbs ≤ 2147483648 := by split at ha <;> omega
    have gb : (un b : Int).natAbs ≤ 4294967295 := by omega
    have gm : (a.toInt * (un b : Int)).natAbs ≤ 2147483648 * 4294967295 := by
      rw [Int.natAbs_mul]
      exact Nat.mul_le_mul ga gb
    generalize a.toInt * (un b : Int) = V at gm ⊢
    omega
  have key : ∀ k : Int, a.toInt * (un b : Int) = (M : Int) + 4294967296 * k → (un (lshrf (a.toInt64 * (b.toInt64 &&& 4294967295)) 32).toInt32 : Int) = ((D : Int) + k) % 4294967296 := by
    intro k hV
    rw [un_l2i, lshr32, ll_mul (v := a.toInt * (un b : Int)) (by rw [Int32.toInt_toInt64, l_mask]) (by omega) (by omega), hV, hDi]
  by_cases ca : un a < 2147483648
  · rw [if_pos ca] at ha
    rw [if_pos ((ge0 a).mpr ca), Int32.sub_zero, hu]
    have hk := key 0 (by rw [ha, hMi]; omega)
    omega
  · rw [if_neg ca] at ha
    rw [if_neg (mt (ge0 a).mp ca), un_sub, hu]
    have hk := key (-(un b : Int)) (by rw [ha, Int.sub_mul, hMi]; omega)
    exact subm h2 hDl hk
theorem e_mulhu (a b : Int32) : (lushf ((a.toInt64 &&& 4294967295) * (b.toInt64 &&& 4294967295)) 32).toInt32 = fX5_upper a b := by
  apply un_inj
  rw [un_upper, un_l2iN, lush32]
  have hn : ((a.toInt64 &&& 4294967295) * (b.toInt64 &&& 4294967295)).toBitVec.toNat = (a.toInt64 &&& 4294967295).toBitVec.toNat * (b.toInt64 &&& 4294967295).toBitVec.toNat % 18446744073709551616 := by
    show ((a.toInt64 &&& 4294967295).toBitVec * (b.toInt64 &&& 4294967295).toBitVec).toNat = _
    rw [BitVec.toNat_mul]
  have m : ∀ c : Int32, (c.toInt64 &&& (4294967295 : Int64)).toBitVec.toNat = un c := by
    intro c
    have h := l_mask c
    rw [l_toInt] at h
    have h3 : (c.toInt64 &&& (4294967295 : Int64)).toBitVec.toNat < 18446744073709551616 := (c.toInt64 &&& (4294967295 : Int64)).toBitVec.isLt
    have := un_lt c
    split at h <;> omega
  rw [hn, m, m]
  have hl := prod_lt a b
  obtain ⟨M, hM⟩ : ∃ M, un a * un b = M := ⟨_, rfl⟩
  rw [hM] at hl ⊢
  omega
/-- division -/
theorem i32_ext {a b : Int32} (h : a.toInt = b.toInt) : a = b := Int32.toInt_inj.mp h
theorem bm (v : Int) : (v.bmod (2 ^ 64)).bmod (2 ^ 32) = v.bmod (2 ^ 32) := by
  have e1 : (2 : Nat) ^ 64 = 18446744073709551616 := rfl
  have e2 : (2 : Nat) ^ 32 = 4294967296 := rfl
  rw [e1, e2]
  simp only [Int.bmod_def]
  repeat' split
  all_goals omega
theorem e_div64 (a b : Int32) : (a.toInt64 / b.toInt64).toInt32 = a / b := by
  apply i32_ext
  rw [Int64.toInt_toInt32, Int64.toInt_div, Int32.toInt_div, Int32.toInt_toInt64, Int32.toInt_toInt64, bm]
theorem lz (b : Int32) : (lg_cmp b.toInt64 0 = 0) ↔ b = 0 := by
  rw [lg_cmp_eq, ← Int64.toInt_inj, Int32.toInt_toInt64, ← Int32.toInt_inj]
  exact Iff.rfl
theorem lzu (b : Int32) : (lg_cmp (b.toInt64 &&& 4294967295) 0 = 0) ↔ b = 0 := by
  rw [lg_cmp_eq, ← Int64.toInt_inj, l_mask]
  have e : (0 : Int64).toInt = 0 := by decide
  rw [e]
  constructor
  · intro h
    apply un_inj
    have z0 : un (0 : Int32) = 0 := by decide
    omega
  · intro h
    rw [h]
    decide
theorem div_m1 (a : Int32) : a / -1 = -a := by
  apply i32_ext
  have e : (-1 : Int32).toInt = -1 := by decide
  rw [Int32.toInt_div, e, Int32.toInt_neg, Int.tdiv_neg, Int.tdiv_one]
theorem e_quot (a b : Int32) : fX0_quotient a.toInt64 b.toInt64 = if b = 0 then -1 else if b = -1 then -a else a / b := by
  unfold fX0_quotient
  simp only [lz, e_div64]
  split
  · rfl
  · split
    · rename_i h; rw [h, div_m1]
    · rfl
theorem e_rest (a b : Int32) : fX0_rest a.toInt64 b.toInt64 = if b = 0 then a else if b = -1 then 0 else a - a / b * b := by
  unfold fX0_rest
  simp only [lz, Int64.toInt32_sub, Int64.toInt32_mul, e_div64, Int32.toInt32_toInt64]
  split
  · rfl
  · split
    · rename_i h
      rw [h, div_m1, Int32.neg_mul, Int32.mul_neg, Int32.mul_one, Int32.neg_neg, Int32.sub_self]
    · rfl
/-- the reference's long division -/
theorem un_bit (r p0 : Int32) {j : Nat} (hj : j < 32) : un ((r <<< ((1 : Int32) &&& 31)) ||| ((ush p0 (nI j)) &&& (1 : Int32))) = (2 * un r) % 4294967296 + un p0 / 2 ^ j % 2 := by
  rw [un_or, un_shl1, un_and1, un_ushI p0 hj, or_even (by omega) (by omega)]
theorem un_q1 (q : Int32) : un ((q <<< ((1 : Int32) &&& 31)) ||| (1 : Int32)) = (2 * un q) % 4294967296 + 1 := by
  have z1 : un (1 : Int32) = 1 := by decide
  rw [un_or, un_shl1, z1, or_even (by omega) (by omega)]
theorem bi0 (b : Bool) : (bi b = 0) ↔ b = false := by
  cases b
  · exact ⟨fun _ => rfl, fun _ => rfl⟩
  · exact ⟨fun h => absurd h (by decide), fun h => absurd h (by decide)⟩
theorem dm {N m B bit : Nat} (hN : N = 2 * m + bit) (hb : bit < 2) (hB : 0 < B) : (2 * (m % B) + bit < B → N / B = 2 * (m / B) ∧ N % B = 2 * (m % B) + bit) ∧ (B ≤ 2 * (m % B) + bit → N / B = 2 * (m / B) + 1 ∧ N % B = 2 * (m % B) + bit - B) := by
  have h1 := Nat.div_add_mod m B
  have h2 := Nat.mod_lt m hB
  obtain ⟨q, hq⟩ : ∃ q, m / B = q := ⟨_, rfl⟩
  obtain ⟨r, hr⟩ : ∃ r, m % B = r := ⟨_, rfl⟩
  rw [hq, hr] at h1
  rw [hr] at h2
  rw [hq, hr]
  have ex : B * (2 * q) = 2 * (B * q) := Nat.mul_left_comm _ _ _
  have ey : B * (2 * q + 1) = 2 * (B * q) + B := by rw [Nat.mul_add, ex, Nat.mul_one]
  constructor
  · intro h
    have e : N = (2 * r + bit) + B * (2 * q) := by rw [hN, ← h1, ex]; omega
    constructor
    · rw [e, Nat.add_mul_div_left _ _ hB, Nat.div_eq_of_lt h, Nat.zero_add]
    · rw [e, Nat.add_mul_mod_self_left, Nat.mod_eq_of_lt h]
  · intro h
    have e : N = (2 * r + bit - B) + B * (2 * q + 1) := by rw [hN, ← h1, ey]; omega
    have h3 : 2 * r + bit - B < B := by omega
    constructor
    · rw [e, Nat.add_mul_div_left _ _ hB, Nat.div_eq_of_lt h3, Nat.zero_add]
    · rw [e, Nat.add_mul_mod_self_left, Nat.mod_eq_of_lt h3]
theorem qL_is (a b : Int32) (hb : 0 < un b) : ∀ (j : Nat), j ≤ 32 → ∀ q r : Int32, un q = un a / 2 ^ j / un b → un r = un a / 2 ^ j % un b → un (qL a b j q r) = un a / un b := by
  intro j
  induction j with
  | zero =>
    intro _ q r hq _
    unfold qL
    rw [hq]
    simp
  | succ j ih =>
    intro hj q r hq hr
    have hA := un_lt a
    have hB := un_lt b
    have hm : un a / 2 ^ (j + 1) = un a / 2 ^ j / 2 := by rw [Nat.pow_succ, ← Nat.div_div_eq_div_mul]
    obtain ⟨N, hN⟩ : ∃ N, un a / 2 ^ j = N := ⟨_, rfl⟩
    rw [hm, hN] at hq hr
    have hN2 : N = 2 * (N / 2) + N % 2 := by omega
    have hd := dm hN2 (by omega) hb
    have hrl : un r < un b := by rw [hr]; exact Nat.mod_lt _ hb
    have hNl : N ≤ un a := by rw [← hN]; exact Nat.div_le_self _ _
    have hql : un q ≤ N / 2 := by rw [hq]; exact Nat.div_le_self _ _
    have hbit := un_bit r a (j := j) (by omega)
    rw [hN] at hbit
    rw [← hr, ← hq] at hd
    have ih' := ih (by omega)
    rw [hN] at ih'
    unfold qL
    split
    · rename_i c1
      have c1 := (ge0 r).mp c1
      have e1 : (2 * un r) % 4294967296 = 2 * un r := by omega
      rw [e1] at hbit
      split
      · rename_i c2
        rw [bi0, e_below5, decide_eq_false_iff_not, hbit] at c2
        have g := hd.2 (by omega)
        refine ih' _ _ ?_ ?_
        · rw [un_q1, g.1]; omega
        · rw [un_sub, hbit, g.2]; omega
      · rename_i c2
        rw [bi0, e_below5, decide_eq_false_iff_not, hbit] at c2
        have g := hd.1 (by omega)
        refine ih' _ _ ?_ ?_
        · rw [un_shl1, g.1]; omega
        · rw [hbit, g.2]
    · rename_i c1
      have c1 : ¬ un r < 2147483648 := fun h => c1 ((ge0 r).mpr h)
      have g := hd.2 (by omega)
      refine ih' _ _ ?_ ?_
      · rw [un_q1, g.1]; omega
      · rw [un_sub, hbit, g.2]; omega
theorem e_quotient (a b : Int32) (hb : ¬ b = 0) : ((a.toInt64 &&& 4294967295) / (b.toInt64 &&& 4294967295)).toInt32 = fX5_quotient a b := by
  have z0 : un (0 : Int32) = 0 := by decide
  have hb0 : 0 < un b := Nat.pos_of_ne_zero (fun h => hb (un_inj (by rw [h, z0])))
  have hA := un_lt a
  apply un_inj
  unfold fX5_quotient
  have p : (2 : Nat) ^ 32 = 4294967296 := rfl
  rw [qL_is a b hb0 32 (Nat.le_refl _) 0 0 (by rw [z0, p, Nat.div_eq_of_lt hA]; simp) (by rw [z0, p, Nat.div_eq_of_lt hA]; simp)]
  have h := un_l2i ((a.toInt64 &&& 4294967295) / (b.toInt64 &&& 4294967295))
  rw [Int64.toInt_div, l_mask, l_mask, ← Int.ofNat_tdiv] at h
  have hq : un a / un b ≤ un a := Nat.div_le_self _ _
  obtain ⟨q, hq2⟩ : ∃ q, un a / un b = q := ⟨_, rfl⟩
  have e1 : (2 : Nat) ^ 64 = 18446744073709551616 := rfl
  rw [hq2] at h hq ⊢
  rw [e1, Int.bmod_def] at h
  split at h <;> omega
theorem l_back (a : Int32) : (a.toInt64 &&& 4294967295).toInt32 = a := by
  apply un_inj
  have h := un_l2i (a.toInt64 &&& 4294967295)
  rw [l_mask] at h
  have := un_lt a
  omega
theorem e_quotU (a b : Int32) : fX0_quotient (a.toInt64 &&& 4294967295) (b.toInt64 &&& 4294967295) = if b = 0 then -1 else fX5_quotient a b := by
  unfold fX0_quotient
  simp only [lzu]
  split
  · rfl
  · rename_i h; rw [e_quotient a b h]
theorem e_restU (a b : Int32) : fX0_rest (a.toInt64 &&& 4294967295) (b.toInt64 &&& 4294967295) = if b = 0 then a else a - fX5_quotient a b * b := by
  unfold fX0_rest
  simp only [lzu]
  split
  · exact l_back a
  · rename_i h; rw [Int64.toInt32_sub, Int64.toInt32_mul, e_quotient a b h, l_back, l_back]
