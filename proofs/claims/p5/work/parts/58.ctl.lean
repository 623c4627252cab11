/-! bytes of the memory -/
theorem sz_cases (k : Int32) (h : k = 0 ∨ k = 1 ∨ k = 2) : (1 : Int32) <<< (k &&& 31) = 1 ∨ (1 : Int32) <<< (k &&& 31) = 2 ∨ (1 : Int32) <<< (k &&& 31) = 4 := by
  rcases h with rfl | rfl | rfl
  · exact .inl (by decide)
  · exact .inr (.inl (by decide))
  · exact .inr (.inr (by decide))
theorem c_load (z : SR) (n : Int32) (ht : r_trapped z = false) (h0 : r_reg z 0 = 0) (hn : r_next z = r_pc z + 4) : fX4_load (r_word z) (s_steps (aS z) n) = res z (fX5_load z) n := by
  have l := fun v => c_lay z z n v ht hn
  have u := c_none z n ht
  have t := fun c v => c_trap z n c v ht
  unfold fX4_load fX5_load
  rw [c_a z n h0, e_f, e_nI]
  simp only [peta, l, u, t, bi1, isBy_eq]
  generalize fX5_a z + fX1_numberI (r_word z) = p
  have go : ∀ f : Int32, f = 0 ∨ f = 1 ∨ f = 2 ∨ f = 4 ∨ f = 5 → fX1_f (r_word z) = f → fX5_may p ((1 : Int32) <<< ((f &&& 3) &&& 31)) 4 5 z = if p &&& (((1 : Int32) <<< ((f &&& 3) &&& 31)) - 1) = 0 then (if fX3_holds p = true then (true, z) else (false, fX5_trap 5 p z)) else (false, fX5_trap 4 p z) := by
    intro f hf _
    refine may_eq z p _ 4 5 ht (sz_cases _ ?_)
    rcases hf with rfl | rfl | rfl | rfl | rfl
    · exact .inl (by decide)
    · exact .inr (.inl (by decide))
    · exact .inr (.inr (by decide))
    · exact .inl (by decide)
    · exact .inr (.inl (by decide))
  have rd : fX3_holds p = true → fX3_readWord p (s_steps (aS z) n) = r_mem z (p / 4).toNatClampNeg := by
    intro h
    rw [holds_un, decide_eq_true_iff] at h
    exact c_readWord p _ h
  have sh : fX3_shift p = 8 * (p &&& 3) := Int32.mul_comm _ _
  rcases f_cases (r_word z) with k | k | k | k | k | k | k | k
  · rw [k, go 0 (by simp) k]
    by_cases h1 : p &&& (((1 : Int32) <<< (((0 : Int32) &&& 3) &&& 31)) - 1) = 0
    · by_cases h2 : fX3_holds p = true
      · simp [h1, h2, fX3_readPart, rd h2, sh, e_sx8]
      · simp [h1, h2]
    · first
      | exact absurd (by simp) h1
      | simp [h1]; done
  · rw [k, go 1 (by simp) k]
    by_cases h1 : p &&& (((1 : Int32) <<< (((1 : Int32) &&& 3) &&& 31)) - 1) = 0
    · by_cases h2 : fX3_holds p = true
      · simp [h1, h2, fX3_readPart, rd h2, sh, e_sx16]
      · simp [h1, h2]
    · first
      | exact absurd (by simp) h1
      | simp [h1]; done
  · rw [k, go 2 (by simp) k]
    by_cases h1 : p &&& (((1 : Int32) <<< (((2 : Int32) &&& 3) &&& 31)) - 1) = 0
    · by_cases h2 : fX3_holds p = true
      · simp [h1, h2, fX3_readPart, rd h2, sh]
      · simp [h1, h2]
    · first
      | exact absurd (by simp) h1
      | simp [h1]; done
  · rw [k]; simp
  · rw [k, go 4 (by simp) k]
    by_cases h1 : p &&& (((1 : Int32) <<< (((4 : Int32) &&& 3) &&& 31)) - 1) = 0
    · by_cases h2 : fX3_holds p = true
      · simp [h1, h2, fX3_readPart, rd h2, sh]
      · simp [h1, h2]
    · first
      | exact absurd (by simp) h1
      | simp [h1]; done
  · rw [k, go 5 (by simp) k]
    by_cases h1 : p &&& (((1 : Int32) <<< (((5 : Int32) &&& 3) &&& 31)) - 1) = 0
    · by_cases h2 : fX3_holds p = true
      · simp [h1, h2, fX3_readPart, rd h2, sh]
      · simp [h1, h2]
    · first
      | exact absurd (by simp) h1
      | simp [h1]; done
  · rw [k]; simp
  · rw [k]; simp
theorem c_store (z : SR) (n : Int32) (ht : r_trapped z = false) (h0 : r_reg z 0 = 0) (hn : r_next z = r_pc z + 4) : fX4_store (r_word z) (s_steps (aS z) n) = res z (fX5_store z) n := by
  have g := fun m => c_goOn z (t_mem z m) n ht hn
  have u := c_none z n ht
  have t := fun c v => c_trap z n c v ht
  unfold fX4_store fX5_store
  rw [c_a z n h0, c_b z n h0, e_f, e_nS]
  simp only [peta, u, t, bi1, isBy_eq]
  generalize fX5_a z + fX1_numberS (r_word z) = p
  have go : ∀ f : Int32, f = 0 ∨ f = 1 ∨ f = 2 → fX5_may p ((1 : Int32) <<< (f &&& 31)) 6 7 z = if p &&& (((1 : Int32) <<< (f &&& 31)) - 1) = 0 then (if fX3_holds p = true then (true, z) else (false, fX5_trap 7 p z)) else (false, fX5_trap 6 p z) := by
    intro f hf
    exact may_eq z p _ 6 7 ht (sz_cases _ hf)
  have wr : fX3_holds p = true → ∀ f v, fX3_writePart p f v (s_steps (aS z) n) = s_steps (aS (t_mem z (upd (r_mem z) (p / 4).toNatClampNeg ((((r_mem z) (p / 4).toNatClampNeg) &&& (((fX3_partMask f) <<< ((8 * (p &&& 3)) &&& 31)) ^^^ (-1 : Int32))) ||| ((v <<< ((8 * (p &&& 3)) &&& 31)) &&& ((fX3_partMask f) <<< ((8 * (p &&& 3)) &&& 31))))))) n := by
    intro h f v
    have sh : fX3_shift p = 8 * (p &&& 3) := Int32.mul_comm _ _
    rw [holds_un, decide_eq_true_iff] at h
    unfold fX3_writePart
    rw [c_writeWord p _ _ h, c_readWord p _ h, sh]
    rfl
  rcases f_cases (r_word z) with k | k | k | k | k | k | k | k
  · rw [k, go 0 (by simp)]
    by_cases h1 : p &&& (((1 : Int32) <<< ((0 : Int32) &&& 31)) - 1) = 0
    · by_cases h2 : fX3_holds p = true
      · simp only [h1, h2, wr h2, g]
        simp [fX3_partMask]
      · simp [h1, h2]
    · first
      | exact absurd (by simp) h1
      | simp [h1]; done
  · rw [k, go 1 (by simp)]
    by_cases h1 : p &&& (((1 : Int32) <<< ((1 : Int32) &&& 31)) - 1) = 0
    · by_cases h2 : fX3_holds p = true
      · simp only [h1, h2, wr h2, g]
        simp [fX3_partMask]
      · simp [h1, h2]
    · first
      | exact absurd (by simp) h1
      | simp [h1]; done
  · rw [k, go 2 (by simp)]
    by_cases h1 : p &&& (((1 : Int32) <<< ((2 : Int32) &&& 31)) - 1) = 0
    · by_cases h2 : fX3_holds p = true
      · have e3 : ((1 : Int32) <<< ((2 : Int32) &&& 31)) - 1 = 3 := by decide
        have h3 : p &&& 3 = 0 := by rw [e3] at h1; exact h1
        simp only [h1, h2, wr h2, g, h3]
        simp [fX3_partMask]
      · simp [h1, h2]
    · first
      | exact absurd (by simp) h1
      | simp [h1]; done
  · rw [k]; simp
  · rw [k]; simp
  · rw [k]; simp
  · rw [k]; simp
  · rw [k]; simp
/-! controls -/
theorem and_pow (x i : Nat) : x &&& 2 ^ i = x / 2 ^ i % 2 * 2 ^ i := by
  apply Nat.eq_of_testBit_eq
  intro j
  rw [Nat.testBit_and, Nat.testBit_two_pow, Nat.testBit_mul_two_pow]
  by_cases c : i = j
  · subst c
    simp [Nat.testBit_eq_decide_div_mod_eq]
  · have e : (x / 2 ^ i % 2).testBit (j - i) = false ∨ ¬ i ≤ j := by
      by_cases g : i ≤ j
      · left
        have : x / 2 ^ i % 2 < 2 ^ (j - i) := Nat.lt_of_lt_of_le (show _ < 2 ^ 1 by omega) (Nat.pow_le_pow_right (by decide) (by omega))
        exact Nat.testBit_lt_two_pow this
      · exact .inr g
    rcases e with e | e
    · simp [c, e]
    · simp [c, e]
theorem un_and8 (x : Int32) : un (x &&& 8) = un x / 8 % 2 * 8 := by
  rw [un_and]
  have h : un (8 : Int32) = 2 ^ 3 := by decide
  rw [h, and_pow]
theorem un_and128 (x : Int32) : un (x &&& 128) = un x / 128 % 2 * 128 := by
  rw [un_and]
  have h : un (128 : Int32) = 2 ^ 7 := by decide
  rw [h, and_pow]
theorem st_up (s : Int32) : (s <<< ((4 : Int32) &&& 31)) &&& 128 = if s &&& 8 = 0 then 0 else 128 := by
  have h1 := un_of (shl_toInt s ((4 : Int32) &&& 31) 4 (by decide) (by decide))
  have h2 := un_toInt s
  have h3 := un_lt s
  have h4 := un_and8 s
  have h5 := un_and128 (s <<< ((4 : Int32) &&& 31))
  have z0 : un (0 : Int32) = 0 := by decide
  have z1 : un (128 : Int32) = 128 := by decide
  have h6 : (un (s <<< ((4 : Int32) &&& 31)) : Int) = ((un s : Int) * 16) % 4294967296 := by
    rw [h1]
    rw [Int.bmod_def]
    split at h2 <;> split <;> omega
  split
  · rename_i c
    have c := congrArg un c
    apply un_inj
    omega
  · rename_i c
    have c : ¬ un (s &&& 8) = 0 := fun h => c (un_inj (by rw [h, z0]))
    apply un_inj
    omega
theorem st_down (s : Int32) : ((s >>> ((4 : Int32) &&& 31)) &&& 8) ||| 128 = if s &&& 128 = 0 then 128 else 136 := by
  have h1 := un_of (shr_toInt s ((4 : Int32) &&& 31) 4 (by decide) (by decide))
  have h2 := un_toInt s
  have h3 := un_lt s
  have h4 := un_and128 s
  have h5 := un_and8 (s >>> ((4 : Int32) &&& 31))
  have z0 : un (0 : Int32) = 0 := by decide
  have z1 : un (8 : Int32) = 8 := by decide
  split
  · rename_i c
    have c := congrArg un c
    have e : (s >>> ((4 : Int32) &&& 31)) &&& 8 = 0 := by
      apply un_inj
      split at h2 <;> omega
    rw [e]; decide
  · rename_i c
    have c : ¬ un (s &&& 128) = 0 := fun h => c (un_inj (by rw [h, z0]))
    have e : (s >>> ((4 : Int32) &&& 31)) &&& 8 = 8 := by
      apply un_inj
      split at h2 <;> omega
    rw [e]; decide
theorem k_writable (c : Int32) : fX2_isWritable c = true ↔ (¬ fX5_controlOf c = -1 ∧ fX5_controlOf c < 7) := by
  unfold fX2_isWritable fX5_controlOf
  repeat' split
  all_goals (first | decide | simp_all)
theorem k_known (c : Int32) : fX2_isKnown c = true ↔ ¬ fX5_controlOf c = -1 := by
  unfold fX2_isKnown
  simp only [bi1]
  unfold fX2_isWritable fX5_controlOf
  repeat' split
  all_goals (first | decide | simp_all)
theorem k_read (c : Int32) (z : SR) (n : Int32) (h : ¬ fX5_controlOf c = -1) : fX2_read c (s_steps (aS z) n) = fX5_has (fX5_controlOf c) z := by
  unfold fX2_read fX5_has
  unfold fX5_controlOf at h ⊢
  repeat' split
  all_goals (first | rfl | contradiction | simp_all)
theorem k_write (c v : Int32) (z : SR) (n : Int32) (h : ¬ fX5_controlOf c = -1 ∧ fX5_controlOf c < 7) : fX2_write c v (s_steps (aS z) n) = s_steps (aS (fX5_become (fX5_controlOf c) v z)) n := by
  by_cases c0 : c = 768
  · subst c0; rfl
  by_cases c1 : c = 772
  · subst c1; rfl
  by_cases c2 : c = 773
  · subst c2; rfl
  by_cases c3 : c = 832
  · subst c3; rfl
  by_cases c4 : c = 833
  · subst c4; rfl
  by_cases c5 : c = 834
  · subst c5; rfl
  by_cases c6 : c = 835
  · subst c6; rfl
  exfalso
  revert h
  unfold fX5_controlOf
  rw [if_neg c0, if_neg c1, if_neg c2, if_neg c3, if_neg c4, if_neg c5, if_neg c6]
  split
  · decide
  · split <;> decide
theorem k_keep (k v : Int32) (z : SR) : r_word (fX5_become k v z) = r_word z ∧ r_trapped (fX5_become k v z) = r_trapped z ∧ r_next (fX5_become k v z) = r_next z ∧ r_pc (fX5_become k v z) = r_pc z := by
  unfold fX5_become
  repeat' split
  all_goals exact ⟨rfl, rfl, rfl, rfl⟩
/-! the whole instruction -/
theorem c_layK (z : SR) (n v k u : Int32) (ht : r_trapped z = false) (hn : r_next z = r_pc z + 4) : fX4_goOnWith (r_word z) v (s_steps (aS (fX5_become k u z)) n) = res z (fX5_lay v (fX5_become k u z)) n := by
  obtain ⟨e1, e2, e3, e4⟩ := k_keep k u z
  rw [← e1]
  exact c_lay z (fX5_become k u z) n v (by rw [e2, ht]) (by rw [e3, e4, hn])
theorem bfalse (b : Bool) : (b = false) ↔ ¬ b = true := by cases b <;> decide
theorem am0 : (0 : Int32) &&& 3 = 0 := by decide
theorem am1 : (1 : Int32) &&& 3 = 1 := by decide
theorem am2 : (2 : Int32) &&& 3 = 2 := by decide
theorem am3 : (3 : Int32) &&& 3 = 3 := by decide
theorem am4 : (4 : Int32) &&& 3 = 0 := by decide
theorem am5 : (5 : Int32) &&& 3 = 1 := by decide
theorem am6 : (6 : Int32) &&& 3 = 2 := by decide
theorem am7 : (7 : Int32) &&& 3 = 3 := by decide
theorem c_change (z : SR) (n : Int32) (hf : ¬ fX1_f (r_word z) = 0) (ht : r_trapped z = false) (h0 : r_reg z 0 = 0) (hn : r_next z = r_pc z + 4) : fX4_exchangeControl (r_word z) (s_steps (aS z) n) = res z (fX5_change z) n := by
  have l := fun v => c_lay z z n v ht hn
  have u := c_none z n ht
  have ha : (r_reg z) (fX1_a (r_word z)).toNatClampNeg = fX5_a z := by unfold fX5_a; rw [e_ra]
  unfold fX4_exchangeControl fX5_change
  rw [c_a z n h0, e_f, e_ra, e_cn, ha]
  simp only [peta, u, bi1, bfalse, k_writable, k_known]
  generalize fX5_a z = a
  generalize fX1_controlNumber (r_word z) = c
  by_cases hk : fX5_controlOf c = -1
  · simp only [hk]
    rcases f_cases (r_word z) with k | k | k | k | k | k | k | k <;> (first | exact absurd k hf | rw [k]) <;> simp only [am0, am1, am2, am3, am4, am5, am6, am7] <;> by_cases a0 : fX1_a (r_word z) = 0 <;> simp [a0]
  · rw [k_read c z n hk]
    by_cases hw : fX5_controlOf c < 7
    · have w := fun v => k_write c v z n ⟨hk, hw⟩
      have lk := fun v m => c_layK z n v (fX5_controlOf c) m ht hn
      simp only [w, l, lk, hk, hw]
      unfold fX0_exchanged
      rcases f_cases (r_word z) with k | k | k | k | k | k | k | k <;> (first | exact absurd k hf | rw [k]) <;> simp only [am0, am1, am2, am3, am4, am5, am6, am7] <;> by_cases a0 : fX1_a (r_word z) = 0 <;> simp [a0]
    · simp only [l, hk, hw]
      rcases f_cases (r_word z) with k | k | k | k | k | k | k | k <;> (first | exact absurd k hf | rw [k]) <;> simp only [am0, am1, am2, am3, am4, am5, am6, am7] <;> by_cases a0 : fX1_a (r_word z) = 0 <;> simp [a0]
theorem fw1 : fX1_f 115 = 0 := by decide
theorem fw2 : fX1_f 1048691 = 0 := by decide
theorem fw3 : fX1_f 807403635 = 0 := by decide
theorem change_0 (z : SR) (h : fX1_f (r_word z) = 0) : fX5_change z = fX5_none z := by
  unfold fX5_change
  rw [e_f, h]
  simp
theorem c_back (z : SR) (n : Int32) (ht : r_trapped z = false) : ((true, s_pc ((fX2_leaveTrap (s_steps (aS z) n)).2) ((fX2_leaveTrap (s_steps (aS z) n)).1)) : Bool × St) = res z (t_next (t_ctl z (upd (r_ctl z) (0 : Int32).toNatClampNeg (((((r_ctl z) (0 : Int32).toNatClampNeg) >>> ((4 : Int32) &&& 31)) &&& (8 : Int32)) ||| (128 : Int32)))) ((upd (r_ctl z) (0 : Int32).toNatClampNeg (((((r_ctl z) (0 : Int32).toNatClampNeg) >>> ((4 : Int32) &&& 31)) &&& (8 : Int32)) ||| (128 : Int32))) (4 : Int32).toNatClampNeg)) n := by
  rw [tn0, tn4, st_down]
  unfold res fX2_leaveTrap
  have e : g_status (s_steps (aS z) n) = r_ctl z 0 := rfl
  rw [e]
  have t : r_trapped (t_next (t_ctl z (upd (r_ctl z) 0 (if r_ctl z 0 &&& 128 = 0 then 128 else 136))) (upd (r_ctl z) 0 (if r_ctl z 0 &&& 128 = 0 then 128 else 136) 4)) = false := ht
  rw [t]
  split <;> rfl
theorem c_system (z : SR) (n : Int32) (ht : r_trapped z = false) (h0 : r_reg z 0 = 0) (hn : r_next z = r_pc z + 4) : (if fX1_f (r_word z) = 0 then fX4_callSystem (r_word z) (s_steps (aS z) n) else fX4_exchangeControl (r_word z) (s_steps (aS z) n)) = res z (fX5_system z) n := by
  have t := fun c v => c_trap z n c v ht
  have u := c_none z n ht
  have hp : g_pc (s_steps (aS z) n) = r_pc z := rfl
  unfold fX5_system
  by_cases w1 : r_word z = 115
  · have f0 : fX1_f (r_word z) = 0 := by rw [w1]; exact fw1
    rw [if_pos f0, if_pos w1]
    unfold fX4_callSystem
    rw [if_pos w1]
    exact t 11 0
  · by_cases w2 : r_word z = 1048691
    · have f0 : fX1_f (r_word z) = 0 := by rw [w2]; exact fw2
      rw [if_pos f0, if_neg w1, if_pos w2]
      unfold fX4_callSystem
      rw [if_neg w1, if_pos w2]
      exact t 3 (r_pc z)
    · by_cases w3 : r_word z = 807403635
      · have f0 : fX1_f (r_word z) = 0 := by rw [w3]; exact fw3
        rw [if_pos f0, if_neg w1, if_neg w2, if_pos w3]
        unfold fX4_callSystem
        rw [if_neg w1, if_neg w2, if_pos w3]
        exact c_back z n ht
      · rw [if_neg w1, if_neg w2, if_neg w3]
        by_cases f0 : fX1_f (r_word z) = 0
        · rw [if_pos f0, change_0 z f0]
          unfold fX4_callSystem
          rw [if_neg w1, if_neg w2, if_neg w3]
          exact u
        · rw [if_neg f0]
          exact c_change z n f0 ht h0 hn
theorem c_execute (y : SR) (n : Int32) (ht : r_trapped y = false) (h0 : r_reg y 0 = 0) : fX4_execute (r_word y) (s_steps (aS y) n) = res y (fX5_instruct y) n := by
  obtain ⟨z, hz⟩ : ∃ z, t_next y ((r_pc y) + (4 : Int32)) = z := ⟨_, rfl⟩
  have hw : r_word y = r_word z := by rw [← hz]
  have ha : aS y = aS z := by rw [← hz]; rfl
  have hr : ∀ z2 m, res y z2 m = res z z2 m := by intro z2 m; unfold res; rw [ha]
  have ht' : r_trapped z = false := by rw [← hz]; exact ht
  have h0' : r_reg z 0 = 0 := by rw [← hz]; exact h0
  have hn : r_next z = r_pc z + 4 := by rw [← hz]
  have hp : r_pc y = r_pc z := by rw [← hz]
  have hg : g_pc (s_steps (aS z) n) = r_pc z := rfl
  unfold fX4_execute fX5_instruct
  rw [hr, hz, hw, ha, hp, e_op, e_f, e_nU, e_nJ, e_nI, hg]
  simp only [peta, c_load z n ht' h0' hn, c_goOn z z n ht' hn, c_withNumber z n ht' h0' hn, fun v => c_lay z z n v ht' hn, c_store z n ht' h0' hn, c_withRegister z n ht' h0' hn, c_branch z n ht' h0' hn, fun v => c_jump z n v ht', c_none z n ht', c_system z n ht' h0' hn]
  unfold fX4_jumpByRegister
  rw [c_a z n h0']
  simp only [peta, fun v => c_jump z n v ht', c_none z n ht']
  by_cases o3 : fX1_op (r_word z) = 3
  · rw [if_pos o3, if_pos o3]
  by_cases o15 : fX1_op (r_word z) = 15
  · rw [if_neg o3, if_pos o15, if_neg o3, if_pos o15]
  by_cases o19 : fX1_op (r_word z) = 19
  · rw [if_neg o3, if_neg o15, if_pos o19, if_neg o3, if_neg o15, if_pos o19]
  by_cases o23 : fX1_op (r_word z) = 23
  · rw [if_neg o3, if_neg o15, if_neg o19, if_pos o23, if_neg o3, if_neg o15, if_neg o19, if_pos o23]
  by_cases o35 : fX1_op (r_word z) = 35
  · rw [if_neg o3, if_neg o15, if_neg o19, if_neg o23, if_pos o35, if_neg o3, if_neg o15, if_neg o19, if_neg o23, if_pos o35]
  by_cases o51 : fX1_op (r_word z) = 51
  · rw [if_neg o3, if_neg o15, if_neg o19, if_neg o23, if_neg o35, if_pos o51, if_neg o3, if_neg o15, if_neg o19, if_neg o23, if_neg o35, if_pos o51]
  by_cases o55 : fX1_op (r_word z) = 55
  · rw [if_neg o3, if_neg o15, if_neg o19, if_neg o23, if_neg o35, if_neg o51, if_pos o55, if_neg o3, if_neg o15, if_neg o19, if_neg o23, if_neg o35, if_neg o51, if_pos o55]
  by_cases o99 : fX1_op (r_word z) = 99
  · rw [if_neg o3, if_neg o15, if_neg o19, if_neg o23, if_neg o35, if_neg o51, if_neg o55, if_pos o99, if_neg o3, if_neg o15, if_neg o19, if_neg o23, if_neg o35, if_neg o51, if_neg o55, if_pos o99]
  by_cases o103 : fX1_op (r_word z) = 103
  · rw [if_neg o3, if_neg o15, if_neg o19, if_neg o23, if_neg o35, if_neg o51, if_neg o55, if_neg o99, if_pos o103, if_neg o3, if_neg o15, if_neg o19, if_neg o23, if_neg o35, if_neg o51, if_neg o55, if_neg o99, if_pos o103]
    split <;> rfl
  by_cases o111 : fX1_op (r_word z) = 111
  · rw [if_neg o3, if_neg o15, if_neg o19, if_neg o23, if_neg o35, if_neg o51, if_neg o55, if_neg o99, if_neg o103, if_pos o111, if_neg o3, if_neg o15, if_neg o19, if_neg o23, if_neg o35, if_neg o51, if_neg o55, if_neg o99, if_neg o103, if_pos o111]
  by_cases o115 : fX1_op (r_word z) = 115
  · rw [if_neg o3, if_neg o15, if_neg o19, if_neg o23, if_neg o35, if_neg o51, if_neg o55, if_neg o99, if_neg o103, if_neg o111, if_pos o115, if_neg o3, if_neg o15, if_neg o19, if_neg o23, if_neg o35, if_neg o51, if_neg o55, if_neg o99, if_neg o103, if_neg o111, if_pos o115]
  rw [if_neg o3, if_neg o15, if_neg o19, if_neg o23, if_neg o35, if_neg o51, if_neg o55, if_neg o99, if_neg o103, if_neg o111, if_neg o115, if_neg o3, if_neg o15, if_neg o19, if_neg o23, if_neg o35, if_neg o51, if_neg o55, if_neg o99, if_neg o103, if_neg o111, if_neg o115]
