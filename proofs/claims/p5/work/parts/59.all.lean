/-! what always holds -/
def Iv (y : SR) : Prop := r_pc y &&& 3 = 0 ∧ r_ctl y 2 &&& 3 = 0 ∧ r_ctl y 4 &&& 3 = 0 ∧ r_reg y 0 = 0 ∧ un (r_steps y) ≤ 100000
def Pv (y z : SR) : Prop := r_next z &&& 3 = 0 ∧ r_ctl z 2 &&& 3 = 0 ∧ r_ctl z 4 &&& 3 = 0 ∧ r_reg z 0 = 0 ∧ (r_steps z = r_steps y ∧ r_thrown z = r_thrown y) ∧ (r_trapped z = true → aS z = aS y)
theorem and_m4 (v : Int32) : (v &&& (-4 : Int32)) &&& 3 = 0 := by
  rw [Int32.and_assoc]
  have e : (-4 : Int32) &&& 3 = 0 := by decide
  rw [e, Int32.and_zero]
theorem add4 (v : Int32) (h : v &&& 3 = 0) : (v + 4) &&& 3 = 0 := by
  have z0 : un (0 : Int32) = 0 := by decide
  have z4 : un (4 : Int32) = 4 := by decide
  have g := congrArg un h
  rw [un_and3, z0] at g
  apply un_inj
  rw [un_and3, un_add, z4, z0]
  omega
theorem upd_same (f : Nat → Int32) (k : Nat) (v : Int32) : upd f k v k = v := if_pos rfl
theorem upd_ne (f : Nat → Int32) {k j : Nat} (v : Int32) (h : ¬ j = k) : upd f k v j = f j := if_neg h
theorem p_trap {y z : SR} (c v : Int32) (ht : r_trapped z = false) (ha : aS z = aS y) (h : Pv y z) : Pv y (fX5_trap c v z) := by
  rw [t5_trapped c v z ht]
  exact ⟨h.1, h.2.1, h.2.2.1, h.2.2.2.1, h.2.2.2.2.1, fun _ => ha⟩
theorem p_none {y z : SR} (ht : r_trapped z = false) (ha : aS z = aS y) (h : Pv y z) : Pv y (fX5_none z) := p_trap _ _ ht ha h
theorem p_lay {y z : SR} (v : Int32) (ht : r_trapped z = false) (h : Pv y z) : Pv y (fX5_lay v z) := by
  unfold fX5_lay
  rw [e_d]
  unfold fX1_d
  simp only [n31_c]
  split
  · exact h
  · rename_i c
    refine ⟨h.1, h.2.1, h.2.2.1, ?_, h.2.2.2.2.1, fun g => absurd (ht.symm.trans g) (by decide)⟩
    have z0 : un (0 : Int32) = 0 := by decide
    have l := r31 (ush (r_word z) 7)
    show upd (r_reg z) _ v 0 = 0
    rw [upd_ne]
    · exact h.2.2.2.1
    · rw [tnc (by omega)]
      intro g
      exact c (un_inj (by rw [← g, z0]))
theorem p_goes {y z : SR} (t : Int32) (ht : r_trapped z = false) (ha : aS z = aS y) (h : Pv y z) : Pv y (fX5_goes t z).2 := by
  unfold fX5_goes
  split
  · rename_i c
    exact ⟨c, h.2.1, h.2.2.1, h.2.2.2.1, h.2.2.2.2.1, fun g => absurd (ht.symm.trans g) (by decide)⟩
  · exact p_trap _ _ ht ha h
theorem p_jump {y z : SR} (t : Int32) (ht : r_trapped z = false) (ha : aS z = aS y) (h : Pv y z) : Pv y (fX5_jump t z) := by
  have g := p_goes t ht ha h
  unfold fX5_jump
  unfold fX5_goes at g ⊢
  by_cases d : t &&& 3 = 0
  · rw [if_pos d] at g ⊢
    exact p_lay _ ht g
  · rw [if_neg d] at g ⊢
    exact g
theorem p_mem {y z : SR} (m : Nat → Int32) (ht : r_trapped z = false) (h : Pv y z) : Pv y (t_mem z m) := ⟨h.1, h.2.1, h.2.2.1, h.2.2.2.1, h.2.2.2.2.1, fun g => absurd (ht.symm.trans g) (by decide)⟩
theorem p_may {y z : SR} (p s c1 c2 : Int32) (ht : r_trapped z = false) (ha : aS z = aS y) (hs : s = 1 ∨ s = 2 ∨ s = 4) (h : Pv y z) : (bi (fX5_may p s c1 c2 z).1 = 0 → Pv y (fX5_may p s c1 c2 z).2) ∧ (¬ bi (fX5_may p s c1 c2 z).1 = 0 → (fX5_may p s c1 c2 z).2 = z) := by
  rw [may_eq z p s c1 c2 ht hs]
  split
  · split
    · exact ⟨fun g => absurd g (show ¬ bi true = 0 by decide), fun _ => rfl⟩
    · exact ⟨fun _ => p_trap _ _ ht ha h, fun g => absurd rfl g⟩
  · exact ⟨fun _ => p_trap _ _ ht ha h, fun g => absurd rfl g⟩
theorem p_branch {y z : SR} (ht : r_trapped z = false) (ha : aS z = aS y) (h : Pv y z) : Pv y (fX5_branch z) := by
  unfold fX5_branch
  repeat' split
  all_goals (first | with_reducible exact h | with_reducible exact p_none ht ha h | with_reducible exact p_goes _ ht ha h)
theorem p_withNumber {y z : SR} (ht : r_trapped z = false) (ha : aS z = aS y) (h : Pv y z) : Pv y (fX5_withNumber z) := by
  unfold fX5_withNumber
  repeat' split
  all_goals (first | with_reducible exact p_lay _ ht h | with_reducible exact p_none ht ha h)
theorem p_product {y z : SR} (f a b : Int32) (ht : r_trapped z = false) (h : Pv y z) : Pv y (fX5_product f a b z) := by
  unfold fX5_product
  repeat' split
  all_goals with_reducible exact p_lay _ ht h
theorem p_withRegister {y z : SR} (ht : r_trapped z = false) (ha : aS z = aS y) (h : Pv y z) : Pv y (fX5_withRegister z) := by
  unfold fX5_withRegister
  repeat' split
  all_goals (first | with_reducible exact p_lay _ ht h | with_reducible exact p_none ht ha h | with_reducible exact p_product _ _ _ ht h)
theorem ld_sz (w : Int32) (h3 : ¬ fX1_f w = 3) (h5 : fX1_f w ≤ 5) : (1 : Int32) <<< ((fX1_f w &&& 3) &&& 31) = 1 ∨ (1 : Int32) <<< ((fX1_f w &&& 3) &&& 31) = 2 ∨ (1 : Int32) <<< ((fX1_f w &&& 3) &&& 31) = 4 := by
  apply sz_cases
  rcases f_cases w with k | k | k | k | k | k | k | k <;> rw [k] at h3 h5 ⊢ <;> revert h3 h5 <;> decide
theorem st_sz (w : Int32) (h5 : fX1_f w ≤ 2) : (1 : Int32) <<< (fX1_f w &&& 31) = 1 ∨ (1 : Int32) <<< (fX1_f w &&& 31) = 2 ∨ (1 : Int32) <<< (fX1_f w &&& 31) = 4 := by
  apply sz_cases
  rcases f_cases w with k | k | k | k | k | k | k | k <;> rw [k] at h5 ⊢ <;> revert h5 <;> decide
theorem p_load {y z : SR} (ht : r_trapped z = false) (ha : aS z = aS y) (h : Pv y z) : Pv y (fX5_load z) := by
  unfold fX5_load
  by_cases c1 : (fX5_bits (12 : Int32) (3 : Int32) z) = (3 : Int32)
  · rw [if_pos c1]; exact p_none ht ha h
  rw [if_neg c1]
  by_cases c2 : (fX5_bits (12 : Int32) (3 : Int32) z) ≤ (5 : Int32)
  · rw [if_pos c2]
    rw [e_f] at c1 c2 ⊢
    have m := p_may ((fX5_a z) + (fX5_numberI z)) ((1 : Int32) <<< ((fX1_f (r_word z) &&& 3) &&& 31)) 4 5 ht ha (ld_sz _ c1 c2) h
    by_cases c3 : bi (fX5_may ((fX5_a z) + (fX5_numberI z)) ((1 : Int32) <<< ((fX1_f (r_word z) &&& 3) &&& 31)) 4 5 z).1 = 0
    · rw [if_pos c3]; exact m.1 c3
    · rw [if_neg c3]
      rw [m.2 c3]
      repeat' split
      all_goals with_reducible exact p_lay _ ht h
  · rw [if_neg c2]; exact p_none ht ha h
theorem p_store {y z : SR} (ht : r_trapped z = false) (ha : aS z = aS y) (h : Pv y z) : Pv y (fX5_store z) := by
  unfold fX5_store
  by_cases c2 : (fX5_bits (12 : Int32) (3 : Int32) z) ≤ (2 : Int32)
  · rw [if_pos c2]
    rw [e_f] at c2 ⊢
    have m := p_may ((fX5_a z) + (fX5_numberS z)) ((1 : Int32) <<< (fX1_f (r_word z) &&& 31)) 6 7 ht ha (st_sz _ c2) h
    by_cases c3 : bi (fX5_may ((fX5_a z) + (fX5_numberS z)) ((1 : Int32) <<< (fX1_f (r_word z) &&& 31)) 6 7 z).1 = 0
    · rw [if_pos c3]; exact m.1 c3
    · rw [if_neg c3]
      rw [m.2 c3]
      repeat' split
      all_goals with_reducible exact p_mem _ ht h
  · rw [if_neg c2]; exact p_none ht ha h
theorem p_become {y z : SR} (c v : Int32) (hc : ¬ fX5_controlOf c = -1) (ht : r_trapped z = false) (h : Pv y z) : Pv y (fX5_become (fX5_controlOf c) v z) := by
  have hf : ∀ g : r_trapped z = true, aS z = aS y := fun g => absurd (ht.symm.trans g) (by decide)
  have hg : ∀ (q : SR) (e : r_trapped q = r_trapped z), r_trapped q = true → aS q = aS y := fun q e g => absurd (ht.symm.trans (e.symm.trans g)) (by decide)
  unfold fX5_controlOf at hc ⊢
  by_cases c0 : c = 768
  · rw [if_pos c0]
    exact ⟨h.1, h.2.1, h.2.2.1, h.2.2.2.1, h.2.2.2.2.1, hg _ rfl⟩
  rw [if_neg c0] at hc ⊢
  by_cases c1 : c = 772
  · rw [if_pos c1]
    exact ⟨h.1, h.2.1, h.2.2.1, h.2.2.2.1, h.2.2.2.2.1, hg _ rfl⟩
  rw [if_neg c1] at hc ⊢
  by_cases c2 : c = 773
  · rw [if_pos c2]
    exact ⟨h.1, and_m4 v, h.2.2.1, h.2.2.2.1, h.2.2.2.2.1, hg _ rfl⟩
  rw [if_neg c2] at hc ⊢
  by_cases c3 : c = 832
  · rw [if_pos c3]
    exact ⟨h.1, h.2.1, h.2.2.1, h.2.2.2.1, h.2.2.2.2.1, hg _ rfl⟩
  rw [if_neg c3] at hc ⊢
  by_cases c4 : c = 833
  · rw [if_pos c4]
    exact ⟨h.1, h.2.1, and_m4 v, h.2.2.2.1, h.2.2.2.2.1, hg _ rfl⟩
  rw [if_neg c4] at hc ⊢
  by_cases c5 : c = 834
  · rw [if_pos c5]
    exact ⟨h.1, h.2.1, h.2.2.1, h.2.2.2.1, h.2.2.2.2.1, hg _ rfl⟩
  rw [if_neg c5] at hc ⊢
  by_cases c6 : c = 835
  · rw [if_pos c6]
    exact ⟨h.1, h.2.1, h.2.2.1, h.2.2.2.1, h.2.2.2.2.1, hg _ rfl⟩
  rw [if_neg c6] at hc ⊢
  by_cases c7 : c = 836
  · rw [if_pos c7]
    exact ⟨h.1, h.2.1, h.2.2.1, h.2.2.2.1, h.2.2.2.2.1, hg _ rfl⟩
  rw [if_neg c7] at hc ⊢
  by_cases c8 : c = 2816
  · rw [if_pos c8]
    exact ⟨h.1, h.2.1, h.2.2.1, h.2.2.2.1, h.2.2.2.2.1, hg _ rfl⟩
  rw [if_neg c8] at hc
  exact absurd rfl hc
theorem p_change {y z : SR} (ht : r_trapped z = false) (ha : aS z = aS y) (h : Pv y z) : Pv y (fX5_change z) := by
  unfold fX5_change
  repeat' split
  all_goals (first | with_reducible exact p_none ht ha h | with_reducible exact p_lay _ ht h | (rename_i hc _ _ ; with_reducible exact p_lay _ ((k_keep _ _ z).2.1.trans ht) (p_become _ _ hc ht h)) | (rename_i hc _ _ _ ; with_reducible exact p_lay _ ((k_keep _ _ z).2.1.trans ht) (p_become _ _ hc ht h)))
theorem p_system {y z : SR} (ht : r_trapped z = false) (ha : aS z = aS y) (h : Pv y z) : Pv y (fX5_system z) := by
  unfold fX5_system
  split
  · exact p_trap _ _ ht ha h
  · split
    · exact p_trap _ _ ht ha h
    · split
      · rw [tn0, tn4]
        exact ⟨h.2.2.1, h.2.1, h.2.2.1, h.2.2.2.1, h.2.2.2.2.1, fun g => absurd (ht.symm.trans g) (by decide)⟩
      · exact p_change ht ha h
theorem p_instruct {y : SR} (ht : r_trapped y = false) (h : Iv y) : Pv y (fX5_instruct y) := by
  obtain ⟨z, hz⟩ : ∃ z, t_next y ((r_pc y) + (4 : Int32)) = z := ⟨_, rfl⟩
  have ha : aS z = aS y := by rw [← hz]; rfl
  have ht' : r_trapped z = false := by rw [← hz]; exact ht
  have hP : Pv y z := by
    rw [← hz]
    exact ⟨add4 _ h.1, h.2.1, h.2.2.1, h.2.2.2.1, ⟨rfl, rfl⟩, fun g => absurd (ht.symm.trans g) (by decide)⟩
  unfold fX5_instruct
  rw [hz]
  repeat' split
  all_goals (first | with_reducible exact hP | with_reducible exact p_load ht' ha hP | with_reducible exact p_withNumber ht' ha hP | with_reducible exact p_lay _ ht' hP | with_reducible exact p_store ht' ha hP | with_reducible exact p_withRegister ht' ha hP | with_reducible exact p_branch ht' ha hP | with_reducible exact p_jump _ ht' ha hP | with_reducible exact p_none ht' ha hP | with_reducible exact p_system ht' ha hP)
/-! a step, a run, the calls -/
theorem t_105 (y z : SR) (ht : r_trapped z = true) (ha : aS z = aS y) (hs : r_stopped y = false) : (fX4_trap (r_cause z) (r_why z) (s_steps (aS y) (r_steps y + 1))).2 = aS (fX5_step_105 z) := by
  rw [← ha]
  have e1 : r_steps y = r_steps z := congrArg g_steps ha.symm
  have e2 : r_stopped z = false := (congrArg g_stop ha).trans hs
  rw [e1]
  unfold fX4_trap fX2_enterTrap fX5_step_105
  rw [ht, tn0, tn2, tn4, tn5, tn6]
  have u0 : ∀ (f : Nat → Int32) (a b c d : Int32), upd (upd (upd (upd f 4 a) 5 b) 6 c) 0 d 2 = f 2 := fun _ _ _ _ _ => rfl
  have u1 : ∀ (f : Nat → Int32) (a b c : Int32), upd (upd (upd f 4 a) 5 b) 6 c 0 = f 0 := fun _ _ _ _ => rfl
  rw [u0, u1, st_up]
  have eg : g_status (s_traps (s_steps (aS z) (r_steps z + 1)) (g_traps (s_steps (aS z) (r_steps z + 1)) + 1)) = r_ctl z 0 := rfl
  rw [eg]
  rw [if_neg (show ¬ bi true = 0 by decide)]
  by_cases c0 : r_ctl z 0 &&& 8 = 0
  · rw [if_pos c0, if_pos c0]
    by_cases c2 : r_ctl z 2 = 0
    · rw [if_pos c2, if_pos (show g_vector _ = 0 from c2)]
      rfl
    · rw [if_neg c2, if_neg (show ¬ g_vector _ = 0 from c2)]
      show ((_, r_stopped z, _) : St) = _
      rw [e2]
      rfl
  · rw [if_neg c0, if_neg c0]
    by_cases c2 : r_ctl z 2 = 0
    · rw [if_pos c2, if_pos (show g_vector _ = 0 from c2)]
      rfl
    · rw [if_neg c2, if_neg (show ¬ g_vector _ = 0 from c2)]
      show ((_, r_stopped z, _) : St) = _
      rw [e2]
      rfl
theorem i_105 (y z : SR) (hy : Iv y) (hl : ¬ 100000 ≤ r_steps y) (h1 : r_trapped z = false → r_next z &&& 3 = 0) (h : r_ctl z 2 &&& 3 = 0 ∧ r_ctl z 4 &&& 3 = 0 ∧ r_reg z 0 = 0 ∧ (r_steps z = r_steps y ∧ r_thrown z = r_thrown y) ∧ (r_trapped z = true → aS z = aS y)) : Iv (fX5_step_105 z) := by
  have z1 : un (1 : Int32) = 1 := by decide
  have zm : un (100000 : Int32) = 100000 := by decide
  have hlt : un (r_steps y) < 100000 := by
    have h5 := hy.2.2.2.2
    rw [le_nat (by omega) (by omega), zm] at hl
    omega
  have hs : un (r_steps z + 1) ≤ 100000 := by
    rw [h.2.2.2.1.1, un_add, z1]
    omega
  unfold fX5_step_105
  rw [tn0, tn2, tn4, tn5, tn6]
  split
  · rename_i ct
    exact ⟨h1 ((bi0 _).mp ct), h.1, h.2.1, h.2.2.1, hs⟩
  · rename_i ct
    have ht : r_trapped z = true := by
      cases e : r_trapped z
      · rw [e] at ct; exact absurd rfl ct
      · rfl
    have hpc : r_pc z &&& 3 = 0 := by
      have e : r_pc z = r_pc y := congrArg g_pc (h.2.2.2.2 ht)
      rw [e]; exact hy.1
    split
    · exact ⟨hpc, h.1, hpc, h.2.2.1, hs⟩
    · exact ⟨h.1, h.1, hpc, h.2.2.1, hs⟩
theorem k_105 (z : SR) : r_thrown (fX5_step_105 z) = r_thrown z ∧ r_steps (fX5_step_105 z) = r_steps z + 1 := by
  unfold fX5_step_105
  repeat' split
  all_goals exact ⟨rfl, rfl⟩
theorem s_eq (y : SR) (hy : Iv y) (hs : r_stopped y = false) (hl : ¬ 100000 ≤ r_steps y) : fX4_step (aS y) = aS (fX5_step y) ∧ Iv (fX5_step y) ∧ r_thrown (fX5_step y) = r_thrown y ∧ r_steps (fX5_step y) = r_steps y + 1 := by
  have trapcase : ∀ (c v : Int32) (z : SR), r_trapped z = false → aS z = aS y → r_thrown z = r_thrown y → (fX4_trap c v (s_steps (aS y) (r_steps y + 1))).2 = aS (fX5_step_105 (fX5_trap c v z)) ∧ Iv (fX5_step_105 (fX5_trap c v z)) ∧ r_thrown (fX5_step_105 (fX5_trap c v z)) = r_thrown y ∧ r_steps (fX5_step_105 (fX5_trap c v z)) = r_steps y + 1 := by
    intro c v z ht ha hth
    rw [t5_trapped c v z ht]
    have ha' : aS (t_why (t_cause (t_trapped z true) c) v) = aS y := ha
    have e1 : r_steps z = r_steps y := congrArg g_steps ha
    have hPc : Iv (fX5_step_105 (t_why (t_cause (t_trapped z true) c) v)) :=
      i_105 y (t_why (t_cause (t_trapped z true) c) v) hy hl (fun g => absurd (show true = false from g) (by decide)) ⟨(congrArg (fun s : St => g_vector s &&& 3) ha).trans hy.2.1, (congrArg (fun s : St => g_back s &&& 3) ha).trans hy.2.2.1, (congrArg (fun s : St => g_reg s 0) ha).trans hy.2.2.2.1, ⟨e1, hth⟩, fun _ => ha⟩
    exact ⟨t_105 y (t_why (t_cause (t_trapped z true) c) v) rfl ha' hs, hPc, (k_105 _).1.trans hth, (k_105 _).2.trans (congrArg (· + 1) e1)⟩
  have z0 : r_trapped (t_trapped y false) = false := rfl
  have a0 : aS (t_trapped y false) = aS y := rfl
  have hint : (bi (fX2_isInterrupted (s_steps (aS y) (r_steps y + 1))) = 0) ↔ ¬ (¬ r_ctl y 0 &&& 8 = 0 ∧ ¬ r_ctl y 1 &&& 2048 = 0 ∧ ¬ bi (r_line y) = 0) := by
    rw [bi0]
    unfold fX2_isInterrupted
    show ((if r_ctl y 0 &&& 8 = 0 then false else if r_ctl y 1 &&& 2048 = 0 then false else if bi (r_line y) = 0 then false else true) = false) ↔ _
    by_cases c1 : r_ctl y 0 &&& 8 = 0
    · rw [if_pos c1]; exact ⟨fun _ g => g.1 c1, fun _ => rfl⟩
    rw [if_neg c1]
    by_cases c2 : r_ctl y 1 &&& 2048 = 0
    · rw [if_pos c2]; exact ⟨fun _ g => g.2.1 c2, fun _ => rfl⟩
    rw [if_neg c2]
    by_cases c3 : bi (r_line y) = 0
    · rw [if_pos c3]; exact ⟨fun _ g => g.2.2 c3, fun _ => rfl⟩
    rw [if_neg c3]
    exact ⟨fun g => absurd g (by decide), fun g => absurd ⟨c1, c2, c3⟩ g⟩
  have hstep : fX5_step y = if (bi (fX2_isInterrupted (s_steps (aS y) (r_steps y + 1))) = 0) then fX5_step_42 false (t_trapped y false) else fX5_step_42 true (t_trapped y false) := by
    unfold fX5_step
    rw [tn0, tn1]
    by_cases c1 : r_ctl y 0 &&& 8 = 0
    · rw [if_pos c1, if_pos (hint.mpr (fun g => g.1 c1))]
    rw [if_neg c1]
    by_cases c2 : r_ctl y 1 &&& 2048 = 0
    · rw [if_pos c2, if_pos (hint.mpr (fun g => g.2.1 c2))]
    rw [if_neg c2]
    by_cases c3 : bi (r_line y) = 0
    · rw [if_pos c3, if_pos (hint.mpr (fun g => g.2.2 c3))]
    rw [if_neg c3, if_neg (fun g => hint.mp g ⟨c1, c2, c3⟩)]
  rw [hstep]
  unfold fX4_step
  have eS : g_steps (aS y) = r_steps y := rfl
  have eP : g_pc (aS y) = r_pc y := rfl
  rw [eS, eP]
  by_cases ci : bi (fX2_isInterrupted (s_steps (aS y) (r_steps y + 1))) = 0
  · rw [if_pos ci, if_pos ci]
    unfold fX5_step_42
    rw [if_pos (show bi false = 0 from rfl)]
    have z4 : un (4092 : Int32) = 4092 := by decide
    have g3 := congrArg un hy.1
    have zz : un (0 : Int32) = 0 := by decide
    rw [un_and3, zz] at g3
    have hpc : r_pc (t_trapped y false) = r_pc y := rfl
    rw [hpc]
    by_cases ch : fX3_holds (r_pc y) = true
    · have hh := ch
      rw [holds_un, decide_eq_true_iff] at hh
      rw [if_neg (show ¬ bi (fX3_holds (r_pc y)) = 0 by rw [ch]; decide)]
      rw [if_neg (show ¬ r_pc y < 0 by rw [lt0]; omega), if_pos (show r_pc y ≤ 4092 by rw [le_nat (by omega) (by omega), z4]; omega)]
      rw [c_readWord (r_pc y) _ hh]
      obtain ⟨z, hz⟩ : ∃ z, t_word (t_trapped y false) (r_mem (t_trapped y false) (r_pc y / 4).toNatClampNeg) = z := ⟨_, rfl⟩
      have ew : g_mem (s_steps (aS y) (r_steps y + 1)) (r_pc y / 4).toNatClampNeg = r_word z := by rw [← hz]; rfl
      have eA : aS y = aS z := by rw [← hz]; rfl
      have et : r_trapped z = false := by rw [← hz]
      have eTh : r_thrown z = r_thrown y := by rw [← hz]
      have eI : Iv z := by rw [← hz]; exact hy
      have eSt : r_steps y = r_steps z := by rw [← hz]
      have hs' : r_stopped z = false := by rw [← hz]; exact hs
      have hl' : ¬ 100000 ≤ r_steps z := by rw [← hz]; exact hl
      rw [hz, ew, eA, eSt, c_execute z (r_steps z + 1) et eI.2.2.2.1]
      have pv := p_instruct et eI
      unfold res
      by_cases cz : r_trapped (fX5_instruct z) = true
      · rw [if_pos cz]
        refine ⟨?_, i_105 z _ eI hl' (fun _ => pv.1) pv.2, (k_105 _).1.trans (pv.2.2.2.2.1.2.trans eTh), (k_105 _).2.trans (congrArg (· + 1) pv.2.2.2.2.1.1)⟩
        rw [if_pos (show bi false = 0 from rfl)]
        exact t_105 z _ cz (pv.2.2.2.2.2 cz) hs'
      · rw [if_neg cz]
        refine ⟨?_, i_105 z _ eI hl' (fun _ => pv.1) pv.2, (k_105 _).1.trans (pv.2.2.2.2.1.2.trans eTh), (k_105 _).2.trans (congrArg (· + 1) pv.2.2.2.2.1.1)⟩
        rw [if_neg (show ¬ bi true = 0 by decide)]
        have cf : r_trapped (fX5_instruct z) = false := by
          cases e : r_trapped (fX5_instruct z)
          · rfl
          · exact absurd e cz
        have e5 := pv.2.2.2.2.1.1
        unfold fX5_step_105
        rw [cf, if_pos (show bi false = 0 from rfl), ← e5]
        rfl
    · have cf : fX3_holds (r_pc y) = false := by
        cases e : fX3_holds (r_pc y)
        · rfl
        · exact absurd e ch
      have hh := cf
      rw [holds_un, decide_eq_false_iff_not] at hh
      rw [if_pos (show bi (fX3_holds (r_pc y)) = 0 by rw [cf]; rfl)]
      have hp := un_lt (r_pc y)
      by_cases cn : r_pc y < 0
      · rw [if_pos cn]
        exact trapcase 1 (r_pc y) (t_trapped y false) z0 a0 rfl
      · rw [if_neg cn]
        rw [lt0] at cn
        rw [if_neg (show ¬ r_pc y ≤ 4092 by rw [le_nat (by omega) (by omega), z4]; omega)]
        exact trapcase 1 (r_pc y) (t_trapped y false) z0 a0 rfl
  · rw [if_neg ci, if_neg ci]
    unfold fX5_step_42
    rw [if_neg (show ¬ bi true = 0 by decide)]
    exact trapcase _ _ (t_trapped y false) z0 a0 rfl
theorem ok_lim (y : SR) : okfX4_refuseBeyondLimit (aS y) = true ↔ ¬ (100000 : Int32) ≤ r_steps y := by
  unfold okfX4_refuseBeyondLimit
  show ((if r_steps y < 100000 then true else false) = true) ↔ _
  rw [Int32.not_le]
  split
  · rename_i h; exact ⟨fun _ => h, fun _ => rfl⟩
  · rename_i h; exact ⟨fun g => absurd g (by decide), fun g => absurd g h⟩
theorem r_eq : ∀ (k : Nat) (n c : Int32) (y : SR), Iv y → (runD k n c (aS y)).2 = ((runR k n c y).1, aS (runR k n c y).2) ∧ Iv (runR k n c y).2 := by
  intro k
  induction k with
  | zero => intro n c y h; exact ⟨rfl, h⟩
  | succ k ih =>
    intro n c y h
    unfold runD runR
    by_cases c1 : n ≤ c
    · rw [if_pos c1, if_pos c1]; exact ⟨rfl, h⟩
    rw [if_neg c1, if_neg c1]
    have eg : g_stop (aS y) = r_stopped y := rfl
    rw [eg]
    by_cases c2 : bi (r_stopped y) = 0
    · rw [if_pos c2, if_pos c2]
      by_cases c3 : (100000 : Int32) ≤ r_steps y
      · rw [if_pos c3, if_neg (fun g => (ok_lim y).mp g c3)]; exact ⟨rfl, h⟩
      · rw [if_neg c3, if_pos ((ok_lim y).mpr c3)]
        have st := s_eq y h ((bi0 _).mp c2) c3
        rw [st.1]
        exact ih n (c + 1) (fX5_step y) st.2.1
    · rw [if_neg c2, if_neg c2]; exact ⟨rfl, h⟩
theorem r_cmp : ∀ (k : Nat) (n c : Int32) (y : SR), Iv y → un (r_steps y) + k ≤ 100000 → (runD k n c (aS y)).1 = false ∧ r_thrown (runR k n c y).2 = r_thrown y := by
  intro k
  induction k with
  | zero => intro n c y _ _; exact ⟨rfl, rfl⟩
  | succ k ih =>
    intro n c y h hk
    unfold runD runR
    by_cases c1 : n ≤ c
    · rw [if_pos c1, if_pos c1]; exact ⟨rfl, rfl⟩
    rw [if_neg c1, if_neg c1]
    have eg : g_stop (aS y) = r_stopped y := rfl
    rw [eg]
    by_cases c2 : bi (r_stopped y) = 0
    · rw [if_pos c2, if_pos c2]
      have zm : un (100000 : Int32) = 100000 := by decide
      have c3 : ¬ (100000 : Int32) ≤ r_steps y := by
        rw [le_nat (by omega) (by omega), zm]
        omega
      rw [if_neg c3, if_pos ((ok_lim y).mpr c3)]
      have st := s_eq y h ((bi0 _).mp c2) c3
      rw [st.1]
      have z1 : un (1 : Int32) = 1 := by decide
      have q := ih n (c + 1) (fX5_step y) st.2.1 (by rw [st.2.2.2, un_add, z1]; omega)
      exact ⟨q.1, q.2.trans st.2.2.1⟩
    · rw [if_neg c2, if_neg c2]; exact ⟨rfl, rfl⟩
def Rl (x : St) (y : SR) : Prop := x = aS y ∧ Iv y
theorem Rl_run {x : St} {y : SR} (a : Int32) (h : Rl x y) : Rl (fX4_run a x).2.2 (fX5_run a y).2 := by
  obtain ⟨rfl, hy⟩ := h
  have hT : ∀ v, Rl (aS y) (t_thrown y v) := fun v => ⟨rfl, hy⟩
  unfold fX4_run fX5_run fX5_raise
  by_cases c1 : a < 1
  · rw [if_pos c1, if_pos c1]; exact hT 1
  rw [if_neg c1, if_neg c1]
  by_cases c2 : a ≤ 1000
  · rw [if_pos c2, if_pos c2]
    by_cases c3 : r_steps y = 100000
    · rw [if_pos c3, if_neg (fun g => (ok_lim y).mp g (by rw [c3]; decide))]; exact hT 2
    · have zm : un (100000 : Int32) = 100000 := by decide
      have hl : ¬ (100000 : Int32) ≤ r_steps y := by
        have h5 := hy.2.2.2.2
        rw [le_nat (by omega) (by omega), zm]
        intro g
        exact c3 (un_inj (by omega))
      rw [if_neg c3, if_pos ((ok_lim y).mpr hl)]
      have r := r_eq 1001 a 0 (t_thrown y 0) hy
      exact ⟨congrArg Prod.snd r.1, r.2⟩
  · rw [if_neg c2, if_neg c2]; exact hT 1
/-- run, where its thousand steps stay below the limit -/
theorem Rl_runc {x : St} {y : SR} (a : Int32) (h : Rl x y) (hs : un (r_steps y) + 1001 ≤ 100000) : fX5_thrown (fX5_run a y).2 = (fX4_run a x).1 ∧ ((fX4_run a x).1 = 0 → (fX4_run a x).2.1 = (fX5_run a y).1) := by
  obtain ⟨rfl, hy⟩ := h
  unfold fX4_run fX5_run fX5_raise fX5_thrown
  by_cases c1 : a < 1
  · rw [if_pos c1, if_pos c1]; exact ⟨rfl, fun g => absurd (show (1 : Int32) = 0 from g) (by decide)⟩
  rw [if_neg c1, if_neg c1]
  by_cases c2 : a ≤ 1000
  · rw [if_pos c2, if_pos c2]
    have zm : un (100000 : Int32) = 100000 := by decide
    have hl : ¬ (100000 : Int32) ≤ r_steps y := by
      rw [le_nat (by omega) (by omega), zm]
      omega
    have c3 : ¬ r_steps y = 100000 := fun g => hl (by rw [g]; decide)
    rw [if_neg c3, if_pos ((ok_lim y).mpr hl)]
    have r := r_eq 1001 a 0 (t_thrown y 0) hy
    have q := r_cmp 1001 a 0 (t_thrown y 0) hy hs
    have e : aS (t_thrown y 0) = aS y := rfl
    rw [e] at r q
    rw [q.1]
    exact ⟨q.2, fun _ => congrArg Prod.fst r.1⟩
  · rw [if_neg c2, if_neg c2]; exact ⟨rfl, fun g => absurd (show (1 : Int32) = 0 from g) (by decide)⟩
theorem r_lim : ∀ (k : Nat) (n c : Int32) (y : SR), Iv y → r_thrown (runR k n c y).2 = r_thrown y ∧ ((runD k n c (aS y)).1 = true → r_steps (runR k n c y).2 = 100000 ∧ r_stopped (runR k n c y).2 = false ∧ ¬ n ≤ (runR k n c y).1) := by
  intro k
  induction k with
  | zero => intro n c y _; exact ⟨rfl, fun g => absurd (show false = true from g) (by decide)⟩
  | succ k ih =>
    intro n c y h
    unfold runD runR
    by_cases c1 : n ≤ c
    · rw [if_pos c1, if_pos c1]; exact ⟨rfl, fun g => absurd (show false = true from g) (by decide)⟩
    rw [if_neg c1, if_neg c1]
    have eg : g_stop (aS y) = r_stopped y := rfl
    rw [eg]
    by_cases c2 : bi (r_stopped y) = 0
    · rw [if_pos c2, if_pos c2]
      by_cases c3 : (100000 : Int32) ≤ r_steps y
      · rw [if_pos c3, if_neg (fun g => (ok_lim y).mp g c3)]
        have zm : un (100000 : Int32) = 100000 := by decide
        have h5 := h.2.2.2.2
        have e9 : r_steps y = 100000 := by
          rw [le_nat (by omega) (by omega), zm] at c3
          exact un_inj (by omega)
        exact ⟨rfl, fun _ => ⟨e9, (bi0 _).mp c2, c1⟩⟩
      · rw [if_neg c3, if_pos ((ok_lim y).mpr c3)]
        have st := s_eq y h ((bi0 _).mp c2) c3
        rw [st.1]
        have q := ih n (c + 1) (fX5_step y) st.2.1
        exact ⟨q.1.trans st.2.2.1, q.2⟩
    · rw [if_neg c2, if_neg c2]; exact ⟨rfl, fun g => absurd (show false = true from g) (by decide)⟩
/-- run, wherever it is called: both sides throw and answer alike, or the limit was come to in its midst, not stopped, with less than a done: there the class throws and the reference answers -/
theorem Rl_runx {x : St} {y : SR} (a : Int32) (h : Rl x y) : (fX5_thrown (fX5_run a y).2 = (fX4_run a x).1 ∧ ((fX4_run a x).1 = 0 → (fX4_run a x).2.1 = (fX5_run a y).1)) ∨ ((fX4_run a x).1 = 2 ∧ fX5_thrown (fX5_run a y).2 = 0 ∧ r_steps (fX5_run a y).2 = 100000 ∧ r_stopped (fX5_run a y).2 = false ∧ ¬ a ≤ (fX5_run a y).1) := by
  obtain ⟨rfl, hy⟩ := h
  unfold fX4_run fX5_run fX5_raise fX5_thrown
  by_cases c1 : a < 1
  · rw [if_pos c1, if_pos c1]; exact Or.inl ⟨rfl, fun g => absurd (show (1 : Int32) = 0 from g) (by decide)⟩
  rw [if_neg c1, if_neg c1]
  by_cases c2 : a ≤ 1000
  · rw [if_pos c2, if_pos c2]
    by_cases c3 : r_steps y = 100000
    · rw [if_pos c3, if_neg (fun g => (ok_lim y).mp g (by rw [c3]; decide))]
      exact Or.inl ⟨rfl, fun g => absurd (show (2 : Int32) = 0 from g) (by decide)⟩
    · have zm : un (100000 : Int32) = 100000 := by decide
      have hl : ¬ (100000 : Int32) ≤ r_steps y := by
        have h5 := hy.2.2.2.2
        rw [le_nat (by omega) (by omega), zm]
        intro g
        exact c3 (un_inj (by omega))
      rw [if_neg c3, if_pos ((ok_lim y).mpr hl)]
      have r := r_eq 1001 a 0 (t_thrown y 0) hy
      have q := r_lim 1001 a 0 (t_thrown y 0) hy
      have e : aS (t_thrown y 0) = aS y := rfl
      rw [e] at r q
      cases e1 : (runD 1001 a 0 (aS y)).1 with
      | false => exact Or.inl ⟨q.1, fun _ => congrArg Prod.fst r.1⟩
      | true => exact Or.inr ⟨rfl, q.1, q.2 e1⟩
  · rw [if_neg c2, if_neg c2]; exact Or.inl ⟨rfl, fun g => absurd (show (1 : Int32) = 0 from g) (by decide)⟩
theorem adr_eq (a : Int32) : fX5_isAddress a = fX3_isWordAddress a := by
  unfold fX5_isAddress fX3_isWordAddress
  have h := un_lt a
  have z4 : un (4092 : Int32) = 4092 := by decide
  have z0 : un (0 : Int32) = 0 := by decide
  by_cases c1 : a < 0
  · rw [if_pos c1]
    rw [lt0] at c1
    rw [if_pos (show bi (fX3_holds a) = 0 by rw [bi0, holds_un]; exact decide_eq_false (by omega))]
  · rw [if_neg c1]
    rw [lt0] at c1
    by_cases c2 : a &&& 3 = 0
    · have g := congrArg un c2
      rw [un_and3, z0] at g
      by_cases c3 : (4092 : Int32) < a
      · rw [if_pos c3]
        rw [lt_nat (by omega) (by omega), z4] at c3
        rw [if_pos (show bi (fX3_holds a) = 0 by rw [bi0, holds_un]; exact decide_eq_false (by omega))]
      · rw [if_neg c3]
        rw [lt_nat (by omega) (by omega), z4] at c3
        rw [if_neg (show ¬ bi (fX3_holds a) = 0 by rw [bi0, holds_un, decide_eq_false_iff_not]; omega)]
    · rw [if_neg c2]
      split <;> split <;> rfl
theorem adr_lt {a : Int32} (h : ¬ bi (fX3_isWordAddress a) = 0) : un a < 4096 := by
  unfold fX3_isWordAddress at h
  by_cases c : bi (fX3_holds a) = 0
  · rw [if_pos c] at h; exact absurd rfl h
  · rw [bi0, holds_un, decide_eq_false_iff_not] at c
    omega
theorem Rl_set {x : St} {y : SR} (a w : Int32) (h : Rl x y) : (fX4_set a w x).1 = (fX5_set a w y).1 ∧ Rl (fX4_set a w x).2 (fX5_set a w y).2 := by
  obtain ⟨rfl, hy⟩ := h
  unfold fX4_set fX5_set
  rw [adr_eq]
  by_cases c : bi (fX3_isWordAddress a) = 0
  · rw [if_pos c, if_pos c]; exact ⟨rfl, rfl, hy⟩
  · rw [if_neg c, if_neg c, c_writeWord a w _ (adr_lt c)]
    exact ⟨rfl, rfl, hy⟩
theorem Rl_put {x : St} {y : SR} (a w : Int32) (h : Rl x y) : (fX4_put a w x).1 = (fX5_put a w y).1 ∧ Rl (fX4_put a w x).2 (fX5_put a w y).2 := by
  obtain ⟨rfl, hy⟩ := h
  have e1 : un (1 : Int32) = 1 := by decide
  have e32 : un (32 : Int32) = 32 := by decide
  have hl := un_lt a
  unfold fX4_put fX5_put
  by_cases c1 : a = 32
  · subst c1
    unfold fX4_putPc
    have d1 : ¬ (32 : Int32) < 1 := by decide
    have d2 : ¬ (32 : Int32) < 32 := by decide
    have d3 : (32 : Int32) ≤ 32 := by decide
    rw [if_pos rfl, if_neg d1, if_neg d2, if_pos rfl, if_pos d3]
    by_cases c2 : w &&& 3 = 0
    · rw [if_pos c2, if_pos c2]
      exact ⟨rfl, rfl, c2, hy.2⟩
    · rw [if_neg c2, if_neg c2]
      exact ⟨rfl, rfl, hy⟩
  rw [if_neg c1]
  by_cases c2 : a < 1
  · rw [if_pos c2, if_pos c2]; exact ⟨rfl, rfl, hy⟩
  rw [if_neg c2, if_neg c2]
  by_cases cs : un a < 2147483648
  · rw [lt_nat cs (by omega), e1] at c2
    by_cases c3 : a < 32
    · have c3' := c3
      rw [lt_nat cs (by omega), e32] at c3'
      rw [if_pos c3, if_neg (show ¬ (32 : Int32) < a by rw [lt_nat (by omega) cs, e32]; omega), if_neg c1, if_neg (show ¬ (32 : Int32) ≤ a by rw [le_nat (by omega) cs, e32]; omega)]
      refine ⟨rfl, ?_, hy.1, hy.2.1, hy.2.2.1, ?_, hy.2.2.2.2⟩
      · unfold fX4_writeRegister
        rw [if_neg (show ¬ a < 1 by rw [lt_nat cs (by omega), e1]; omega), if_neg (show ¬ (32 : Int32) ≤ a by rw [le_nat (by omega) cs, e32]; omega)]
        rfl
      · show upd (r_reg y) a.toNatClampNeg w 0 = 0
        rw [upd_ne _ _ (by rw [tnc cs]; omega)]
        exact hy.2.2.2.1
    · have c3' := c3
      rw [lt_nat cs (by omega), e32] at c3'
      have c4 : ¬ un a = 32 := fun g => c1 (un_inj (by rw [g, e32]))
      rw [if_neg c3, if_pos (show (32 : Int32) < a by rw [lt_nat (by omega) cs, e32]; omega)]
      exact ⟨rfl, rfl, hy⟩
  · exfalso
    apply c2
    have g : a < 0 := (lt0 a).mpr cs
    rw [Int32.lt_iff_toInt_lt] at g ⊢
    have e0 : (0 : Int32).toInt = 0 := by decide
    have e1 : (1 : Int32).toInt = 1 := by decide
    omega
theorem Rl_line {x : St} {y : SR} (b : Bool) (h : Rl x y) : Rl (fX4_line b x) (fX5_line b y) := by
  obtain ⟨rfl, hy⟩ := h
  exact ⟨rfl, hy⟩
theorem Rl_reset {x : St} {y : SR} (b : Bool) (h : Rl x y) : Rl (fX4_reset b x) (fX5_reset b y) := by
  obtain ⟨rfl, hy⟩ := h
  have z3 : (0 : Int32) &&& 3 = 0 := by decide
  cases b
  · exact ⟨rfl, z3, z3, z3, rfl, hy.2.2.2.2⟩
  · exact ⟨rfl, z3, z3, z3, rfl, hy.2.2.2.2⟩
theorem Rl_thrown {x : St} {y : SR} (v : Int32) (h : Rl x y) : Rl x (t_thrown y v) := h
theorem Rl_register {x : St} {y : SR} (a : Int32) (h : Rl x y) : (fX5_thrown (fX5_register a y).2 = cb (okfX4_register a x) ∧ (cb (okfX4_register a x) = 0 → fX4_register a x = (fX5_register a y).1)) ∧ Rl x (fX5_register a y).2 := by
  have h' := h
  obtain ⟨rfl, hy⟩ := h
  have e1 : un (1 : Int32) = 1 := by decide
  have e32 : un (32 : Int32) = 32 := by decide
  have z0 : un (0 : Int32) = 0 := by decide
  have hl := un_lt a
  unfold fX4_register okfX4_register fX5_register
  by_cases c1 : a = 32
  · subst c1
    rw [if_pos rfl, if_pos rfl, if_neg (by decide), if_pos (by decide), if_pos rfl]
    exact ⟨⟨rfl, fun _ => rfl⟩, h'⟩
  rw [if_neg c1, if_neg c1]
  by_cases c2 : a < 0
  · rw [if_pos c2, if_pos c2, if_pos c2]
    exact ⟨⟨rfl, fun g => absurd g (by decide)⟩, h'⟩
  rw [if_neg c2, if_neg c2, if_neg c2]
  have cs : un a < 2147483648 := by rw [lt0] at c2; omega
  have c4 : ¬ un a = 32 := fun g => c1 (un_inj (by rw [g, e32]))
  by_cases c3 : a < 32
  · have c3' := c3
    rw [lt_nat cs (by omega), e32] at c3'
    rw [if_pos c3, if_pos c3, if_pos (show a ≤ 32 by rw [le_nat cs (by omega), e32]; omega), if_neg c1]
    refine ⟨⟨rfl, fun _ => ?_⟩, h'⟩
    unfold fX4_readRegister
    by_cases c5 : a < 1
    · rw [if_pos c5]
      rw [lt_nat cs (by omega), e1] at c5
      have e : a = 0 := un_inj (by omega)
      rw [e, tn0]
      exact hy.2.2.2.1.symm
    · rw [if_neg c5, if_neg (show ¬ (32 : Int32) ≤ a by rw [le_nat (by omega) cs, e32]; omega)]
      rfl
  · have c3' := c3
    rw [lt_nat cs (by omega), e32] at c3'
    rw [if_neg c3, if_neg c3, if_neg (show ¬ a ≤ 32 by rw [le_nat cs (by omega), e32]; omega)]
    exact ⟨⟨rfl, fun g => absurd g (by decide)⟩, h'⟩
theorem Rl_control {x : St} {y : SR} (a : Int32) (h : Rl x y) : (fX5_thrown (fX5_control a y).2 = cb (okfX4_control a x) ∧ (cb (okfX4_control a x) = 0 → fX4_control a x = (fX5_control a y).1)) ∧ Rl x (fX5_control a y).2 := by
  have h' := h
  obtain ⟨rfl, hy⟩ := h
  have kk := k_known a
  unfold fX4_control okfX4_control fX5_control
  by_cases c : fX5_controlOf a = -1
  · have e : bi (fX2_isKnown a) = 0 := by rw [bi0, bfalse, kk]; exact fun g => g c
    rw [if_pos c, if_pos e, if_pos e]
    exact ⟨⟨rfl, fun g => absurd g (by decide)⟩, h'⟩
  · have e : ¬ bi (fX2_isKnown a) = 0 := by rw [bi0, bfalse, kk]; exact fun g => g c
    rw [if_neg c, if_neg e, if_neg e]
    exact ⟨⟨rfl, fun _ => k_read a (t_thrown y 0) (r_steps y) c⟩, h'⟩
theorem Rl_word {x : St} {y : SR} (a : Int32) (h : Rl x y) : (fX5_thrown (fX5_word a y).2 = cb (okfX4_word a x) ∧ (cb (okfX4_word a x) = 0 → fX4_word a x = (fX5_word a y).1)) ∧ Rl x (fX5_word a y).2 := by
  have h' := h
  obtain ⟨rfl, hy⟩ := h
  unfold fX4_word okfX4_word fX5_word
  rw [adr_eq]
  by_cases c : bi (fX3_isWordAddress a) = 0
  · rw [if_pos c, if_pos c, if_pos c]
    exact ⟨⟨rfl, fun g => absurd g (by decide)⟩, h'⟩
  · rw [if_neg c, if_neg c, if_neg c]
    exact ⟨⟨rfl, fun _ => c_readWord a _ (adr_lt c)⟩, h'⟩
theorem Rl_state {x : St} {y : SR} (a : Int32) (h : Rl x y) : fX4_state a x = (fX5_state a y).1 ∧ Rl x (fX5_state a y).2 := by
  have h' := h
  obtain ⟨rfl, hy⟩ := h
  unfold fX4_state fX5_state
  have e1 : g_stop (aS y) = r_stopped y := rfl
  have e2 : g_line (aS y) = r_line y := rfl
  rw [e1, e2]
  repeat' split
  all_goals exact ⟨rfl, h'⟩
theorem Rl_0 : Rl x00 y00 := ⟨rfl, by decide, by decide, by decide, by decide, by decide⟩
