section
-- ===== PART A: goes FIRST, ahead of the names: the tables' words, and 'selects' of the private methods out of them =====
/-- a private method of a class that the tables say can be made, by its rows of tables_1 -/
def lw_okq (q : MethodName × Nat) : Prop := (q.1.cls ≠ "java/lang/invoke/MethodHandle" ∧ q.1.cls ≠ "java/lang/invoke/VarHandle") ∧ Cond.instantiable q.1.cls q.2 ∈ tables_1 ∧ Cond.privateMethod q.1 ∈ tables_1 ∧ Cond.instanceMethod q.1 ∈ tables_1
theorem lw_p0 : lw_okq (⟨"HartDesk$Memory", "writeWord", "(II)V"⟩, 1) := ⟨⟨by decide +kernel, by decide +kernel⟩, List.mem_of_getElem? (i := 23) (by decide +kernel), List.mem_of_getElem? (i := 103) (by decide +kernel), List.mem_of_getElem? (i := 104) (by decide +kernel)⟩
theorem lw_p1 : lw_okq (⟨"HartDesk", "putPc", "(I)Z"⟩, 7) := ⟨⟨by decide +kernel, by decide +kernel⟩, List.mem_of_getElem? (i := 15) (by decide +kernel), List.mem_of_getElem? (i := 111) (by decide +kernel), List.mem_of_getElem? (i := 112) (by decide +kernel)⟩
theorem lw_p2 : lw_okq (⟨"HartDesk", "writeRegister", "(II)V"⟩, 7) := ⟨⟨by decide +kernel, by decide +kernel⟩, List.mem_of_getElem? (i := 15) (by decide +kernel), List.mem_of_getElem? (i := 115) (by decide +kernel), List.mem_of_getElem? (i := 116) (by decide +kernel)⟩
theorem lw_p3 : lw_okq (⟨"HartDesk$Controls", "clear", "()V"⟩, 9) := ⟨⟨by decide +kernel, by decide +kernel⟩, List.mem_of_getElem? (i := 34) (by decide +kernel), List.mem_of_getElem? (i := 130) (by decide +kernel), List.mem_of_getElem? (i := 131) (by decide +kernel)⟩
theorem lw_p4 : lw_okq (⟨"HartDesk$Memory", "clear", "()V"⟩, 1) := ⟨⟨by decide +kernel, by decide +kernel⟩, List.mem_of_getElem? (i := 23) (by decide +kernel), List.mem_of_getElem? (i := 134) (by decide +kernel), List.mem_of_getElem? (i := 135) (by decide +kernel)⟩
theorem lw_p5 : lw_okq (⟨"java/lang/Throwable", "fillInStackTrace", "(I)Ljava/lang/Throwable;"⟩, 6) := ⟨⟨by decide +kernel, by decide +kernel⟩, List.mem_of_getElem? (i := 191) (by decide +kernel), List.mem_of_getElem? (i := 189) (by decide +kernel), List.mem_of_getElem? (i := 190) (by decide +kernel)⟩
theorem lw_p6 : lw_okq (⟨"HartDesk", "refuseBeyondLimit", "()V"⟩, 7) := ⟨⟨by decide +kernel, by decide +kernel⟩, List.mem_of_getElem? (i := 15) (by decide +kernel), List.mem_of_getElem? (i := 221) (by decide +kernel), List.mem_of_getElem? (i := 222) (by decide +kernel)⟩
theorem lw_p7 : lw_okq (⟨"HartDesk", "step", "()V"⟩, 7) := ⟨⟨by decide +kernel, by decide +kernel⟩, List.mem_of_getElem? (i := 15) (by decide +kernel), List.mem_of_getElem? (i := 242) (by decide +kernel), List.mem_of_getElem? (i := 243) (by decide +kernel)⟩
theorem lw_p8 : lw_okq (⟨"HartDesk$Controls", "isInterrupted", "()Z"⟩, 9) := ⟨⟨by decide +kernel, by decide +kernel⟩, List.mem_of_getElem? (i := 34) (by decide +kernel), List.mem_of_getElem? (i := 246) (by decide +kernel), List.mem_of_getElem? (i := 247) (by decide +kernel)⟩
theorem lw_p9 : lw_okq (⟨"HartDesk", "trap", "(II)Z"⟩, 7) := ⟨⟨by decide +kernel, by decide +kernel⟩, List.mem_of_getElem? (i := 15) (by decide +kernel), List.mem_of_getElem? (i := 251) (by decide +kernel), List.mem_of_getElem? (i := 252) (by decide +kernel)⟩
theorem lw_p10 : lw_okq (⟨"HartDesk$Controls", "enterTrap", "(III)V"⟩, 9) := ⟨⟨by decide +kernel, by decide +kernel⟩, List.mem_of_getElem? (i := 34) (by decide +kernel), List.mem_of_getElem? (i := 255) (by decide +kernel), List.mem_of_getElem? (i := 256) (by decide +kernel)⟩
theorem lw_p11 : lw_okq (⟨"HartDesk$Memory", "readWord", "(I)I"⟩, 1) := ⟨⟨by decide +kernel, by decide +kernel⟩, List.mem_of_getElem? (i := 23) (by decide +kernel), List.mem_of_getElem? (i := 260) (by decide +kernel), List.mem_of_getElem? (i := 261) (by decide +kernel)⟩
theorem lw_p12 : lw_okq (⟨"HartDesk", "execute", "(I)Z"⟩, 7) := ⟨⟨by decide +kernel, by decide +kernel⟩, List.mem_of_getElem? (i := 15) (by decide +kernel), List.mem_of_getElem? (i := 264) (by decide +kernel), List.mem_of_getElem? (i := 265) (by decide +kernel)⟩
theorem lw_p13 : lw_okq (⟨"HartDesk", "goOnWith", "(II)Z"⟩, 7) := ⟨⟨by decide +kernel, by decide +kernel⟩, List.mem_of_getElem? (i := 15) (by decide +kernel), List.mem_of_getElem? (i := 274) (by decide +kernel), List.mem_of_getElem? (i := 275) (by decide +kernel)⟩
theorem lw_p14 : lw_okq (⟨"HartDesk", "goOn", "()Z"⟩, 7) := ⟨⟨by decide +kernel, by decide +kernel⟩, List.mem_of_getElem? (i := 15) (by decide +kernel), List.mem_of_getElem? (i := 281) (by decide +kernel), List.mem_of_getElem? (i := 282) (by decide +kernel)⟩
theorem lw_p15 : lw_okq (⟨"HartDesk", "jump", "(II)Z"⟩, 7) := ⟨⟨by decide +kernel, by decide +kernel⟩, List.mem_of_getElem? (i := 15) (by decide +kernel), List.mem_of_getElem? (i := 288) (by decide +kernel), List.mem_of_getElem? (i := 289) (by decide +kernel)⟩
def lw_privs_1 : List (MethodName × Nat) := [(⟨"HartDesk$Memory", "writeWord", "(II)V"⟩, 1), (⟨"HartDesk", "putPc", "(I)Z"⟩, 7), (⟨"HartDesk", "writeRegister", "(II)V"⟩, 7), (⟨"HartDesk$Controls", "clear", "()V"⟩, 9), (⟨"HartDesk$Memory", "clear", "()V"⟩, 1), (⟨"java/lang/Throwable", "fillInStackTrace", "(I)Ljava/lang/Throwable;"⟩, 6), (⟨"HartDesk", "refuseBeyondLimit", "()V"⟩, 7), (⟨"HartDesk", "step", "()V"⟩, 7), (⟨"HartDesk$Controls", "isInterrupted", "()Z"⟩, 9), (⟨"HartDesk", "trap", "(II)Z"⟩, 7), (⟨"HartDesk$Controls", "enterTrap", "(III)V"⟩, 9), (⟨"HartDesk$Memory", "readWord", "(I)I"⟩, 1), (⟨"HartDesk", "execute", "(I)Z"⟩, 7), (⟨"HartDesk", "goOnWith", "(II)Z"⟩, 7), (⟨"HartDesk", "goOn", "()Z"⟩, 7), (⟨"HartDesk", "jump", "(II)Z"⟩, 7)]
theorem lw_r1 : ∀ q ∈ lw_privs_1, lw_okq q := List.forall_mem_cons.mpr ⟨lw_p0, List.forall_mem_cons.mpr ⟨lw_p1, List.forall_mem_cons.mpr ⟨lw_p2, List.forall_mem_cons.mpr ⟨lw_p3, List.forall_mem_cons.mpr ⟨lw_p4, List.forall_mem_cons.mpr ⟨lw_p5, List.forall_mem_cons.mpr ⟨lw_p6, List.forall_mem_cons.mpr ⟨lw_p7, List.forall_mem_cons.mpr ⟨lw_p8, List.forall_mem_cons.mpr ⟨lw_p9, List.forall_mem_cons.mpr ⟨lw_p10, List.forall_mem_cons.mpr ⟨lw_p11, List.forall_mem_cons.mpr ⟨lw_p12, List.forall_mem_cons.mpr ⟨lw_p13, List.forall_mem_cons.mpr ⟨lw_p14, List.forall_mem_cons.mpr ⟨lw_p15, fun _ h => absurd h List.not_mem_nil⟩⟩⟩⟩⟩⟩⟩⟩⟩⟩⟩⟩⟩⟩⟩⟩
theorem lw_p16 : lw_okq (⟨"HartDesk", "jumpByRegister", "(I)Z"⟩, 7) := ⟨⟨by decide +kernel, by decide +kernel⟩, List.mem_of_getElem? (i := 15) (by decide +kernel), List.mem_of_getElem? (i := 292) (by decide +kernel), List.mem_of_getElem? (i := 293) (by decide +kernel)⟩
theorem lw_p17 : lw_okq (⟨"HartDesk", "unknown", "(I)Z"⟩, 7) := ⟨⟨by decide +kernel, by decide +kernel⟩, List.mem_of_getElem? (i := 15) (by decide +kernel), List.mem_of_getElem? (i := 299) (by decide +kernel), List.mem_of_getElem? (i := 300) (by decide +kernel)⟩
theorem lw_p18 : lw_okq (⟨"HartDesk", "valueA", "(I)I"⟩, 7) := ⟨⟨by decide +kernel, by decide +kernel⟩, List.mem_of_getElem? (i := 15) (by decide +kernel), List.mem_of_getElem? (i := 303) (by decide +kernel), List.mem_of_getElem? (i := 304) (by decide +kernel)⟩
theorem lw_p19 : lw_okq (⟨"HartDesk", "readRegister", "(I)I"⟩, 7) := ⟨⟨by decide +kernel, by decide +kernel⟩, List.mem_of_getElem? (i := 15) (by decide +kernel), List.mem_of_getElem? (i := 310) (by decide +kernel), List.mem_of_getElem? (i := 311) (by decide +kernel)⟩
theorem lw_p20 : lw_okq (⟨"HartDesk", "branch", "(I)Z"⟩, 7) := ⟨⟨by decide +kernel, by decide +kernel⟩, List.mem_of_getElem? (i := 15) (by decide +kernel), List.mem_of_getElem? (i := 317) (by decide +kernel), List.mem_of_getElem? (i := 318) (by decide +kernel)⟩
theorem lw_p21 : lw_okq (⟨"HartDesk", "valueB", "(I)I"⟩, 7) := ⟨⟨by decide +kernel, by decide +kernel⟩, List.mem_of_getElem? (i := 15) (by decide +kernel), List.mem_of_getElem? (i := 321) (by decide +kernel), List.mem_of_getElem? (i := 322) (by decide +kernel)⟩
theorem lw_p22 : lw_okq (⟨"HartDesk", "load", "(I)Z"⟩, 7) := ⟨⟨by decide +kernel, by decide +kernel⟩, List.mem_of_getElem? (i := 15) (by decide +kernel), List.mem_of_getElem? (i := 338) (by decide +kernel), List.mem_of_getElem? (i := 339) (by decide +kernel)⟩
theorem lw_p23 : lw_okq (⟨"HartDesk$Memory", "readPart", "(II)I"⟩, 1) := ⟨⟨by decide +kernel, by decide +kernel⟩, List.mem_of_getElem? (i := 23) (by decide +kernel), List.mem_of_getElem? (i := 345) (by decide +kernel), List.mem_of_getElem? (i := 346) (by decide +kernel)⟩
theorem lw_p24 : lw_okq (⟨"HartDesk", "store", "(I)Z"⟩, 7) := ⟨⟨by decide +kernel, by decide +kernel⟩, List.mem_of_getElem? (i := 15) (by decide +kernel), List.mem_of_getElem? (i := 354) (by decide +kernel), List.mem_of_getElem? (i := 355) (by decide +kernel)⟩
theorem lw_p25 : lw_okq (⟨"HartDesk$Memory", "writePart", "(III)V"⟩, 1) := ⟨⟨by decide +kernel, by decide +kernel⟩, List.mem_of_getElem? (i := 23) (by decide +kernel), List.mem_of_getElem? (i := 362) (by decide +kernel), List.mem_of_getElem? (i := 363) (by decide +kernel)⟩
theorem lw_p26 : lw_okq (⟨"HartDesk", "computeWithNumber", "(I)Z"⟩, 7) := ⟨⟨by decide +kernel, by decide +kernel⟩, List.mem_of_getElem? (i := 15) (by decide +kernel), List.mem_of_getElem? (i := 370) (by decide +kernel), List.mem_of_getElem? (i := 371) (by decide +kernel)⟩
theorem lw_p27 : lw_okq (⟨"HartDesk", "computeWithRegister", "(I)Z"⟩, 7) := ⟨⟨by decide +kernel, by decide +kernel⟩, List.mem_of_getElem? (i := 15) (by decide +kernel), List.mem_of_getElem? (i := 380) (by decide +kernel), List.mem_of_getElem? (i := 381) (by decide +kernel)⟩
theorem lw_p28 : lw_okq (⟨"HartDesk", "callSystem", "(I)Z"⟩, 7) := ⟨⟨by decide +kernel, by decide +kernel⟩, List.mem_of_getElem? (i := 15) (by decide +kernel), List.mem_of_getElem? (i := 393) (by decide +kernel), List.mem_of_getElem? (i := 394) (by decide +kernel)⟩
theorem lw_p29 : lw_okq (⟨"HartDesk$Controls", "leaveTrap", "()I"⟩, 9) := ⟨⟨by decide +kernel, by decide +kernel⟩, List.mem_of_getElem? (i := 34) (by decide +kernel), List.mem_of_getElem? (i := 397) (by decide +kernel), List.mem_of_getElem? (i := 398) (by decide +kernel)⟩
theorem lw_p30 : lw_okq (⟨"HartDesk", "exchangeControl", "(I)Z"⟩, 7) := ⟨⟨by decide +kernel, by decide +kernel⟩, List.mem_of_getElem? (i := 15) (by decide +kernel), List.mem_of_getElem? (i := 401) (by decide +kernel), List.mem_of_getElem? (i := 402) (by decide +kernel)⟩
theorem lw_p31 : lw_okq (⟨"HartDesk$Controls", "read", "(I)I"⟩, 9) := ⟨⟨by decide +kernel, by decide +kernel⟩, List.mem_of_getElem? (i := 34) (by decide +kernel), List.mem_of_getElem? (i := 415) (by decide +kernel), List.mem_of_getElem? (i := 416) (by decide +kernel)⟩
def lw_privs_2 : List (MethodName × Nat) := [(⟨"HartDesk", "jumpByRegister", "(I)Z"⟩, 7), (⟨"HartDesk", "unknown", "(I)Z"⟩, 7), (⟨"HartDesk", "valueA", "(I)I"⟩, 7), (⟨"HartDesk", "readRegister", "(I)I"⟩, 7), (⟨"HartDesk", "branch", "(I)Z"⟩, 7), (⟨"HartDesk", "valueB", "(I)I"⟩, 7), (⟨"HartDesk", "load", "(I)Z"⟩, 7), (⟨"HartDesk$Memory", "readPart", "(II)I"⟩, 1), (⟨"HartDesk", "store", "(I)Z"⟩, 7), (⟨"HartDesk$Memory", "writePart", "(III)V"⟩, 1), (⟨"HartDesk", "computeWithNumber", "(I)Z"⟩, 7), (⟨"HartDesk", "computeWithRegister", "(I)Z"⟩, 7), (⟨"HartDesk", "callSystem", "(I)Z"⟩, 7), (⟨"HartDesk$Controls", "leaveTrap", "()I"⟩, 9), (⟨"HartDesk", "exchangeControl", "(I)Z"⟩, 7), (⟨"HartDesk$Controls", "read", "(I)I"⟩, 9)]
theorem lw_r2 : ∀ q ∈ lw_privs_2, lw_okq q := List.forall_mem_cons.mpr ⟨lw_p16, List.forall_mem_cons.mpr ⟨lw_p17, List.forall_mem_cons.mpr ⟨lw_p18, List.forall_mem_cons.mpr ⟨lw_p19, List.forall_mem_cons.mpr ⟨lw_p20, List.forall_mem_cons.mpr ⟨lw_p21, List.forall_mem_cons.mpr ⟨lw_p22, List.forall_mem_cons.mpr ⟨lw_p23, List.forall_mem_cons.mpr ⟨lw_p24, List.forall_mem_cons.mpr ⟨lw_p25, List.forall_mem_cons.mpr ⟨lw_p26, List.forall_mem_cons.mpr ⟨lw_p27, List.forall_mem_cons.mpr ⟨lw_p28, List.forall_mem_cons.mpr ⟨lw_p29, List.forall_mem_cons.mpr ⟨lw_p30, List.forall_mem_cons.mpr ⟨lw_p31, fun _ h => absurd h List.not_mem_nil⟩⟩⟩⟩⟩⟩⟩⟩⟩⟩⟩⟩⟩⟩⟩⟩
theorem lw_p32 : lw_okq (⟨"HartDesk$Controls", "write", "(II)V"⟩, 9) := ⟨⟨by decide +kernel, by decide +kernel⟩, List.mem_of_getElem? (i := 34) (by decide +kernel), List.mem_of_getElem? (i := 422) (by decide +kernel), List.mem_of_getElem? (i := 423) (by decide +kernel)⟩
theorem lw_p33 : lw_okq (⟨"HartDeskModel", "raise", "(I)I"⟩, 15) := ⟨⟨by decide +kernel, by decide +kernel⟩, List.mem_of_getElem? (i := 466) (by decide +kernel), List.mem_of_getElem? (i := 541) (by decide +kernel), List.mem_of_getElem? (i := 542) (by decide +kernel)⟩
theorem lw_p34 : lw_okq (⟨"HartDeskModel", "step", "()V"⟩, 15) := ⟨⟨by decide +kernel, by decide +kernel⟩, List.mem_of_getElem? (i := 466) (by decide +kernel), List.mem_of_getElem? (i := 546) (by decide +kernel), List.mem_of_getElem? (i := 547) (by decide +kernel)⟩
theorem lw_p35 : lw_okq (⟨"HartDeskModel", "trap", "(II)V"⟩, 15) := ⟨⟨by decide +kernel, by decide +kernel⟩, List.mem_of_getElem? (i := 466) (by decide +kernel), List.mem_of_getElem? (i := 551) (by decide +kernel), List.mem_of_getElem? (i := 552) (by decide +kernel)⟩
theorem lw_p36 : lw_okq (⟨"HartDeskModel", "instruct", "()V"⟩, 15) := ⟨⟨by decide +kernel, by decide +kernel⟩, List.mem_of_getElem? (i := 466) (by decide +kernel), List.mem_of_getElem? (i := 555) (by decide +kernel), List.mem_of_getElem? (i := 556) (by decide +kernel)⟩
theorem lw_p37 : lw_okq (⟨"HartDeskModel", "bits", "(II)I"⟩, 15) := ⟨⟨by decide +kernel, by decide +kernel⟩, List.mem_of_getElem? (i := 466) (by decide +kernel), List.mem_of_getElem? (i := 559) (by decide +kernel), List.mem_of_getElem? (i := 560) (by decide +kernel)⟩
theorem lw_p38 : lw_okq (⟨"HartDeskModel", "numberU", "()I"⟩, 15) := ⟨⟨by decide +kernel, by decide +kernel⟩, List.mem_of_getElem? (i := 466) (by decide +kernel), List.mem_of_getElem? (i := 563) (by decide +kernel), List.mem_of_getElem? (i := 564) (by decide +kernel)⟩
theorem lw_p39 : lw_okq (⟨"HartDeskModel", "lay", "(I)V"⟩, 15) := ⟨⟨by decide +kernel, by decide +kernel⟩, List.mem_of_getElem? (i := 466) (by decide +kernel), List.mem_of_getElem? (i := 567) (by decide +kernel), List.mem_of_getElem? (i := 568) (by decide +kernel)⟩
theorem lw_p40 : lw_okq (⟨"HartDeskModel", "numberJ", "()I"⟩, 15) := ⟨⟨by decide +kernel, by decide +kernel⟩, List.mem_of_getElem? (i := 466) (by decide +kernel), List.mem_of_getElem? (i := 571) (by decide +kernel), List.mem_of_getElem? (i := 572) (by decide +kernel)⟩
theorem lw_p41 : lw_okq (⟨"HartDeskModel", "jump", "(I)V"⟩, 15) := ⟨⟨by decide +kernel, by decide +kernel⟩, List.mem_of_getElem? (i := 466) (by decide +kernel), List.mem_of_getElem? (i := 575) (by decide +kernel), List.mem_of_getElem? (i := 576) (by decide +kernel)⟩
theorem lw_p42 : lw_okq (⟨"HartDeskModel", "goes", "(I)Z"⟩, 15) := ⟨⟨by decide +kernel, by decide +kernel⟩, List.mem_of_getElem? (i := 466) (by decide +kernel), List.mem_of_getElem? (i := 579) (by decide +kernel), List.mem_of_getElem? (i := 580) (by decide +kernel)⟩
theorem lw_p43 : lw_okq (⟨"HartDeskModel", "none", "()V"⟩, 15) := ⟨⟨by decide +kernel, by decide +kernel⟩, List.mem_of_getElem? (i := 466) (by decide +kernel), List.mem_of_getElem? (i := 583) (by decide +kernel), List.mem_of_getElem? (i := 584) (by decide +kernel)⟩
theorem lw_p44 : lw_okq (⟨"HartDeskModel", "a", "()I"⟩, 15) := ⟨⟨by decide +kernel, by decide +kernel⟩, List.mem_of_getElem? (i := 466) (by decide +kernel), List.mem_of_getElem? (i := 587) (by decide +kernel), List.mem_of_getElem? (i := 588) (by decide +kernel)⟩
theorem lw_p45 : lw_okq (⟨"HartDeskModel", "numberI", "()I"⟩, 15) := ⟨⟨by decide +kernel, by decide +kernel⟩, List.mem_of_getElem? (i := 466) (by decide +kernel), List.mem_of_getElem? (i := 591) (by decide +kernel), List.mem_of_getElem? (i := 592) (by decide +kernel)⟩
theorem lw_p46 : lw_okq (⟨"HartDeskModel", "branch", "()V"⟩, 15) := ⟨⟨by decide +kernel, by decide +kernel⟩, List.mem_of_getElem? (i := 466) (by decide +kernel), List.mem_of_getElem? (i := 595) (by decide +kernel), List.mem_of_getElem? (i := 596) (by decide +kernel)⟩
theorem lw_p47 : lw_okq (⟨"HartDeskModel", "b", "()I"⟩, 15) := ⟨⟨by decide +kernel, by decide +kernel⟩, List.mem_of_getElem? (i := 466) (by decide +kernel), List.mem_of_getElem? (i := 599) (by decide +kernel), List.mem_of_getElem? (i := 600) (by decide +kernel)⟩
def lw_privs_3 : List (MethodName × Nat) := [(⟨"HartDesk$Controls", "write", "(II)V"⟩, 9), (⟨"HartDeskModel", "raise", "(I)I"⟩, 15), (⟨"HartDeskModel", "step", "()V"⟩, 15), (⟨"HartDeskModel", "trap", "(II)V"⟩, 15), (⟨"HartDeskModel", "instruct", "()V"⟩, 15), (⟨"HartDeskModel", "bits", "(II)I"⟩, 15), (⟨"HartDeskModel", "numberU", "()I"⟩, 15), (⟨"HartDeskModel", "lay", "(I)V"⟩, 15), (⟨"HartDeskModel", "numberJ", "()I"⟩, 15), (⟨"HartDeskModel", "jump", "(I)V"⟩, 15), (⟨"HartDeskModel", "goes", "(I)Z"⟩, 15), (⟨"HartDeskModel", "none", "()V"⟩, 15), (⟨"HartDeskModel", "a", "()I"⟩, 15), (⟨"HartDeskModel", "numberI", "()I"⟩, 15), (⟨"HartDeskModel", "branch", "()V"⟩, 15), (⟨"HartDeskModel", "b", "()I"⟩, 15)]
theorem lw_r3 : ∀ q ∈ lw_privs_3, lw_okq q := List.forall_mem_cons.mpr ⟨lw_p32, List.forall_mem_cons.mpr ⟨lw_p33, List.forall_mem_cons.mpr ⟨lw_p34, List.forall_mem_cons.mpr ⟨lw_p35, List.forall_mem_cons.mpr ⟨lw_p36, List.forall_mem_cons.mpr ⟨lw_p37, List.forall_mem_cons.mpr ⟨lw_p38, List.forall_mem_cons.mpr ⟨lw_p39, List.forall_mem_cons.mpr ⟨lw_p40, List.forall_mem_cons.mpr ⟨lw_p41, List.forall_mem_cons.mpr ⟨lw_p42, List.forall_mem_cons.mpr ⟨lw_p43, List.forall_mem_cons.mpr ⟨lw_p44, List.forall_mem_cons.mpr ⟨lw_p45, List.forall_mem_cons.mpr ⟨lw_p46, List.forall_mem_cons.mpr ⟨lw_p47, fun _ h => absurd h List.not_mem_nil⟩⟩⟩⟩⟩⟩⟩⟩⟩⟩⟩⟩⟩⟩⟩⟩
theorem lw_p48 : lw_okq (⟨"HartDeskModel", "numberB", "()I"⟩, 15) := ⟨⟨by decide +kernel, by decide +kernel⟩, List.mem_of_getElem? (i := 466) (by decide +kernel), List.mem_of_getElem? (i := 607) (by decide +kernel), List.mem_of_getElem? (i := 608) (by decide +kernel)⟩
theorem lw_p49 : lw_okq (⟨"HartDeskModel", "load", "()V"⟩, 15) := ⟨⟨by decide +kernel, by decide +kernel⟩, List.mem_of_getElem? (i := 466) (by decide +kernel), List.mem_of_getElem? (i := 611) (by decide +kernel), List.mem_of_getElem? (i := 612) (by decide +kernel)⟩
theorem lw_p50 : lw_okq (⟨"HartDeskModel", "may", "(IIII)Z"⟩, 15) := ⟨⟨by decide +kernel, by decide +kernel⟩, List.mem_of_getElem? (i := 466) (by decide +kernel), List.mem_of_getElem? (i := 615) (by decide +kernel), List.mem_of_getElem? (i := 616) (by decide +kernel)⟩
theorem lw_p51 : lw_okq (⟨"HartDeskModel", "store", "()V"⟩, 15) := ⟨⟨by decide +kernel, by decide +kernel⟩, List.mem_of_getElem? (i := 466) (by decide +kernel), List.mem_of_getElem? (i := 620) (by decide +kernel), List.mem_of_getElem? (i := 621) (by decide +kernel)⟩
theorem lw_p52 : lw_okq (⟨"HartDeskModel", "numberS", "()I"⟩, 15) := ⟨⟨by decide +kernel, by decide +kernel⟩, List.mem_of_getElem? (i := 466) (by decide +kernel), List.mem_of_getElem? (i := 624) (by decide +kernel), List.mem_of_getElem? (i := 625) (by decide +kernel)⟩
theorem lw_p53 : lw_okq (⟨"HartDeskModel", "withNumber", "()V"⟩, 15) := ⟨⟨by decide +kernel, by decide +kernel⟩, List.mem_of_getElem? (i := 466) (by decide +kernel), List.mem_of_getElem? (i := 628) (by decide +kernel), List.mem_of_getElem? (i := 629) (by decide +kernel)⟩
theorem lw_p54 : lw_okq (⟨"HartDeskModel", "withRegister", "()V"⟩, 15) := ⟨⟨by decide +kernel, by decide +kernel⟩, List.mem_of_getElem? (i := 466) (by decide +kernel), List.mem_of_getElem? (i := 632) (by decide +kernel), List.mem_of_getElem? (i := 633) (by decide +kernel)⟩
theorem lw_p55 : lw_okq (⟨"HartDeskModel", "product", "(III)V"⟩, 15) := ⟨⟨by decide +kernel, by decide +kernel⟩, List.mem_of_getElem? (i := 466) (by decide +kernel), List.mem_of_getElem? (i := 636) (by decide +kernel), List.mem_of_getElem? (i := 637) (by decide +kernel)⟩
theorem lw_p56 : lw_okq (⟨"HartDeskModel", "system", "()V"⟩, 15) := ⟨⟨by decide +kernel, by decide +kernel⟩, List.mem_of_getElem? (i := 466) (by decide +kernel), List.mem_of_getElem? (i := 646) (by decide +kernel), List.mem_of_getElem? (i := 647) (by decide +kernel)⟩
theorem lw_p57 : lw_okq (⟨"HartDeskModel", "change", "()V"⟩, 15) := ⟨⟨by decide +kernel, by decide +kernel⟩, List.mem_of_getElem? (i := 466) (by decide +kernel), List.mem_of_getElem? (i := 652) (by decide +kernel), List.mem_of_getElem? (i := 653) (by decide +kernel)⟩
theorem lw_p58 : lw_okq (⟨"HartDeskModel", "has", "(I)I"⟩, 15) := ⟨⟨by decide +kernel, by decide +kernel⟩, List.mem_of_getElem? (i := 466) (by decide +kernel), List.mem_of_getElem? (i := 659) (by decide +kernel), List.mem_of_getElem? (i := 660) (by decide +kernel)⟩
theorem lw_p59 : lw_okq (⟨"HartDeskModel", "become", "(II)V"⟩, 15) := ⟨⟨by decide +kernel, by decide +kernel⟩, List.mem_of_getElem? (i := 466) (by decide +kernel), List.mem_of_getElem? (i := 663) (by decide +kernel), List.mem_of_getElem? (i := 664) (by decide +kernel)⟩
def lw_privs_4 : List (MethodName × Nat) := [(⟨"HartDeskModel", "numberB", "()I"⟩, 15), (⟨"HartDeskModel", "load", "()V"⟩, 15), (⟨"HartDeskModel", "may", "(IIII)Z"⟩, 15), (⟨"HartDeskModel", "store", "()V"⟩, 15), (⟨"HartDeskModel", "numberS", "()I"⟩, 15), (⟨"HartDeskModel", "withNumber", "()V"⟩, 15), (⟨"HartDeskModel", "withRegister", "()V"⟩, 15), (⟨"HartDeskModel", "product", "(III)V"⟩, 15), (⟨"HartDeskModel", "system", "()V"⟩, 15), (⟨"HartDeskModel", "change", "()V"⟩, 15), (⟨"HartDeskModel", "has", "(I)I"⟩, 15), (⟨"HartDeskModel", "become", "(II)V"⟩, 15)]
theorem lw_r4 : ∀ q ∈ lw_privs_4, lw_okq q := List.forall_mem_cons.mpr ⟨lw_p48, List.forall_mem_cons.mpr ⟨lw_p49, List.forall_mem_cons.mpr ⟨lw_p50, List.forall_mem_cons.mpr ⟨lw_p51, List.forall_mem_cons.mpr ⟨lw_p52, List.forall_mem_cons.mpr ⟨lw_p53, List.forall_mem_cons.mpr ⟨lw_p54, List.forall_mem_cons.mpr ⟨lw_p55, List.forall_mem_cons.mpr ⟨lw_p56, List.forall_mem_cons.mpr ⟨lw_p57, List.forall_mem_cons.mpr ⟨lw_p58, List.forall_mem_cons.mpr ⟨lw_p59, fun _ h => absurd h List.not_mem_nil⟩⟩⟩⟩⟩⟩⟩⟩⟩⟩⟩⟩
def lw_privs : List (MethodName × Nat) := lw_privs_1 ++ (lw_privs_2 ++ (lw_privs_3 ++ (lw_privs_4)))
def lw_tbl : List Cond := k2_sels lw_privs ++ tables_1
theorem lw_privs_ok : ∀ q ∈ lw_privs, lw_okq q := by
  show ∀ q ∈ lw_privs_1 ++ (lw_privs_2 ++ (lw_privs_3 ++ (lw_privs_4))), lw_okq q
  exact List.forall_mem_append.mpr ⟨lw_r1, List.forall_mem_append.mpr ⟨lw_r2, List.forall_mem_append.mpr ⟨lw_r3, lw_r4⟩⟩⟩
/-! the good words of the tables: every method's words are its code and these -/
def BIG : List Cond := lw_tbl.filter goodWord
theorem big_of {w : Cond} (h : w ∈ lw_tbl) (g : goodWord w = true) : w ∈ BIG := List.mem_filter.mpr ⟨h, g⟩
theorem big_tbl {w : Cond} (h : w ∈ BIG) : w ∈ lw_tbl := (List.mem_filter.mp h).1
theorem tbl_t1 {i : Nat} {w : Cond} (h : tables_1_1[i]? = some w) : w ∈ lw_tbl := List.mem_append_right _ (List.mem_append_left _ (List.mem_of_getElem? h))
theorem big_t1 {i : Nat} {w : Cond} (h : tables_1_1[i]? = some w) (g : goodWord w = true) : w ∈ BIG := big_of (tbl_t1 h) g
theorem tbl_t2 {i : Nat} {w : Cond} (h : tables_1_2[i]? = some w) : w ∈ lw_tbl := List.mem_append_right _ (List.mem_append_right _ (List.mem_append_left _ (List.mem_of_getElem? h)))
theorem big_t2 {i : Nat} {w : Cond} (h : tables_1_2[i]? = some w) (g : goodWord w = true) : w ∈ BIG := big_of (tbl_t2 h) g
theorem tbl_t3 {i : Nat} {w : Cond} (h : tables_1_3[i]? = some w) : w ∈ lw_tbl := List.mem_append_right _ (List.mem_append_right _ (List.mem_append_right _ (List.mem_of_getElem? h)))
theorem big_t3 {i : Nat} {w : Cond} (h : tables_1_3[i]? = some w) (g : goodWord w = true) : w ∈ BIG := big_of (tbl_t3 h) g
theorem big_s {i : Nat} {w : Cond} (h : (k2_sels lw_privs)[i]? = some w) (g : goodWord w = true) : w ∈ BIG := big_of (List.mem_append_left _ (List.mem_of_getElem? h)) g
theorem good_in {ws : List Cond} (h : ∀ w ∈ ws, w ∈ BIG) : GoodIn BIG ws := fun w hw => ⟨h w hw, good_of_word (List.mem_filter.mp (h w hw)).2⟩
theorem in_c {w : Cond} {ws : List Cond} (a : w ∈ BIG) (b : ∀ v ∈ ws, v ∈ BIG) : ∀ v ∈ w :: ws, v ∈ BIG := List.forall_mem_cons.mpr ⟨a, b⟩
theorem gV {own C : String} {idx : Nat} {y : MethodName} {ws : List Cond} (a : Cond.methodLink own idx y ∈ BIG) (b : Cond.instanceMethod y ∈ BIG) (c : Cond.selects C y y ∈ BIG) (d : Cond.initialized C ∈ BIG) (w : ∀ v ∈ ws, v ∈ BIG) : GoodIn BIG (wsV own idx C y ws) := good_in (in_c a (in_c b (in_c c (in_c d w))))
theorem gS {own : String} {idx : Nat} {y : MethodName} {ws : List Cond} (a : Cond.methodLink own idx y ∈ BIG) (b : Cond.static y ∈ BIG) (d : Cond.initialized y.cls ∈ BIG) (w : ∀ v ∈ ws, v ∈ BIG) : GoodIn BIG (va_wsS own idx y ws) := good_in (in_c a (in_c b (in_c d w)))
def RX0 : String := "HartDesk$Arithmetic"
def RX1 : String := "HartDesk$Code"
def RX2 : String := "HartDesk$Controls"
def RX3 : String := "HartDesk$Memory"
def RX4 : String := "HartDesk"
def RX5 : String := "HartDeskModel"
def RJ7 : String := "java/util/Arrays"
def RL : String := "HartDeskLaw"
def TX2 : u_T := fun k => match k with
  | 0 => ("HartDesk$Controls", "status", "I", false)
  | 1 => ("HartDesk$Controls", "enabled", "I", false)
  | 2 => ("HartDesk$Controls", "vector", "I", false)
  | 3 => ("HartDesk$Controls", "scratch", "I", false)
  | 4 => ("HartDesk$Controls", "back", "I", false)
  | 5 => ("HartDesk$Controls", "cause", "I", false)
  | 6 => ("HartDesk$Controls", "value", "I", false)
  | 7 => ("HartDesk$Controls", "done", "I", false)
  | _ => ("HartDesk$Controls", "lineUp", "Z", false)
def tyX2 : Nat → FieldType := fun k => match k with
  | 0 => .int
  | 1 => .int
  | 2 => .int
  | 3 => .int
  | 4 => .int
  | 5 => .int
  | 6 => .int
  | 7 => .int
  | _ => .boolean
theorem nmX2 : ∀ a, a < 9 → ∀ b, b < 9 → a ≠ b → (TX2 a).2.1 ≠ (TX2 b).2.1 := by decide +kernel
theorem tyX2_ok : ∀ k, k < 9 → parseFieldDescriptor (TX2 k).2.2.1 = some (tyX2 k) := by decide +kernel
def TX3 : u_T := fun k => match k with
  | _ => ("HartDesk$Memory", "words", "[I", true)
def tyX3 : Nat → FieldType := fun k => match k with
  | _ => .array .int
theorem nmX3 : ∀ a, a < 1 → ∀ b, b < 1 → a ≠ b → (TX3 a).2.1 ≠ (TX3 b).2.1 := by decide +kernel
theorem tyX3_ok : ∀ k, k < 1 → parseFieldDescriptor (TX3 k).2.2.1 = some (tyX3 k) := by decide +kernel
def TX4 : u_T := fun k => match k with
  | 0 => ("HartDesk", "memory", "LHartDesk$Memory;", true)
  | 1 => ("HartDesk", "controls", "LHartDesk$Controls;", true)
  | 2 => ("HartDesk", "registers", "[I", true)
  | 3 => ("HartDesk", "pc", "I", false)
  | 4 => ("HartDesk", "stopped", "Z", false)
  | 5 => ("HartDesk", "stepsInAll", "I", false)
  | _ => ("HartDesk", "traps", "I", false)
def tyX4 : Nat → FieldType := fun k => match k with
  | 0 => .object "HartDesk$Memory"
  | 1 => .object "HartDesk$Controls"
  | 2 => .array .int
  | 3 => .int
  | 4 => .boolean
  | 5 => .int
  | _ => .int
theorem nmX4 : ∀ a, a < 7 → ∀ b, b < 7 → a ≠ b → (TX4 a).2.1 ≠ (TX4 b).2.1 := by decide +kernel
theorem tyX4_ok : ∀ k, k < 7 → parseFieldDescriptor (TX4 k).2.2.1 = some (tyX4 k) := by decide +kernel
def TX5 : u_T := fun k => match k with
  | 0 => ("HartDeskModel", "thrown", "I", false)
  | 1 => ("HartDeskModel", "memory", "[I", true)
  | 2 => ("HartDeskModel", "registers", "[I", true)
  | 3 => ("HartDeskModel", "pc", "I", false)
  | 4 => ("HartDeskModel", "controls", "[I", true)
  | 5 => ("HartDeskModel", "line", "Z", false)
  | 6 => ("HartDeskModel", "stopped", "Z", false)
  | 7 => ("HartDeskModel", "steps", "I", false)
  | 8 => ("HartDeskModel", "done", "I", false)
  | 9 => ("HartDeskModel", "traps", "I", false)
  | 10 => ("HartDeskModel", "word", "I", false)
  | 11 => ("HartDeskModel", "trapped", "Z", false)
  | 12 => ("HartDeskModel", "cause", "I", false)
  | 13 => ("HartDeskModel", "why", "I", false)
  | _ => ("HartDeskModel", "next", "I", false)
def tyX5 : Nat → FieldType := fun k => match k with
  | 0 => .int
  | 1 => .array .int
  | 2 => .array .int
  | 3 => .int
  | 4 => .array .int
  | 5 => .boolean
  | 6 => .boolean
  | 7 => .int
  | 8 => .int
  | 9 => .int
  | 10 => .int
  | 11 => .boolean
  | 12 => .int
  | 13 => .int
  | _ => .int
theorem nmX5 : ∀ a, a < 15 → ∀ b, b < 15 → a ≠ b → (TX5 a).2.1 ≠ (TX5 b).2.1 := by decide +kernel
theorem tyX5_ok : ∀ k, k < 15 → parseFieldDescriptor (TX5 k).2.2.1 = some (tyX5 k) := by decide +kernel
abbrev vwCl : List vw_C := [(RX2, TX2, 9), (RX3, TX3, 1), (RX4, TX4, 7), (RX5, TX5, 15)]
abbrev cX4_init : ByteArray := prog_1_method_1_code
def yX4_init : MethodName := ⟨RX4, "<init>", "()V"⟩
abbrev cX3_init : ByteArray := prog_5_method_1_code
def yX3_init : MethodName := ⟨RX3, "<init>", "()V"⟩
abbrev cX2_init : ByteArray := prog_4_method_1_code
def yX2_init : MethodName := ⟨RX2, "<init>", "()V"⟩
abbrev cX4_set : ByteArray := prog_1_method_2_code
def yX4_set : MethodName := ⟨RX4, "set", "(II)Z"⟩
abbrev cX3_isWordAddress : ByteArray := prog_5_method_2_code
def yX3_isWordAddress : MethodName := ⟨RX3, "isWordAddress", "(I)Z"⟩
abbrev cX3_holds : ByteArray := prog_5_method_3_code
def yX3_holds : MethodName := ⟨RX3, "holds", "(I)Z"⟩
abbrev cX3_writeWord : ByteArray := prog_5_method_6_code
def yX3_writeWord : MethodName := ⟨RX3, "writeWord", "(II)V"⟩
abbrev cX4_put : ByteArray := prog_1_method_3_code
def yX4_put : MethodName := ⟨RX4, "put", "(II)Z"⟩
abbrev cX4_putPc : ByteArray := prog_1_method_11_code
def yX4_putPc : MethodName := ⟨RX4, "putPc", "(I)Z"⟩
abbrev cX4_writeRegister : ByteArray := prog_1_method_13_code
def yX4_writeRegister : MethodName := ⟨RX4, "writeRegister", "(II)V"⟩
abbrev cX4_line : ByteArray := prog_1_method_4_code
def yX4_line : MethodName := ⟨RX4, "line", "(Z)V"⟩
abbrev cX4_reset : ByteArray := prog_1_method_6_code
def yX4_reset : MethodName := ⟨RX4, "reset", "(Z)V"⟩
abbrev cJ7_fill : ByteArray := prog_14_method_103_code
def yJ7_fill : MethodName := ⟨RJ7, "fill", "([II)V"⟩
abbrev cX2_clear : ByteArray := prog_4_method_9_code
def yX2_clear : MethodName := ⟨RX2, "clear", "()V"⟩
abbrev cX3_clear : ByteArray := prog_5_method_11_code
def yX3_clear : MethodName := ⟨RX3, "clear", "()V"⟩
abbrev cX4_state : ByteArray := prog_1_method_10_code
def yX4_state : MethodName := ⟨RX4, "state", "(I)I"⟩
abbrev cL_run : ByteArray := method_3_code
def yL_run : MethodName := ⟨RL, "run", "(LHartDesk;I[J)I"⟩
abbrev cX4_run : ByteArray := prog_1_method_5_code
def yX4_run : MethodName := ⟨RX4, "run", "(I)I"⟩
abbrev cX4_refuseBeyondLimit : ByteArray := prog_1_method_14_code
def yX4_refuseBeyondLimit : MethodName := ⟨RX4, "refuseBeyondLimit", "()V"⟩
abbrev cX4_step : ByteArray := prog_1_method_15_code
def yX4_step : MethodName := ⟨RX4, "step", "()V"⟩
abbrev cX2_isInterrupted : ByteArray := prog_4_method_6_code
def yX2_isInterrupted : MethodName := ⟨RX2, "isInterrupted", "()Z"⟩
abbrev cX4_trap : ByteArray := prog_1_method_22_code
def yX4_trap : MethodName := ⟨RX4, "trap", "(II)Z"⟩
abbrev cX2_enterTrap : ByteArray := prog_4_method_7_code
def yX2_enterTrap : MethodName := ⟨RX2, "enterTrap", "(III)V"⟩
abbrev cX3_readWord : ByteArray := prog_5_method_5_code
def yX3_readWord : MethodName := ⟨RX3, "readWord", "(I)I"⟩
abbrev cX4_execute : ByteArray := prog_1_method_16_code
def yX4_execute : MethodName := ⟨RX4, "execute", "(I)Z"⟩
abbrev cX1_op : ByteArray := prog_3_method_2_code
def yX1_op : MethodName := ⟨RX1, "op", "(I)I"⟩
abbrev cX1_numberU : ByteArray := prog_3_method_13_code
def yX1_numberU : MethodName := ⟨RX1, "numberU", "(I)I"⟩
abbrev cX4_goOnWith : ByteArray := prog_1_method_20_code
def yX4_goOnWith : MethodName := ⟨RX4, "goOnWith", "(II)Z"⟩
abbrev cX1_d : ByteArray := prog_3_method_3_code
def yX1_d : MethodName := ⟨RX1, "d", "(I)I"⟩
abbrev cX4_goOn : ByteArray := prog_1_method_19_code
def yX4_goOn : MethodName := ⟨RX4, "goOn", "()Z"⟩
abbrev cX1_numberJ : ByteArray := prog_3_method_12_code
def yX1_numberJ : MethodName := ⟨RX1, "numberJ", "(I)I"⟩
abbrev cX4_jump : ByteArray := prog_1_method_23_code
def yX4_jump : MethodName := ⟨RX4, "jump", "(II)Z"⟩
abbrev cX4_jumpByRegister : ByteArray := prog_1_method_24_code
def yX4_jumpByRegister : MethodName := ⟨RX4, "jumpByRegister", "(I)Z"⟩
abbrev cX1_f : ByteArray := prog_3_method_4_code
def yX1_f : MethodName := ⟨RX1, "f", "(I)I"⟩
abbrev cX4_unknown : ByteArray := prog_1_method_21_code
def yX4_unknown : MethodName := ⟨RX4, "unknown", "(I)Z"⟩
abbrev cX4_valueA : ByteArray := prog_1_method_17_code
def yX4_valueA : MethodName := ⟨RX4, "valueA", "(I)I"⟩
abbrev cX1_a : ByteArray := prog_3_method_5_code
def yX1_a : MethodName := ⟨RX1, "a", "(I)I"⟩
abbrev cX4_readRegister : ByteArray := prog_1_method_12_code
def yX4_readRegister : MethodName := ⟨RX4, "readRegister", "(I)I"⟩
abbrev cX1_numberI : ByteArray := prog_3_method_9_code
def yX1_numberI : MethodName := ⟨RX1, "numberI", "(I)I"⟩
abbrev cX4_branch : ByteArray := prog_1_method_25_code
def yX4_branch : MethodName := ⟨RX4, "branch", "(I)Z"⟩
abbrev cX4_valueB : ByteArray := prog_1_method_18_code
def yX4_valueB : MethodName := ⟨RX4, "valueB", "(I)I"⟩
abbrev cX1_b : ByteArray := prog_3_method_6_code
def yX1_b : MethodName := ⟨RX1, "b", "(I)I"⟩
abbrev cX0_holds : ByteArray := prog_2_method_3_code
def yX0_holds : MethodName := ⟨RX0, "holds", "(III)Z"⟩
abbrev cX0_isBelow : ByteArray := prog_2_method_2_code
def yX0_isBelow : MethodName := ⟨RX0, "isBelow", "(II)Z"⟩
abbrev cX1_numberB : ByteArray := prog_3_method_11_code
def yX1_numberB : MethodName := ⟨RX1, "numberB", "(I)I"⟩
abbrev cX4_load : ByteArray := prog_1_method_26_code
def yX4_load : MethodName := ⟨RX4, "load", "(I)Z"⟩
abbrev cX3_isBy : ByteArray := prog_5_method_4_code
def yX3_isBy : MethodName := ⟨RX3, "isBy", "(II)Z"⟩
abbrev cX3_readPart : ByteArray := prog_5_method_7_code
def yX3_readPart : MethodName := ⟨RX3, "readPart", "(II)I"⟩
abbrev cX3_shift : ByteArray := prog_5_method_9_code
def yX3_shift : MethodName := ⟨RX3, "shift", "(I)I"⟩
abbrev cX4_store : ByteArray := prog_1_method_27_code
def yX4_store : MethodName := ⟨RX4, "store", "(I)Z"⟩
abbrev cX1_numberS : ByteArray := prog_3_method_10_code
def yX1_numberS : MethodName := ⟨RX1, "numberS", "(I)I"⟩
abbrev cX3_writePart : ByteArray := prog_5_method_8_code
def yX3_writePart : MethodName := ⟨RX3, "writePart", "(III)V"⟩
abbrev cX3_partMask : ByteArray := prog_5_method_10_code
def yX3_partMask : MethodName := ⟨RX3, "partMask", "(I)I"⟩
abbrev cX4_computeWithNumber : ByteArray := prog_1_method_28_code
def yX4_computeWithNumber : MethodName := ⟨RX4, "computeWithNumber", "(I)Z"⟩
abbrev cX1_s : ByteArray := prog_3_method_7_code
def yX1_s : MethodName := ⟨RX1, "s", "(I)I"⟩
abbrev cX0_basic : ByteArray := prog_2_method_4_code
def yX0_basic : MethodName := ⟨RX0, "basic", "(III)I"⟩
abbrev cX4_computeWithRegister : ByteArray := prog_1_method_29_code
def yX4_computeWithRegister : MethodName := ⟨RX4, "computeWithRegister", "(I)Z"⟩
abbrev cX0_productOrQuotient : ByteArray := prog_2_method_5_code
def yX0_productOrQuotient : MethodName := ⟨RX0, "productOrQuotient", "(III)I"⟩
abbrev cX0_quotient : ByteArray := prog_2_method_6_code
def yX0_quotient : MethodName := ⟨RX0, "quotient", "(JJ)I"⟩
abbrev cX0_rest : ByteArray := prog_2_method_7_code
def yX0_rest : MethodName := ⟨RX0, "rest", "(JJ)I"⟩
abbrev cX4_callSystem : ByteArray := prog_1_method_30_code
def yX4_callSystem : MethodName := ⟨RX4, "callSystem", "(I)Z"⟩
abbrev cX2_leaveTrap : ByteArray := prog_4_method_8_code
def yX2_leaveTrap : MethodName := ⟨RX2, "leaveTrap", "()I"⟩
abbrev cX4_exchangeControl : ByteArray := prog_1_method_31_code
def yX4_exchangeControl : MethodName := ⟨RX4, "exchangeControl", "(I)Z"⟩
abbrev cX1_controlNumber : ByteArray := prog_3_method_8_code
def yX1_controlNumber : MethodName := ⟨RX1, "controlNumber", "(I)I"⟩
abbrev cX2_isWritable : ByteArray := prog_4_method_3_code
def yX2_isWritable : MethodName := ⟨RX2, "isWritable", "(I)Z"⟩
abbrev cX2_isKnown : ByteArray := prog_4_method_2_code
def yX2_isKnown : MethodName := ⟨RX2, "isKnown", "(I)Z"⟩
abbrev cX2_read : ByteArray := prog_4_method_4_code
def yX2_read : MethodName := ⟨RX2, "read", "(I)I"⟩
abbrev cX0_exchanged : ByteArray := prog_2_method_8_code
def yX0_exchanged : MethodName := ⟨RX0, "exchanged", "(III)I"⟩
abbrev cX2_write : ByteArray := prog_4_method_5_code
def yX2_write : MethodName := ⟨RX2, "write", "(II)V"⟩
abbrev cL_register : ByteArray := method_4_code
def yL_register : MethodName := ⟨RL, "register", "(LHartDesk;I[J)I"⟩
abbrev cX4_register : ByteArray := prog_1_method_7_code
def yX4_register : MethodName := ⟨RX4, "register", "(I)I"⟩
abbrev cL_control : ByteArray := method_5_code
def yL_control : MethodName := ⟨RL, "control", "(LHartDesk;I[J)I"⟩
abbrev cX4_control : ByteArray := prog_1_method_8_code
def yX4_control : MethodName := ⟨RX4, "control", "(I)I"⟩
abbrev cL_word : ByteArray := method_6_code
def yL_word : MethodName := ⟨RL, "word", "(LHartDesk;I[J)I"⟩
abbrev cX4_word : ByteArray := prog_1_method_9_code
def yX4_word : MethodName := ⟨RX4, "word", "(I)I"⟩
abbrev cX5_init : ByteArray := prog_7_method_1_code
def yX5_init : MethodName := ⟨RX5, "<init>", "()V"⟩
abbrev cX5_thrown : ByteArray := prog_7_method_2_code
def yX5_thrown : MethodName := ⟨RX5, "thrown", "()I"⟩
abbrev cX5_set : ByteArray := prog_7_method_5_code
def yX5_set : MethodName := ⟨RX5, "set", "(II)Z"⟩
abbrev cX5_isAddress : ByteArray := prog_7_method_4_code
def yX5_isAddress : MethodName := ⟨RX5, "isAddress", "(I)Z"⟩
abbrev cX5_put : ByteArray := prog_7_method_6_code
def yX5_put : MethodName := ⟨RX5, "put", "(II)Z"⟩
abbrev cX5_line : ByteArray := prog_7_method_7_code
def yX5_line : MethodName := ⟨RX5, "line", "(Z)V"⟩
abbrev cX5_run : ByteArray := prog_7_method_38_code
def yX5_run : MethodName := ⟨RX5, "run", "(I)I"⟩
abbrev cX5_raise : ByteArray := prog_7_method_3_code
def yX5_raise : MethodName := ⟨RX5, "raise", "(I)I"⟩
abbrev cX5_step : ByteArray := prog_7_method_37_code
def yX5_step : MethodName := ⟨RX5, "step", "()V"⟩
abbrev cX5_trap : ByteArray := prog_7_method_17_code
def yX5_trap : MethodName := ⟨RX5, "trap", "(II)V"⟩
abbrev cX5_instruct : ByteArray := prog_7_method_36_code
def yX5_instruct : MethodName := ⟨RX5, "instruct", "()V"⟩
abbrev cX5_bits : ByteArray := prog_7_method_8_code
def yX5_bits : MethodName := ⟨RX5, "bits", "(II)I"⟩
abbrev cX5_numberU : ByteArray := prog_7_method_15_code
def yX5_numberU : MethodName := ⟨RX5, "numberU", "()I"⟩
abbrev cX5_lay : ByteArray := prog_7_method_19_code
def yX5_lay : MethodName := ⟨RX5, "lay", "(I)V"⟩
abbrev cX5_numberJ : ByteArray := prog_7_method_14_code
def yX5_numberJ : MethodName := ⟨RX5, "numberJ", "()I"⟩
abbrev cX5_jump : ByteArray := prog_7_method_21_code
def yX5_jump : MethodName := ⟨RX5, "jump", "(I)V"⟩
abbrev cX5_goes : ByteArray := prog_7_method_20_code
def yX5_goes : MethodName := ⟨RX5, "goes", "(I)Z"⟩
abbrev cX5_none : ByteArray := prog_7_method_18_code
def yX5_none : MethodName := ⟨RX5, "none", "()V"⟩
abbrev cX5_a : ByteArray := prog_7_method_9_code
def yX5_a : MethodName := ⟨RX5, "a", "()I"⟩
abbrev cX5_numberI : ByteArray := prog_7_method_11_code
def yX5_numberI : MethodName := ⟨RX5, "numberI", "()I"⟩
abbrev cX5_branch : ByteArray := prog_7_method_22_code
def yX5_branch : MethodName := ⟨RX5, "branch", "()V"⟩
abbrev cX5_b : ByteArray := prog_7_method_10_code
def yX5_b : MethodName := ⟨RX5, "b", "()I"⟩
abbrev cX5_isBelow : ByteArray := prog_7_method_16_code
def yX5_isBelow : MethodName := ⟨RX5, "isBelow", "(II)Z"⟩
abbrev cX5_numberB : ByteArray := prog_7_method_13_code
def yX5_numberB : MethodName := ⟨RX5, "numberB", "()I"⟩
abbrev cX5_load : ByteArray := prog_7_method_24_code
def yX5_load : MethodName := ⟨RX5, "load", "()V"⟩
abbrev cX5_may : ByteArray := prog_7_method_23_code
def yX5_may : MethodName := ⟨RX5, "may", "(IIII)Z"⟩
abbrev cX5_store : ByteArray := prog_7_method_25_code
def yX5_store : MethodName := ⟨RX5, "store", "()V"⟩
abbrev cX5_numberS : ByteArray := prog_7_method_12_code
def yX5_numberS : MethodName := ⟨RX5, "numberS", "()I"⟩
abbrev cX5_withNumber : ByteArray := prog_7_method_26_code
def yX5_withNumber : MethodName := ⟨RX5, "withNumber", "()V"⟩
abbrev cX5_withRegister : ByteArray := prog_7_method_27_code
def yX5_withRegister : MethodName := ⟨RX5, "withRegister", "()V"⟩
abbrev cX5_product : ByteArray := prog_7_method_29_code
def yX5_product : MethodName := ⟨RX5, "product", "(III)V"⟩
abbrev cX5_upper : ByteArray := prog_7_method_28_code
def yX5_upper : MethodName := ⟨RX5, "upper", "(II)I"⟩
abbrev cX5_quotient : ByteArray := prog_7_method_30_code
def yX5_quotient : MethodName := ⟨RX5, "quotient", "(II)I"⟩
abbrev cX5_system : ByteArray := prog_7_method_35_code
def yX5_system : MethodName := ⟨RX5, "system", "()V"⟩
abbrev cX5_change : ByteArray := prog_7_method_34_code
def yX5_change : MethodName := ⟨RX5, "change", "()V"⟩
abbrev cX5_controlOf : ByteArray := prog_7_method_31_code
def yX5_controlOf : MethodName := ⟨RX5, "controlOf", "(I)I"⟩
abbrev cX5_has : ByteArray := prog_7_method_32_code
def yX5_has : MethodName := ⟨RX5, "has", "(I)I"⟩
abbrev cX5_become : ByteArray := prog_7_method_33_code
def yX5_become : MethodName := ⟨RX5, "become", "(II)V"⟩
abbrev cX5_reset : ByteArray := prog_7_method_39_code
def yX5_reset : MethodName := ⟨RX5, "reset", "(Z)V"⟩
abbrev cX5_register : ByteArray := prog_7_method_40_code
def yX5_register : MethodName := ⟨RX5, "register", "(I)I"⟩
abbrev cX5_control : ByteArray := prog_7_method_41_code
def yX5_control : MethodName := ⟨RX5, "control", "(I)I"⟩
abbrev cX5_word : ByteArray := prog_7_method_42_code
def yX5_word : MethodName := ⟨RX5, "word", "(I)I"⟩
abbrev cX5_state : ByteArray := prog_7_method_43_code
def yX5_state : MethodName := ⟨RX5, "state", "(I)I"⟩
end
section
set_option maxRecDepth 20000 in
theorem q_t2_120 : Cond.methodLink RX1 7 yX1_d ∈ BIG := big_t2 (i := 120) rfl rfl
set_option maxRecDepth 20000 in
theorem q_t2_38 : Cond.static yX1_d ∈ BIG := big_t2 (i := 38) rfl rfl
set_option maxRecDepth 20000 in
theorem q_t1_10 : Cond.initialized RX1 ∈ BIG := big_t1 (i := 10) rfl rfl
set_option maxRecDepth 20000 in
theorem q_t1_99 : Cond.methodLink RX3 13 yX3_holds ∈ BIG := big_t1 (i := 99) rfl rfl
set_option maxRecDepth 20000 in
theorem q_t1_100 : Cond.static yX3_holds ∈ BIG := big_t1 (i := 100) rfl rfl
set_option maxRecDepth 20000 in
theorem q_t1_2 : Cond.initialized RX3 ∈ BIG := big_t1 (i := 2) rfl rfl
set_option maxRecDepth 20000 in
theorem q_t2_112 : Cond.constant RX3 24 65535 ∈ BIG := big_t2 (i := 112) rfl rfl
set_option maxRecDepth 20000 in
theorem q_t2_173 : Cond.methodLink RX2 7 yX2_isWritable ∈ BIG := big_t2 (i := 173) rfl rfl
set_option maxRecDepth 20000 in
theorem q_t2_168 : Cond.static yX2_isWritable ∈ BIG := big_t2 (i := 168) rfl rfl
set_option maxRecDepth 20000 in
theorem q_t1_3 : Cond.initialized RX2 ∈ BIG := big_t1 (i := 3) rfl rfl
set_option maxRecDepth 20000 in
theorem q_t2_93 : Cond.constantLong RX0 9 4294967295 ∈ BIG := big_t2 (i := 93) rfl rfl
set_option maxRecDepth 20000 in
theorem q_t2_90 : Cond.methodLink RX0 11 yX0_isBelow ∈ BIG := big_t2 (i := 90) rfl rfl
set_option maxRecDepth 20000 in
theorem q_t2_91 : Cond.static yX0_isBelow ∈ BIG := big_t2 (i := 91) rfl rfl
set_option maxRecDepth 20000 in
theorem q_t1_11 : Cond.initialized RX0 ∈ BIG := big_t1 (i := 11) rfl rfl
set_option maxRecDepth 20000 in
theorem q_t2_146 : Cond.methodLink RX0 15 yX0_quotient ∈ BIG := big_t2 (i := 146) rfl rfl
set_option maxRecDepth 20000 in
theorem q_t2_147 : Cond.static yX0_quotient ∈ BIG := big_t2 (i := 147) rfl rfl
set_option maxRecDepth 20000 in
theorem q_t2_149 : Cond.methodLink RX0 19 yX0_rest ∈ BIG := big_t2 (i := 149) rfl rfl
set_option maxRecDepth 20000 in
theorem q_t2_150 : Cond.static yX0_rest ∈ BIG := big_t2 (i := 150) rfl rfl
set_option maxRecDepth 20000 in
theorem q_t1_28 : Cond.fieldLink RX3 9 "HartDesk$Memory" "words" "[I" ∈ BIG := big_t1 (i := 28) rfl rfl
set_option maxRecDepth 20000 in
theorem q_t2_108 : Cond.methodLink RX3 17 yX3_readWord ∈ BIG := big_t2 (i := 108) rfl rfl
set_option maxRecDepth 20000 in
theorem q_t2_21 : Cond.instanceMethod yX3_readWord ∈ BIG := big_t2 (i := 21) rfl rfl
set_option maxRecDepth 20000 in
theorem q_s_11 : Cond.selects RX3 yX3_readWord yX3_readWord ∈ BIG := big_s (i := 11) rfl rfl
set_option maxRecDepth 20000 in
theorem q_t2_109 : Cond.methodLink RX3 21 yX3_shift ∈ BIG := big_t2 (i := 109) rfl rfl
set_option maxRecDepth 20000 in
theorem q_t2_110 : Cond.static yX3_shift ∈ BIG := big_t2 (i := 110) rfl rfl
set_option maxRecDepth 20000 in
theorem q_t2_125 : Cond.methodLink RX3 25 yX3_partMask ∈ BIG := big_t2 (i := 125) rfl rfl
set_option maxRecDepth 20000 in
theorem q_t2_126 : Cond.static yX3_partMask ∈ BIG := big_t2 (i := 126) rfl rfl
set_option maxRecDepth 20000 in
theorem q_t2_128 : Cond.methodLink RX3 28 yX3_writeWord ∈ BIG := big_t2 (i := 128) rfl rfl
set_option maxRecDepth 20000 in
theorem q_t1_104 : Cond.instanceMethod yX3_writeWord ∈ BIG := big_t1 (i := 104) rfl rfl
set_option maxRecDepth 20000 in
theorem q_s_0 : Cond.selects RX3 yX3_writeWord yX3_writeWord ∈ BIG := big_s (i := 0) rfl rfl
set_option maxRecDepth 20000 in
theorem q_t1_39 : Cond.fieldLink RX2 13 "HartDesk$Controls" "status" "I" ∈ BIG := big_t1 (i := 39) rfl rfl
set_option maxRecDepth 20000 in
theorem q_t1_40 : Cond.fieldLink RX2 17 "HartDesk$Controls" "enabled" "I" ∈ BIG := big_t1 (i := 40) rfl rfl
set_option maxRecDepth 20000 in
theorem q_t1_41 : Cond.fieldLink RX2 20 "HartDesk$Controls" "vector" "I" ∈ BIG := big_t1 (i := 41) rfl rfl
set_option maxRecDepth 20000 in
theorem q_t1_43 : Cond.fieldLink RX2 23 "HartDesk$Controls" "scratch" "I" ∈ BIG := big_t1 (i := 43) rfl rfl
set_option maxRecDepth 20000 in
theorem q_t1_44 : Cond.fieldLink RX2 26 "HartDesk$Controls" "back" "I" ∈ BIG := big_t1 (i := 44) rfl rfl
set_option maxRecDepth 20000 in
theorem q_t1_45 : Cond.fieldLink RX2 29 "HartDesk$Controls" "cause" "I" ∈ BIG := big_t1 (i := 45) rfl rfl
set_option maxRecDepth 20000 in
theorem q_t1_46 : Cond.fieldLink RX2 32 "HartDesk$Controls" "value" "I" ∈ BIG := big_t1 (i := 46) rfl rfl
set_option maxRecDepth 20000 in
theorem q_t1_50 : Cond.fieldLink RX2 35 "HartDesk$Controls" "lineUp" "Z" ∈ BIG := big_t1 (i := 50) rfl rfl
set_option maxRecDepth 20000 in
theorem q_t1_47 : Cond.fieldLink RX2 39 "HartDesk$Controls" "done" "I" ∈ BIG := big_t1 (i := 47) rfl rfl
set_option maxRecDepth 20000 in
theorem q_t1_137 : Cond.methodLink RX3 32 yJ7_fill ∈ BIG := big_t1 (i := 137) rfl rfl
set_option maxRecDepth 20000 in
theorem q_t1_127 : Cond.static yJ7_fill ∈ BIG := big_t1 (i := 127) rfl rfl
set_option maxRecDepth 20000 in
theorem q_t1_12 : Cond.initialized RJ7 ∈ BIG := big_t1 (i := 12) rfl rfl
set_option maxRecDepth 20000 in
theorem q_t1_72 : Cond.fieldLink RX4 23 "HartDesk" "registers" "[I" ∈ BIG := big_t1 (i := 72) rfl rfl
set_option maxRecDepth 20000 in
theorem q_t2_67 : Cond.static yX1_a ∈ BIG := big_t2 (i := 67) rfl rfl
set_option maxRecDepth 20000 in
theorem q_t2_69 : Cond.methodLink RX4 83 yX4_readRegister ∈ BIG := big_t2 (i := 69) rfl rfl
set_option maxRecDepth 20000 in
theorem q_t2_71 : Cond.instanceMethod yX4_readRegister ∈ BIG := big_t2 (i := 71) rfl rfl
set_option maxRecDepth 20000 in
theorem q_s_19 : Cond.selects RX4 yX4_readRegister yX4_readRegister ∈ BIG := big_s (i := 19) rfl rfl
set_option maxRecDepth 20000 in
theorem q_t1_1 : Cond.initialized RX4 ∈ BIG := big_t1 (i := 1) rfl rfl
set_option maxRecDepth 20000 in
theorem q_t2_85 : Cond.static yX1_b ∈ BIG := big_t2 (i := 85) rfl rfl
set_option maxRecDepth 20000 in
theorem q_t1_73 : Cond.fieldLink RX4 70 "HartDesk" "pc" "I" ∈ BIG := big_t1 (i := 73) rfl rfl
set_option maxRecDepth 20000 in
theorem q_t1_114 : Cond.methodLink RX4 38 yX4_writeRegister ∈ BIG := big_t1 (i := 114) rfl rfl
set_option maxRecDepth 20000 in
theorem q_t1_116 : Cond.instanceMethod yX4_writeRegister ∈ BIG := big_t1 (i := 116) rfl rfl
set_option maxRecDepth 20000 in
theorem q_s_2 : Cond.selects RX4 yX4_writeRegister yX4_writeRegister ∈ BIG := big_s (i := 2) rfl rfl
set_option maxRecDepth 20000 in
theorem q_t2_40 : Cond.methodLink RX4 166 yX4_goOn ∈ BIG := big_t2 (i := 40) rfl rfl
set_option maxRecDepth 20000 in
theorem q_t2_42 : Cond.instanceMethod yX4_goOn ∈ BIG := big_t2 (i := 42) rfl rfl
set_option maxRecDepth 20000 in
theorem q_s_14 : Cond.selects RX4 yX4_goOn yX4_goOn ∈ BIG := big_s (i := 14) rfl rfl
set_option maxRecDepth 20000 in
theorem q_t1_76 : Cond.fieldLink RX4 74 "HartDesk" "traps" "I" ∈ BIG := big_t1 (i := 76) rfl rfl
set_option maxRecDepth 20000 in
theorem q_t1_71 : Cond.fieldLink RX4 19 "HartDesk" "controls" "LHartDesk$Controls;" ∈ BIG := big_t1 (i := 71) rfl rfl
set_option maxRecDepth 20000 in
theorem q_t2_16 : Cond.instanceMethod yX2_enterTrap ∈ BIG := big_t2 (i := 16) rfl rfl
set_option maxRecDepth 20000 in
theorem q_s_10 : Cond.selects RX2 yX2_enterTrap yX2_enterTrap ∈ BIG := big_s (i := 10) rfl rfl
set_option maxRecDepth 20000 in
theorem q_t1_74 : Cond.fieldLink RX4 55 "HartDesk" "stopped" "Z" ∈ BIG := big_t1 (i := 74) rfl rfl
set_option maxRecDepth 20000 in
theorem q_t2_10 : Cond.methodLink RX4 118 yX4_trap ∈ BIG := big_t2 (i := 10) rfl rfl
set_option maxRecDepth 20000 in
theorem q_t2_12 : Cond.instanceMethod yX4_trap ∈ BIG := big_t2 (i := 12) rfl rfl
set_option maxRecDepth 20000 in
theorem q_s_9 : Cond.selects RX4 yX4_trap yX4_trap ∈ BIG := big_s (i := 9) rfl rfl
set_option maxRecDepth 20000 in
theorem q_t2_56 : Cond.static yX1_f ∈ BIG := big_t2 (i := 56) rfl rfl
set_option maxRecDepth 20000 in
theorem q_t2_62 : Cond.methodLink RX4 194 yX4_valueA ∈ BIG := big_t2 (i := 62) rfl rfl
set_option maxRecDepth 20000 in
theorem q_t2_64 : Cond.instanceMethod yX4_valueA ∈ BIG := big_t2 (i := 64) rfl rfl
set_option maxRecDepth 20000 in
theorem q_s_18 : Cond.selects RX4 yX4_valueA yX4_valueA ∈ BIG := big_s (i := 18) rfl rfl
set_option maxRecDepth 20000 in
theorem q_t2_74 : Cond.static yX1_numberI ∈ BIG := big_t2 (i := 74) rfl rfl
set_option maxRecDepth 20000 in
theorem q_t2_47 : Cond.methodLink RX4 145 yX4_jump ∈ BIG := big_t2 (i := 47) rfl rfl
set_option maxRecDepth 20000 in
theorem q_t2_49 : Cond.instanceMethod yX4_jump ∈ BIG := big_t2 (i := 49) rfl rfl
set_option maxRecDepth 20000 in
theorem q_s_15 : Cond.selects RX4 yX4_jump yX4_jump ∈ BIG := big_s (i := 15) rfl rfl
set_option maxRecDepth 20000 in
theorem q_t2_58 : Cond.methodLink RX4 178 yX4_unknown ∈ BIG := big_t2 (i := 58) rfl rfl
set_option maxRecDepth 20000 in
theorem q_t2_60 : Cond.instanceMethod yX4_unknown ∈ BIG := big_t2 (i := 60) rfl rfl
set_option maxRecDepth 20000 in
theorem q_s_17 : Cond.selects RX4 yX4_unknown yX4_unknown ∈ BIG := big_s (i := 17) rfl rfl
set_option maxRecDepth 20000 in
theorem q_t2_80 : Cond.methodLink RX4 200 yX4_valueB ∈ BIG := big_t2 (i := 80) rfl rfl
set_option maxRecDepth 20000 in
theorem q_t2_82 : Cond.instanceMethod yX4_valueB ∈ BIG := big_t2 (i := 82) rfl rfl
set_option maxRecDepth 20000 in
theorem q_s_21 : Cond.selects RX4 yX4_valueB yX4_valueB ∈ BIG := big_s (i := 21) rfl rfl
set_option maxRecDepth 20000 in
theorem q_t2_88 : Cond.static yX0_holds ∈ BIG := big_t2 (i := 88) rfl rfl
set_option maxRecDepth 20000 in
theorem q_t2_95 : Cond.static yX1_numberB ∈ BIG := big_t2 (i := 95) rfl rfl
set_option maxRecDepth 20000 in
theorem q_t1_110 : Cond.methodLink RX4 35 yX4_putPc ∈ BIG := big_t1 (i := 110) rfl rfl
set_option maxRecDepth 20000 in
theorem q_t1_112 : Cond.instanceMethod yX4_putPc ∈ BIG := big_t1 (i := 112) rfl rfl
set_option maxRecDepth 20000 in
theorem q_s_1 : Cond.selects RX4 yX4_putPc yX4_putPc ∈ BIG := big_s (i := 1) rfl rfl
set_option maxRecDepth 20000 in
theorem q_t1_97 : Cond.static yX3_isWordAddress ∈ BIG := big_t1 (i := 97) rfl rfl
set_option maxRecDepth 20000 in
theorem q_t1_70 : Cond.fieldLink RX4 10 "HartDesk" "memory" "LHartDesk$Memory;" ∈ BIG := big_t1 (i := 70) rfl rfl
set_option maxRecDepth 20000 in
theorem q_t1_75 : Cond.fieldLink RX4 100 "HartDesk" "stepsInAll" "I" ∈ BIG := big_t1 (i := 75) rfl rfl
set_option maxRecDepth 20000 in
theorem q_t1_142 : Cond.constant RX4 106 2147483647 ∈ BIG := big_t1 (i := 142) rfl rfl
set_option maxRecDepth 20000 in
theorem q_t1_126 : Cond.methodLink RX4 61 yJ7_fill ∈ BIG := big_t1 (i := 126) rfl rfl
set_option maxRecDepth 20000 in
theorem q_t1_131 : Cond.instanceMethod yX2_clear ∈ BIG := big_t1 (i := 131) rfl rfl
set_option maxRecDepth 20000 in
theorem q_s_3 : Cond.selects RX2 yX2_clear yX2_clear ∈ BIG := big_s (i := 3) rfl rfl
set_option maxRecDepth 20000 in
theorem q_t1_135 : Cond.instanceMethod yX3_clear ∈ BIG := big_t1 (i := 135) rfl rfl
set_option maxRecDepth 20000 in
theorem q_s_4 : Cond.selects RX3 yX3_clear yX3_clear ∈ BIG := big_s (i := 4) rfl rfl
set_option maxRecDepth 20000 in
theorem q_t2_102 : Cond.static yX3_isBy ∈ BIG := big_t2 (i := 102) rfl rfl
set_option maxRecDepth 20000 in
theorem q_t2_106 : Cond.instanceMethod yX3_readPart ∈ BIG := big_t2 (i := 106) rfl rfl
set_option maxRecDepth 20000 in
theorem q_s_23 : Cond.selects RX3 yX3_readPart yX3_readPart ∈ BIG := big_s (i := 23) rfl rfl
set_option maxRecDepth 20000 in
theorem q_t2_33 : Cond.methodLink RX4 136 yX4_goOnWith ∈ BIG := big_t2 (i := 33) rfl rfl
set_option maxRecDepth 20000 in
theorem q_t2_35 : Cond.instanceMethod yX4_goOnWith ∈ BIG := big_t2 (i := 35) rfl rfl
set_option maxRecDepth 20000 in
theorem q_s_13 : Cond.selects RX4 yX4_goOnWith yX4_goOnWith ∈ BIG := big_s (i := 13) rfl rfl
set_option maxRecDepth 20000 in
theorem q_t2_118 : Cond.static yX1_numberS ∈ BIG := big_t2 (i := 118) rfl rfl
set_option maxRecDepth 20000 in
theorem q_t2_123 : Cond.instanceMethod yX3_writePart ∈ BIG := big_t2 (i := 123) rfl rfl
set_option maxRecDepth 20000 in
theorem q_s_25 : Cond.selects RX3 yX3_writePart yX3_writePart ∈ BIG := big_s (i := 25) rfl rfl
set_option maxRecDepth 20000 in
theorem q_t2_158 : Cond.instanceMethod yX2_leaveTrap ∈ BIG := big_t2 (i := 158) rfl rfl
set_option maxRecDepth 20000 in
theorem q_s_29 : Cond.selects RX2 yX2_leaveTrap yX2_leaveTrap ∈ BIG := big_s (i := 29) rfl rfl
set_option maxRecDepth 20000 in
theorem q_t2_134 : Cond.static yX1_s ∈ BIG := big_t2 (i := 134) rfl rfl
set_option maxRecDepth 20000 in
theorem q_t2_137 : Cond.static yX0_basic ∈ BIG := big_t2 (i := 137) rfl rfl
set_option maxRecDepth 20000 in
theorem q_t2_144 : Cond.static yX0_productOrQuotient ∈ BIG := big_t2 (i := 144) rfl rfl
set_option maxRecDepth 20000 in
theorem q_t2_165 : Cond.static yX1_controlNumber ∈ BIG := big_t2 (i := 165) rfl rfl
set_option maxRecDepth 20000 in
theorem q_t2_176 : Cond.instanceMethod yX2_read ∈ BIG := big_t2 (i := 176) rfl rfl
set_option maxRecDepth 20000 in
theorem q_s_31 : Cond.selects RX2 yX2_read yX2_read ∈ BIG := big_s (i := 31) rfl rfl
set_option maxRecDepth 20000 in
theorem q_t2_179 : Cond.static yX0_exchanged ∈ BIG := big_t2 (i := 179) rfl rfl
set_option maxRecDepth 20000 in
theorem q_t2_183 : Cond.instanceMethod yX2_write ∈ BIG := big_t2 (i := 183) rfl rfl
set_option maxRecDepth 20000 in
theorem q_s_32 : Cond.selects RX2 yX2_write yX2_write ∈ BIG := big_s (i := 32) rfl rfl
set_option maxRecDepth 20000 in
theorem q_t2_171 : Cond.static yX2_isKnown ∈ BIG := big_t2 (i := 171) rfl rfl
set_option maxRecDepth 20000 in
theorem q_t2_28 : Cond.static yX1_op ∈ BIG := big_t2 (i := 28) rfl rfl
set_option maxRecDepth 20000 in
theorem q_t2_97 : Cond.methodLink RX4 154 yX4_load ∈ BIG := big_t2 (i := 97) rfl rfl
set_option maxRecDepth 20000 in
theorem q_t2_99 : Cond.instanceMethod yX4_load ∈ BIG := big_t2 (i := 99) rfl rfl
set_option maxRecDepth 20000 in
theorem q_s_22 : Cond.selects RX4 yX4_load yX4_load ∈ BIG := big_s (i := 22) rfl rfl
set_option maxRecDepth 20000 in
theorem q_t2_129 : Cond.methodLink RX4 160 yX4_computeWithNumber ∈ BIG := big_t2 (i := 129) rfl rfl
set_option maxRecDepth 20000 in
theorem q_t2_131 : Cond.instanceMethod yX4_computeWithNumber ∈ BIG := big_t2 (i := 131) rfl rfl
set_option maxRecDepth 20000 in
theorem q_s_26 : Cond.selects RX4 yX4_computeWithNumber yX4_computeWithNumber ∈ BIG := big_s (i := 26) rfl rfl
set_option maxRecDepth 20000 in
theorem q_t2_31 : Cond.static yX1_numberU ∈ BIG := big_t2 (i := 31) rfl rfl
set_option maxRecDepth 20000 in
theorem q_t2_113 : Cond.methodLink RX4 157 yX4_store ∈ BIG := big_t2 (i := 113) rfl rfl
set_option maxRecDepth 20000 in
theorem q_t2_115 : Cond.instanceMethod yX4_store ∈ BIG := big_t2 (i := 115) rfl rfl
set_option maxRecDepth 20000 in
theorem q_s_24 : Cond.selects RX4 yX4_store yX4_store ∈ BIG := big_s (i := 24) rfl rfl
set_option maxRecDepth 20000 in
theorem q_t2_139 : Cond.methodLink RX4 163 yX4_computeWithRegister ∈ BIG := big_t2 (i := 139) rfl rfl
set_option maxRecDepth 20000 in
theorem q_t2_141 : Cond.instanceMethod yX4_computeWithRegister ∈ BIG := big_t2 (i := 141) rfl rfl
set_option maxRecDepth 20000 in
theorem q_s_27 : Cond.selects RX4 yX4_computeWithRegister yX4_computeWithRegister ∈ BIG := big_s (i := 27) rfl rfl
set_option maxRecDepth 20000 in
theorem q_t2_76 : Cond.methodLink RX4 151 yX4_branch ∈ BIG := big_t2 (i := 76) rfl rfl
set_option maxRecDepth 20000 in
theorem q_t2_78 : Cond.instanceMethod yX4_branch ∈ BIG := big_t2 (i := 78) rfl rfl
set_option maxRecDepth 20000 in
theorem q_s_20 : Cond.selects RX4 yX4_branch yX4_branch ∈ BIG := big_s (i := 20) rfl rfl
set_option maxRecDepth 20000 in
theorem q_t2_51 : Cond.methodLink RX4 148 yX4_jumpByRegister ∈ BIG := big_t2 (i := 51) rfl rfl
set_option maxRecDepth 20000 in
theorem q_t2_53 : Cond.instanceMethod yX4_jumpByRegister ∈ BIG := big_t2 (i := 53) rfl rfl
set_option maxRecDepth 20000 in
theorem q_s_16 : Cond.selects RX4 yX4_jumpByRegister yX4_jumpByRegister ∈ BIG := big_s (i := 16) rfl rfl
set_option maxRecDepth 20000 in
theorem q_t2_45 : Cond.static yX1_numberJ ∈ BIG := big_t2 (i := 45) rfl rfl
set_option maxRecDepth 20000 in
theorem q_t2_160 : Cond.methodLink RX4 175 yX4_exchangeControl ∈ BIG := big_t2 (i := 160) rfl rfl
set_option maxRecDepth 20000 in
theorem q_t2_162 : Cond.instanceMethod yX4_exchangeControl ∈ BIG := big_t2 (i := 162) rfl rfl
set_option maxRecDepth 20000 in
theorem q_s_30 : Cond.selects RX4 yX4_exchangeControl yX4_exchangeControl ∈ BIG := big_s (i := 30) rfl rfl
set_option maxRecDepth 20000 in
theorem q_t2_152 : Cond.methodLink RX4 172 yX4_callSystem ∈ BIG := big_t2 (i := 152) rfl rfl
set_option maxRecDepth 20000 in
theorem q_t2_154 : Cond.instanceMethod yX4_callSystem ∈ BIG := big_t2 (i := 154) rfl rfl
set_option maxRecDepth 20000 in
theorem q_s_28 : Cond.selects RX4 yX4_callSystem yX4_callSystem ∈ BIG := big_s (i := 28) rfl rfl
set_option maxRecDepth 20000 in
theorem q_t2_7 : Cond.instanceMethod yX2_isInterrupted ∈ BIG := big_t2 (i := 7) rfl rfl
set_option maxRecDepth 20000 in
theorem q_s_8 : Cond.selects RX2 yX2_isInterrupted yX2_isInterrupted ∈ BIG := big_s (i := 8) rfl rfl
set_option maxRecDepth 20000 in
theorem q_t2_23 : Cond.methodLink RX4 125 yX4_execute ∈ BIG := big_t2 (i := 23) rfl rfl
set_option maxRecDepth 20000 in
theorem q_t2_25 : Cond.instanceMethod yX4_execute ∈ BIG := big_t2 (i := 25) rfl rfl
set_option maxRecDepth 20000 in
theorem q_s_12 : Cond.selects RX4 yX4_execute yX4_execute ∈ BIG := big_s (i := 12) rfl rfl
set_option maxRecDepth 20000 in
theorem q_t2_9 : Cond.constant RX4 117 (-2147483637) ∈ BIG := big_t2 (i := 9) rfl rfl
set_option maxRecDepth 20000 in
theorem q_t1_51 : Cond.lays RX2 "HartDesk$Controls" "status" "I" ∈ BIG := big_t1 (i := 51) rfl rfl
set_option maxRecDepth 20000 in
theorem q_t1_53 : Cond.lays RX2 "HartDesk$Controls" "enabled" "I" ∈ BIG := big_t1 (i := 53) rfl rfl
set_option maxRecDepth 20000 in
theorem q_t1_55 : Cond.lays RX2 "HartDesk$Controls" "vector" "I" ∈ BIG := big_t1 (i := 55) rfl rfl
set_option maxRecDepth 20000 in
theorem q_t1_57 : Cond.lays RX2 "HartDesk$Controls" "scratch" "I" ∈ BIG := big_t1 (i := 57) rfl rfl
set_option maxRecDepth 20000 in
theorem q_t1_59 : Cond.lays RX2 "HartDesk$Controls" "back" "I" ∈ BIG := big_t1 (i := 59) rfl rfl
set_option maxRecDepth 20000 in
theorem q_t1_61 : Cond.lays RX2 "HartDesk$Controls" "cause" "I" ∈ BIG := big_t1 (i := 61) rfl rfl
set_option maxRecDepth 20000 in
theorem q_t1_63 : Cond.lays RX2 "HartDesk$Controls" "value" "I" ∈ BIG := big_t1 (i := 63) rfl rfl
set_option maxRecDepth 20000 in
theorem q_t1_65 : Cond.lays RX2 "HartDesk$Controls" "done" "I" ∈ BIG := big_t1 (i := 65) rfl rfl
set_option maxRecDepth 20000 in
theorem q_t1_67 : Cond.lays RX2 "HartDesk$Controls" "lineUp" "Z" ∈ BIG := big_t1 (i := 67) rfl rfl
set_option maxRecDepth 20000 in
theorem q_t1_29 : Cond.laysFinal RX3 "HartDesk$Memory" "words" "[I" ∈ BIG := big_t1 (i := 29) rfl rfl
set_option maxRecDepth 20000 in
theorem q_t1_77 : Cond.laysFinal RX4 "HartDesk" "memory" "LHartDesk$Memory;" ∈ BIG := big_t1 (i := 77) rfl rfl
set_option maxRecDepth 20000 in
theorem q_t1_79 : Cond.laysFinal RX4 "HartDesk" "controls" "LHartDesk$Controls;" ∈ BIG := big_t1 (i := 79) rfl rfl
set_option maxRecDepth 20000 in
theorem q_t1_81 : Cond.laysFinal RX4 "HartDesk" "registers" "[I" ∈ BIG := big_t1 (i := 81) rfl rfl
set_option maxRecDepth 20000 in
theorem q_t1_83 : Cond.lays RX4 "HartDesk" "pc" "I" ∈ BIG := big_t1 (i := 83) rfl rfl
set_option maxRecDepth 20000 in
theorem q_t1_85 : Cond.lays RX4 "HartDesk" "stopped" "Z" ∈ BIG := big_t1 (i := 85) rfl rfl
set_option maxRecDepth 20000 in
theorem q_t1_87 : Cond.lays RX4 "HartDesk" "stepsInAll" "I" ∈ BIG := big_t1 (i := 87) rfl rfl
set_option maxRecDepth 20000 in
theorem q_t1_89 : Cond.lays RX4 "HartDesk" "traps" "I" ∈ BIG := big_t1 (i := 89) rfl rfl
set_option maxRecDepth 20000 in
theorem q_t3_6 : Cond.lays RX5 "HartDeskModel" "thrown" "I" ∈ BIG := big_t3 (i := 6) rfl rfl
set_option maxRecDepth 20000 in
theorem q_t3_8 : Cond.laysFinal RX5 "HartDeskModel" "memory" "[I" ∈ BIG := big_t3 (i := 8) rfl rfl
set_option maxRecDepth 20000 in
theorem q_t3_10 : Cond.laysFinal RX5 "HartDeskModel" "registers" "[I" ∈ BIG := big_t3 (i := 10) rfl rfl
set_option maxRecDepth 20000 in
theorem q_t3_12 : Cond.lays RX5 "HartDeskModel" "pc" "I" ∈ BIG := big_t3 (i := 12) rfl rfl
set_option maxRecDepth 20000 in
theorem q_t3_14 : Cond.laysFinal RX5 "HartDeskModel" "controls" "[I" ∈ BIG := big_t3 (i := 14) rfl rfl
set_option maxRecDepth 20000 in
theorem q_t3_16 : Cond.lays RX5 "HartDeskModel" "line" "Z" ∈ BIG := big_t3 (i := 16) rfl rfl
set_option maxRecDepth 20000 in
theorem q_t3_18 : Cond.lays RX5 "HartDeskModel" "stopped" "Z" ∈ BIG := big_t3 (i := 18) rfl rfl
set_option maxRecDepth 20000 in
theorem q_t3_20 : Cond.lays RX5 "HartDeskModel" "steps" "I" ∈ BIG := big_t3 (i := 20) rfl rfl
set_option maxRecDepth 20000 in
theorem q_t3_22 : Cond.lays RX5 "HartDeskModel" "done" "I" ∈ BIG := big_t3 (i := 22) rfl rfl
set_option maxRecDepth 20000 in
theorem q_t3_24 : Cond.lays RX5 "HartDeskModel" "traps" "I" ∈ BIG := big_t3 (i := 24) rfl rfl
set_option maxRecDepth 20000 in
theorem q_t3_26 : Cond.lays RX5 "HartDeskModel" "word" "I" ∈ BIG := big_t3 (i := 26) rfl rfl
set_option maxRecDepth 20000 in
theorem q_t3_28 : Cond.lays RX5 "HartDeskModel" "trapped" "Z" ∈ BIG := big_t3 (i := 28) rfl rfl
set_option maxRecDepth 20000 in
theorem q_t3_30 : Cond.lays RX5 "HartDeskModel" "cause" "I" ∈ BIG := big_t3 (i := 30) rfl rfl
set_option maxRecDepth 20000 in
theorem q_t3_32 : Cond.lays RX5 "HartDeskModel" "why" "I" ∈ BIG := big_t3 (i := 32) rfl rfl
set_option maxRecDepth 20000 in
theorem q_t3_34 : Cond.lays RX5 "HartDeskModel" "next" "I" ∈ BIG := big_t3 (i := 34) rfl rfl
set_option maxRecDepth 20000 in
theorem q_t1_18 : Cond.code yX4_init cX4_init 1 none ∈ BIG := big_t1 (i := 18) rfl rfl
set_option maxRecDepth 20000 in
theorem q_t1_26 : Cond.code yX3_init cX3_init 1 none ∈ BIG := big_t1 (i := 26) rfl rfl
set_option maxRecDepth 20000 in
theorem q_t1_37 : Cond.code yX2_init cX2_init 1 none ∈ BIG := big_t1 (i := 37) rfl rfl
set_option maxRecDepth 20000 in
theorem q_t1_95 : Cond.code yX4_set cX4_set 3 (some .boolean) ∈ BIG := big_t1 (i := 95) rfl rfl
set_option maxRecDepth 20000 in
theorem q_t1_98 : Cond.code yX3_isWordAddress cX3_isWordAddress 1 (some .boolean) ∈ BIG := big_t1 (i := 98) rfl rfl
set_option maxRecDepth 20000 in
theorem q_t1_101 : Cond.code yX3_holds cX3_holds 1 (some .boolean) ∈ BIG := big_t1 (i := 101) rfl rfl
set_option maxRecDepth 20000 in
theorem q_t1_105 : Cond.code yX3_writeWord cX3_writeWord 4 none ∈ BIG := big_t1 (i := 105) rfl rfl
set_option maxRecDepth 20000 in
theorem q_t1_109 : Cond.code yX4_put cX4_put 3 (some .boolean) ∈ BIG := big_t1 (i := 109) rfl rfl
set_option maxRecDepth 20000 in
theorem q_t1_113 : Cond.code yX4_putPc cX4_putPc 2 (some .boolean) ∈ BIG := big_t1 (i := 113) rfl rfl
set_option maxRecDepth 20000 in
theorem q_t1_117 : Cond.code yX4_writeRegister cX4_writeRegister 3 none ∈ BIG := big_t1 (i := 117) rfl rfl
set_option maxRecDepth 20000 in
theorem q_t1_121 : Cond.code yX4_line cX4_line 2 none ∈ BIG := big_t1 (i := 121) rfl rfl
set_option maxRecDepth 20000 in
theorem q_t1_125 : Cond.code yX4_reset cX4_reset 2 none ∈ BIG := big_t1 (i := 125) rfl rfl
set_option maxRecDepth 20000 in
theorem q_t1_128 : Cond.code yJ7_fill cJ7_fill 4 none ∈ BIG := big_t1 (i := 128) rfl rfl
set_option maxRecDepth 20000 in
theorem q_t1_132 : Cond.code yX2_clear cX2_clear 1 none ∈ BIG := big_t1 (i := 132) rfl rfl
set_option maxRecDepth 20000 in
theorem q_t1_136 : Cond.code yX3_clear cX3_clear 1 none ∈ BIG := big_t1 (i := 136) rfl rfl
set_option maxRecDepth 20000 in
theorem q_t1_141 : Cond.code yX4_state cX4_state 2 (some .int) ∈ BIG := big_t1 (i := 141) rfl rfl
set_option maxRecDepth 20000 in
theorem q_t1_151 : Cond.code yX4_run cX4_run 3 (some .int) ∈ BIG := big_t1 (i := 151) rfl rfl
set_option maxRecDepth 20000 in
theorem q_t1_223 : Cond.code yX4_refuseBeyondLimit cX4_refuseBeyondLimit 1 none ∈ BIG := big_t1 (i := 223) rfl rfl
set_option maxRecDepth 20000 in
theorem q_t2_4 : Cond.code yX4_step cX4_step 1 none ∈ BIG := big_t2 (i := 4) rfl rfl
set_option maxRecDepth 20000 in
theorem q_t2_8 : Cond.code yX2_isInterrupted cX2_isInterrupted 1 (some .boolean) ∈ BIG := big_t2 (i := 8) rfl rfl
set_option maxRecDepth 20000 in
theorem q_t2_13 : Cond.code yX4_trap cX4_trap 3 (some .boolean) ∈ BIG := big_t2 (i := 13) rfl rfl
set_option maxRecDepth 20000 in
theorem q_t2_17 : Cond.code yX2_enterTrap cX2_enterTrap 4 none ∈ BIG := big_t2 (i := 17) rfl rfl
set_option maxRecDepth 20000 in
theorem q_t2_22 : Cond.code yX3_readWord cX3_readWord 3 (some .int) ∈ BIG := big_t2 (i := 22) rfl rfl
set_option maxRecDepth 20000 in
theorem q_t2_26 : Cond.code yX4_execute cX4_execute 2 (some .boolean) ∈ BIG := big_t2 (i := 26) rfl rfl
set_option maxRecDepth 20000 in
theorem q_t2_29 : Cond.code yX1_op cX1_op 1 (some .int) ∈ BIG := big_t2 (i := 29) rfl rfl
set_option maxRecDepth 20000 in
theorem q_t2_32 : Cond.code yX1_numberU cX1_numberU 1 (some .int) ∈ BIG := big_t2 (i := 32) rfl rfl
set_option maxRecDepth 20000 in
theorem q_t2_36 : Cond.code yX4_goOnWith cX4_goOnWith 3 (some .boolean) ∈ BIG := big_t2 (i := 36) rfl rfl
set_option maxRecDepth 20000 in
theorem q_t2_39 : Cond.code yX1_d cX1_d 1 (some .int) ∈ BIG := big_t2 (i := 39) rfl rfl
set_option maxRecDepth 20000 in
theorem q_t2_43 : Cond.code yX4_goOn cX4_goOn 1 (some .boolean) ∈ BIG := big_t2 (i := 43) rfl rfl
set_option maxRecDepth 20000 in
theorem q_t2_46 : Cond.code yX1_numberJ cX1_numberJ 1 (some .int) ∈ BIG := big_t2 (i := 46) rfl rfl
set_option maxRecDepth 20000 in
theorem q_t2_50 : Cond.code yX4_jump cX4_jump 3 (some .boolean) ∈ BIG := big_t2 (i := 50) rfl rfl
set_option maxRecDepth 20000 in
theorem q_t2_54 : Cond.code yX4_jumpByRegister cX4_jumpByRegister 2 (some .boolean) ∈ BIG := big_t2 (i := 54) rfl rfl
set_option maxRecDepth 20000 in
theorem q_t2_57 : Cond.code yX1_f cX1_f 1 (some .int) ∈ BIG := big_t2 (i := 57) rfl rfl
set_option maxRecDepth 20000 in
theorem q_t2_61 : Cond.code yX4_unknown cX4_unknown 2 (some .boolean) ∈ BIG := big_t2 (i := 61) rfl rfl
set_option maxRecDepth 20000 in
theorem q_t2_65 : Cond.code yX4_valueA cX4_valueA 2 (some .int) ∈ BIG := big_t2 (i := 65) rfl rfl
set_option maxRecDepth 20000 in
theorem q_t2_68 : Cond.code yX1_a cX1_a 1 (some .int) ∈ BIG := big_t2 (i := 68) rfl rfl
set_option maxRecDepth 20000 in
theorem q_t2_72 : Cond.code yX4_readRegister cX4_readRegister 2 (some .int) ∈ BIG := big_t2 (i := 72) rfl rfl
set_option maxRecDepth 20000 in
theorem q_t2_75 : Cond.code yX1_numberI cX1_numberI 1 (some .int) ∈ BIG := big_t2 (i := 75) rfl rfl
set_option maxRecDepth 20000 in
theorem q_t2_79 : Cond.code yX4_branch cX4_branch 3 (some .boolean) ∈ BIG := big_t2 (i := 79) rfl rfl
set_option maxRecDepth 20000 in
theorem q_t2_83 : Cond.code yX4_valueB cX4_valueB 2 (some .int) ∈ BIG := big_t2 (i := 83) rfl rfl
set_option maxRecDepth 20000 in
theorem q_t2_86 : Cond.code yX1_b cX1_b 1 (some .int) ∈ BIG := big_t2 (i := 86) rfl rfl
set_option maxRecDepth 20000 in
theorem q_t2_89 : Cond.code yX0_holds cX0_holds 3 (some .boolean) ∈ BIG := big_t2 (i := 89) rfl rfl
set_option maxRecDepth 20000 in
theorem q_t2_92 : Cond.code yX0_isBelow cX0_isBelow 2 (some .boolean) ∈ BIG := big_t2 (i := 92) rfl rfl
set_option maxRecDepth 20000 in
theorem q_t2_96 : Cond.code yX1_numberB cX1_numberB 1 (some .int) ∈ BIG := big_t2 (i := 96) rfl rfl
set_option maxRecDepth 20000 in
theorem q_t2_100 : Cond.code yX4_load cX4_load 4 (some .boolean) ∈ BIG := big_t2 (i := 100) rfl rfl
set_option maxRecDepth 20000 in
theorem q_t2_103 : Cond.code yX3_isBy cX3_isBy 2 (some .boolean) ∈ BIG := big_t2 (i := 103) rfl rfl
set_option maxRecDepth 20000 in
theorem q_t2_107 : Cond.code yX3_readPart cX3_readPart 4 (some .int) ∈ BIG := big_t2 (i := 107) rfl rfl
set_option maxRecDepth 20000 in
theorem q_t2_111 : Cond.code yX3_shift cX3_shift 1 (some .int) ∈ BIG := big_t2 (i := 111) rfl rfl
set_option maxRecDepth 20000 in
theorem q_t2_116 : Cond.code yX4_store cX4_store 4 (some .boolean) ∈ BIG := big_t2 (i := 116) rfl rfl
set_option maxRecDepth 20000 in
theorem q_t2_119 : Cond.code yX1_numberS cX1_numberS 1 (some .int) ∈ BIG := big_t2 (i := 119) rfl rfl
set_option maxRecDepth 20000 in
theorem q_t2_124 : Cond.code yX3_writePart cX3_writePart 6 none ∈ BIG := big_t2 (i := 124) rfl rfl
set_option maxRecDepth 20000 in
theorem q_t2_127 : Cond.code yX3_partMask cX3_partMask 1 (some .int) ∈ BIG := big_t2 (i := 127) rfl rfl
set_option maxRecDepth 20000 in
theorem q_t2_132 : Cond.code yX4_computeWithNumber cX4_computeWithNumber 4 (some .boolean) ∈ BIG := big_t2 (i := 132) rfl rfl
set_option maxRecDepth 20000 in
theorem q_t2_135 : Cond.code yX1_s cX1_s 1 (some .int) ∈ BIG := big_t2 (i := 135) rfl rfl
set_option maxRecDepth 20000 in
theorem q_t2_138 : Cond.code yX0_basic cX0_basic 3 (some .int) ∈ BIG := big_t2 (i := 138) rfl rfl
set_option maxRecDepth 20000 in
theorem q_t2_142 : Cond.code yX4_computeWithRegister cX4_computeWithRegister 4 (some .boolean) ∈ BIG := big_t2 (i := 142) rfl rfl
set_option maxRecDepth 20000 in
theorem q_t2_145 : Cond.code yX0_productOrQuotient cX0_productOrQuotient 3 (some .int) ∈ BIG := big_t2 (i := 145) rfl rfl
set_option maxRecDepth 20000 in
theorem q_t2_148 : Cond.code yX0_quotient cX0_quotient 4 (some .int) ∈ BIG := big_t2 (i := 148) rfl rfl
set_option maxRecDepth 20000 in
theorem q_t2_151 : Cond.code yX0_rest cX0_rest 4 (some .int) ∈ BIG := big_t2 (i := 151) rfl rfl
set_option maxRecDepth 20000 in
theorem q_t2_155 : Cond.code yX4_callSystem cX4_callSystem 2 (some .boolean) ∈ BIG := big_t2 (i := 155) rfl rfl
set_option maxRecDepth 20000 in
theorem q_t2_159 : Cond.code yX2_leaveTrap cX2_leaveTrap 1 (some .int) ∈ BIG := big_t2 (i := 159) rfl rfl
set_option maxRecDepth 20000 in
theorem q_t2_163 : Cond.code yX4_exchangeControl cX4_exchangeControl 8 (some .boolean) ∈ BIG := big_t2 (i := 163) rfl rfl
set_option maxRecDepth 20000 in
theorem q_t2_166 : Cond.code yX1_controlNumber cX1_controlNumber 1 (some .int) ∈ BIG := big_t2 (i := 166) rfl rfl
set_option maxRecDepth 20000 in
theorem q_t2_169 : Cond.code yX2_isWritable cX2_isWritable 1 (some .boolean) ∈ BIG := big_t2 (i := 169) rfl rfl
set_option maxRecDepth 20000 in
theorem q_t2_172 : Cond.code yX2_isKnown cX2_isKnown 1 (some .boolean) ∈ BIG := big_t2 (i := 172) rfl rfl
set_option maxRecDepth 20000 in
theorem q_t2_177 : Cond.code yX2_read cX2_read 2 (some .int) ∈ BIG := big_t2 (i := 177) rfl rfl
set_option maxRecDepth 20000 in
theorem q_t2_180 : Cond.code yX0_exchanged cX0_exchanged 3 (some .int) ∈ BIG := big_t2 (i := 180) rfl rfl
set_option maxRecDepth 20000 in
theorem q_t2_184 : Cond.code yX2_write cX2_write 3 none ∈ BIG := big_t2 (i := 184) rfl rfl
set_option maxRecDepth 20000 in
theorem q_t2_192 : Cond.code yX4_register cX4_register 2 (some .int) ∈ BIG := big_t2 (i := 192) rfl rfl
set_option maxRecDepth 20000 in
theorem q_t2_215 : Cond.code yX4_control cX4_control 2 (some .int) ∈ BIG := big_t2 (i := 215) rfl rfl
set_option maxRecDepth 20000 in
theorem q_t2_223 : Cond.code yX4_word cX4_word 2 (some .int) ∈ BIG := big_t2 (i := 223) rfl rfl
set_option maxRecDepth 20000 in
theorem q_t2_229 : Cond.code yX5_init cX5_init 1 none ∈ BIG := big_t2 (i := 229) rfl rfl
set_option maxRecDepth 20000 in
theorem q_t3_40 : Cond.code yX5_thrown cX5_thrown 1 (some .int) ∈ BIG := big_t3 (i := 40) rfl rfl
set_option maxRecDepth 20000 in
theorem q_t3_44 : Cond.code yX5_set cX5_set 3 (some .boolean) ∈ BIG := big_t3 (i := 44) rfl rfl
set_option maxRecDepth 20000 in
theorem q_t3_47 : Cond.code yX5_isAddress cX5_isAddress 1 (some .boolean) ∈ BIG := big_t3 (i := 47) rfl rfl
set_option maxRecDepth 20000 in
theorem q_t3_51 : Cond.code yX5_put cX5_put 3 (some .boolean) ∈ BIG := big_t3 (i := 51) rfl rfl
set_option maxRecDepth 20000 in
theorem q_t3_55 : Cond.code yX5_line cX5_line 2 none ∈ BIG := big_t3 (i := 55) rfl rfl
set_option maxRecDepth 20000 in
theorem q_t3_59 : Cond.code yX5_run cX5_run 3 (some .int) ∈ BIG := big_t3 (i := 59) rfl rfl
set_option maxRecDepth 20000 in
theorem q_t3_63 : Cond.code yX5_raise cX5_raise 2 (some .int) ∈ BIG := big_t3 (i := 63) rfl rfl
set_option maxRecDepth 20000 in
theorem q_t3_68 : Cond.code yX5_step cX5_step 2 none ∈ BIG := big_t3 (i := 68) rfl rfl
set_option maxRecDepth 20000 in
theorem q_t3_73 : Cond.code yX5_trap cX5_trap 3 none ∈ BIG := big_t3 (i := 73) rfl rfl
set_option maxRecDepth 20000 in
theorem q_t3_77 : Cond.code yX5_instruct cX5_instruct 1 none ∈ BIG := big_t3 (i := 77) rfl rfl
set_option maxRecDepth 20000 in
theorem q_t3_81 : Cond.code yX5_bits cX5_bits 3 (some .int) ∈ BIG := big_t3 (i := 81) rfl rfl
set_option maxRecDepth 20000 in
theorem q_t3_85 : Cond.code yX5_numberU cX5_numberU 1 (some .int) ∈ BIG := big_t3 (i := 85) rfl rfl
set_option maxRecDepth 20000 in
theorem q_t3_89 : Cond.code yX5_lay cX5_lay 3 none ∈ BIG := big_t3 (i := 89) rfl rfl
set_option maxRecDepth 20000 in
theorem q_t3_93 : Cond.code yX5_numberJ cX5_numberJ 1 (some .int) ∈ BIG := big_t3 (i := 93) rfl rfl
set_option maxRecDepth 20000 in
theorem q_t3_97 : Cond.code yX5_jump cX5_jump 3 none ∈ BIG := big_t3 (i := 97) rfl rfl
set_option maxRecDepth 20000 in
theorem q_t3_101 : Cond.code yX5_goes cX5_goes 2 (some .boolean) ∈ BIG := big_t3 (i := 101) rfl rfl
set_option maxRecDepth 20000 in
theorem q_t3_105 : Cond.code yX5_none cX5_none 1 none ∈ BIG := big_t3 (i := 105) rfl rfl
set_option maxRecDepth 20000 in
theorem q_t3_109 : Cond.code yX5_a cX5_a 1 (some .int) ∈ BIG := big_t3 (i := 109) rfl rfl
set_option maxRecDepth 20000 in
theorem q_t3_113 : Cond.code yX5_numberI cX5_numberI 1 (some .int) ∈ BIG := big_t3 (i := 113) rfl rfl
set_option maxRecDepth 20000 in
theorem q_t3_117 : Cond.code yX5_branch cX5_branch 4 none ∈ BIG := big_t3 (i := 117) rfl rfl
set_option maxRecDepth 20000 in
theorem q_t3_121 : Cond.code yX5_b cX5_b 1 (some .int) ∈ BIG := big_t3 (i := 121) rfl rfl
set_option maxRecDepth 20000 in
theorem q_t3_124 : Cond.code yX5_isBelow cX5_isBelow 2 (some .boolean) ∈ BIG := big_t3 (i := 124) rfl rfl
set_option maxRecDepth 20000 in
theorem q_t3_129 : Cond.code yX5_numberB cX5_numberB 1 (some .int) ∈ BIG := big_t3 (i := 129) rfl rfl
set_option maxRecDepth 20000 in
theorem q_t3_133 : Cond.code yX5_load cX5_load 5 none ∈ BIG := big_t3 (i := 133) rfl rfl
set_option maxRecDepth 20000 in
theorem q_t3_137 : Cond.code yX5_may cX5_may 5 (some .boolean) ∈ BIG := big_t3 (i := 137) rfl rfl
set_option maxRecDepth 20000 in
theorem q_t3_142 : Cond.code yX5_store cX5_store 6 none ∈ BIG := big_t3 (i := 142) rfl rfl
set_option maxRecDepth 20000 in
theorem q_t3_146 : Cond.code yX5_numberS cX5_numberS 1 (some .int) ∈ BIG := big_t3 (i := 146) rfl rfl
set_option maxRecDepth 20000 in
theorem q_t3_150 : Cond.code yX5_withNumber cX5_withNumber 5 none ∈ BIG := big_t3 (i := 150) rfl rfl
set_option maxRecDepth 20000 in
theorem q_t3_154 : Cond.code yX5_withRegister cX5_withRegister 5 none ∈ BIG := big_t3 (i := 154) rfl rfl
set_option maxRecDepth 20000 in
theorem q_t3_158 : Cond.code yX5_product cX5_product 4 none ∈ BIG := big_t3 (i := 158) rfl rfl
set_option maxRecDepth 20000 in
theorem q_t3_161 : Cond.code yX5_upper cX5_upper 10 (some .int) ∈ BIG := big_t3 (i := 161) rfl rfl
set_option maxRecDepth 20000 in
theorem q_t3_164 : Cond.code yX5_quotient cX5_quotient 6 (some .int) ∈ BIG := big_t3 (i := 164) rfl rfl
set_option maxRecDepth 20000 in
theorem q_t3_168 : Cond.code yX5_system cX5_system 2 none ∈ BIG := big_t3 (i := 168) rfl rfl
set_option maxRecDepth 20000 in
theorem q_t3_174 : Cond.code yX5_change cX5_change 7 none ∈ BIG := big_t3 (i := 174) rfl rfl
set_option maxRecDepth 20000 in
theorem q_t3_177 : Cond.code yX5_controlOf cX5_controlOf 1 (some .int) ∈ BIG := big_t3 (i := 177) rfl rfl
set_option maxRecDepth 20000 in
theorem q_t3_181 : Cond.code yX5_has cX5_has 2 (some .int) ∈ BIG := big_t3 (i := 181) rfl rfl
set_option maxRecDepth 20000 in
theorem q_t3_185 : Cond.code yX5_become cX5_become 3 none ∈ BIG := big_t3 (i := 185) rfl rfl
set_option maxRecDepth 20000 in
theorem q_t3_189 : Cond.code yX5_reset cX5_reset 3 none ∈ BIG := big_t3 (i := 189) rfl rfl
set_option maxRecDepth 20000 in
theorem q_t3_193 : Cond.code yX5_register cX5_register 2 (some .int) ∈ BIG := big_t3 (i := 193) rfl rfl
set_option maxRecDepth 20000 in
theorem q_t3_197 : Cond.code yX5_control cX5_control 3 (some .int) ∈ BIG := big_t3 (i := 197) rfl rfl
set_option maxRecDepth 20000 in
theorem q_t3_201 : Cond.code yX5_word cX5_word 2 (some .int) ∈ BIG := big_t3 (i := 201) rfl rfl
set_option maxRecDepth 20000 in
theorem q_t3_205 : Cond.code yX5_state cX5_state 2 (some .int) ∈ BIG := big_t3 (i := 205) rfl rfl
theorem iX2 : ∀ w ∈ u_ws RX2 TX2 9, w ∈ BIG := by
  show ∀ w ∈ [Cond.lays RX2 "HartDesk$Controls" "status" "I", Cond.lays RX2 "HartDesk$Controls" "enabled" "I", Cond.lays RX2 "HartDesk$Controls" "vector" "I", Cond.lays RX2 "HartDesk$Controls" "scratch" "I", Cond.lays RX2 "HartDesk$Controls" "back" "I", Cond.lays RX2 "HartDesk$Controls" "cause" "I", Cond.lays RX2 "HartDesk$Controls" "value" "I", Cond.lays RX2 "HartDesk$Controls" "done" "I", Cond.lays RX2 "HartDesk$Controls" "lineUp" "Z"], w ∈ BIG
  exact in_c q_t1_51 (in_c q_t1_53 (in_c q_t1_55 (in_c q_t1_57 (in_c q_t1_59 (in_c q_t1_61 (in_c q_t1_63 (in_c q_t1_65 (in_c q_t1_67 (fun _ h => nomatch h)))))))))
theorem iX3 : ∀ w ∈ u_ws RX3 TX3 1, w ∈ BIG := by
  show ∀ w ∈ [Cond.laysFinal RX3 "HartDesk$Memory" "words" "[I"], w ∈ BIG
  exact in_c q_t1_29 (fun _ h => nomatch h)
theorem iX4 : ∀ w ∈ u_ws RX4 TX4 7, w ∈ BIG := by
  show ∀ w ∈ [Cond.laysFinal RX4 "HartDesk" "memory" "LHartDesk$Memory;", Cond.laysFinal RX4 "HartDesk" "controls" "LHartDesk$Controls;", Cond.laysFinal RX4 "HartDesk" "registers" "[I", Cond.lays RX4 "HartDesk" "pc" "I", Cond.lays RX4 "HartDesk" "stopped" "Z", Cond.lays RX4 "HartDesk" "stepsInAll" "I", Cond.lays RX4 "HartDesk" "traps" "I"], w ∈ BIG
  exact in_c q_t1_77 (in_c q_t1_79 (in_c q_t1_81 (in_c q_t1_83 (in_c q_t1_85 (in_c q_t1_87 (in_c q_t1_89 (fun _ h => nomatch h)))))))
theorem iX5 : ∀ w ∈ u_ws RX5 TX5 15, w ∈ BIG := by
  show ∀ w ∈ [Cond.lays RX5 "HartDeskModel" "thrown" "I", Cond.laysFinal RX5 "HartDeskModel" "memory" "[I", Cond.laysFinal RX5 "HartDeskModel" "registers" "[I", Cond.lays RX5 "HartDeskModel" "pc" "I", Cond.laysFinal RX5 "HartDeskModel" "controls" "[I", Cond.lays RX5 "HartDeskModel" "line" "Z", Cond.lays RX5 "HartDeskModel" "stopped" "Z", Cond.lays RX5 "HartDeskModel" "steps" "I", Cond.lays RX5 "HartDeskModel" "done" "I", Cond.lays RX5 "HartDeskModel" "traps" "I", Cond.lays RX5 "HartDeskModel" "word" "I", Cond.lays RX5 "HartDeskModel" "trapped" "Z", Cond.lays RX5 "HartDeskModel" "cause" "I", Cond.lays RX5 "HartDeskModel" "why" "I", Cond.lays RX5 "HartDeskModel" "next" "I"], w ∈ BIG
  exact in_c q_t3_6 (in_c q_t3_8 (in_c q_t3_10 (in_c q_t3_12 (in_c q_t3_14 (in_c q_t3_16 (in_c q_t3_18 (in_c q_t3_20 (in_c q_t3_22 (in_c q_t3_24 (in_c q_t3_26 (in_c q_t3_28 (in_c q_t3_30 (in_c q_t3_32 (in_c q_t3_34 (fun _ h => nomatch h)))))))))))))))
def wsX4_init : List Cond := .code yX4_init cX4_init 1 none :: BIG
theorem wX4_init : ∀ w ∈ wsX4_init, w ∈ BIG := in_c q_t1_18 (fun _ h => h)
theorem hX4_init : yX4_init.cls = RX4 ∧ yX4_init.cls ≠ "java/lang/invoke/MethodHandle" ∧ yX4_init.cls ≠ "java/lang/invoke/VarHandle" ∧ (parseMethodDescriptor yX4_init.desc).map (fun d => d.parameters.length) = some 0 := by decide +kernel
def wsX3_init : List Cond := .code yX3_init cX3_init 1 none :: BIG
theorem wX3_init : ∀ w ∈ wsX3_init, w ∈ BIG := in_c q_t1_26 (fun _ h => h)
theorem hX3_init : yX3_init.cls = RX3 ∧ yX3_init.cls ≠ "java/lang/invoke/MethodHandle" ∧ yX3_init.cls ≠ "java/lang/invoke/VarHandle" ∧ (parseMethodDescriptor yX3_init.desc).map (fun d => d.parameters.length) = some 0 := by decide +kernel
def wsX2_init : List Cond := .code yX2_init cX2_init 1 none :: BIG
theorem wX2_init : ∀ w ∈ wsX2_init, w ∈ BIG := in_c q_t1_37 (fun _ h => h)
theorem hX2_init : yX2_init.cls = RX2 ∧ yX2_init.cls ≠ "java/lang/invoke/MethodHandle" ∧ yX2_init.cls ≠ "java/lang/invoke/VarHandle" ∧ (parseMethodDescriptor yX2_init.desc).map (fun d => d.parameters.length) = some 0 := by decide +kernel
def wsX4_set : List Cond := .code yX4_set cX4_set 3 (some .boolean) :: BIG
theorem wX4_set : ∀ w ∈ wsX4_set, w ∈ BIG := in_c q_t1_95 (fun _ h => h)
theorem hX4_set : yX4_set.cls = RX4 ∧ yX4_set.cls ≠ "java/lang/invoke/MethodHandle" ∧ yX4_set.cls ≠ "java/lang/invoke/VarHandle" ∧ (parseMethodDescriptor yX4_set.desc).map (fun d => d.parameters.length) = some 2 := by decide +kernel
def wsX3_isWordAddress : List Cond := .code yX3_isWordAddress cX3_isWordAddress 1 (some .boolean) :: BIG
theorem wX3_isWordAddress : ∀ w ∈ wsX3_isWordAddress, w ∈ BIG := in_c q_t1_98 (fun _ h => h)
theorem hX3_isWordAddress : yX3_isWordAddress.cls = RX3 ∧ yX3_isWordAddress.cls ≠ "java/lang/invoke/MethodHandle" ∧ yX3_isWordAddress.cls ≠ "java/lang/invoke/VarHandle" ∧ (parseMethodDescriptor yX3_isWordAddress.desc).map (fun d => d.parameters.length) = some 1 := by decide +kernel
def wsX3_holds : List Cond := .code yX3_holds cX3_holds 1 (some .boolean) :: BIG
theorem wX3_holds : ∀ w ∈ wsX3_holds, w ∈ BIG := in_c q_t1_101 (fun _ h => h)
theorem hX3_holds : yX3_holds.cls = RX3 ∧ yX3_holds.cls ≠ "java/lang/invoke/MethodHandle" ∧ yX3_holds.cls ≠ "java/lang/invoke/VarHandle" ∧ (parseMethodDescriptor yX3_holds.desc).map (fun d => d.parameters.length) = some 1 := by decide +kernel
def wsX3_writeWord : List Cond := .code yX3_writeWord cX3_writeWord 4 none :: BIG
theorem wX3_writeWord : ∀ w ∈ wsX3_writeWord, w ∈ BIG := in_c q_t1_105 (fun _ h => h)
theorem hX3_writeWord : yX3_writeWord.cls = RX3 ∧ yX3_writeWord.cls ≠ "java/lang/invoke/MethodHandle" ∧ yX3_writeWord.cls ≠ "java/lang/invoke/VarHandle" ∧ (parseMethodDescriptor yX3_writeWord.desc).map (fun d => d.parameters.length) = some 2 := by decide +kernel
def wsX4_put : List Cond := .code yX4_put cX4_put 3 (some .boolean) :: BIG
theorem wX4_put : ∀ w ∈ wsX4_put, w ∈ BIG := in_c q_t1_109 (fun _ h => h)
theorem hX4_put : yX4_put.cls = RX4 ∧ yX4_put.cls ≠ "java/lang/invoke/MethodHandle" ∧ yX4_put.cls ≠ "java/lang/invoke/VarHandle" ∧ (parseMethodDescriptor yX4_put.desc).map (fun d => d.parameters.length) = some 2 := by decide +kernel
def wsX4_putPc : List Cond := .code yX4_putPc cX4_putPc 2 (some .boolean) :: BIG
theorem wX4_putPc : ∀ w ∈ wsX4_putPc, w ∈ BIG := in_c q_t1_113 (fun _ h => h)
theorem hX4_putPc : yX4_putPc.cls = RX4 ∧ yX4_putPc.cls ≠ "java/lang/invoke/MethodHandle" ∧ yX4_putPc.cls ≠ "java/lang/invoke/VarHandle" ∧ (parseMethodDescriptor yX4_putPc.desc).map (fun d => d.parameters.length) = some 1 := by decide +kernel
def wsX4_writeRegister : List Cond := .code yX4_writeRegister cX4_writeRegister 3 none :: BIG
theorem wX4_writeRegister : ∀ w ∈ wsX4_writeRegister, w ∈ BIG := in_c q_t1_117 (fun _ h => h)
theorem hX4_writeRegister : yX4_writeRegister.cls = RX4 ∧ yX4_writeRegister.cls ≠ "java/lang/invoke/MethodHandle" ∧ yX4_writeRegister.cls ≠ "java/lang/invoke/VarHandle" ∧ (parseMethodDescriptor yX4_writeRegister.desc).map (fun d => d.parameters.length) = some 2 := by decide +kernel
def wsX4_line : List Cond := .code yX4_line cX4_line 2 none :: BIG
theorem wX4_line : ∀ w ∈ wsX4_line, w ∈ BIG := in_c q_t1_121 (fun _ h => h)
theorem hX4_line : yX4_line.cls = RX4 ∧ yX4_line.cls ≠ "java/lang/invoke/MethodHandle" ∧ yX4_line.cls ≠ "java/lang/invoke/VarHandle" ∧ (parseMethodDescriptor yX4_line.desc).map (fun d => d.parameters.length) = some 1 := by decide +kernel
def wsX4_reset : List Cond := .code yX4_reset cX4_reset 2 none :: BIG
theorem wX4_reset : ∀ w ∈ wsX4_reset, w ∈ BIG := in_c q_t1_125 (fun _ h => h)
theorem hX4_reset : yX4_reset.cls = RX4 ∧ yX4_reset.cls ≠ "java/lang/invoke/MethodHandle" ∧ yX4_reset.cls ≠ "java/lang/invoke/VarHandle" ∧ (parseMethodDescriptor yX4_reset.desc).map (fun d => d.parameters.length) = some 1 := by decide +kernel
def wsJ7_fill : List Cond := .code yJ7_fill cJ7_fill 4 none :: BIG
theorem wJ7_fill : ∀ w ∈ wsJ7_fill, w ∈ BIG := in_c q_t1_128 (fun _ h => h)
theorem hJ7_fill : yJ7_fill.cls = RJ7 ∧ yJ7_fill.cls ≠ "java/lang/invoke/MethodHandle" ∧ yJ7_fill.cls ≠ "java/lang/invoke/VarHandle" ∧ (parseMethodDescriptor yJ7_fill.desc).map (fun d => d.parameters.length) = some 2 := by decide +kernel
def wsX2_clear : List Cond := .code yX2_clear cX2_clear 1 none :: BIG
theorem wX2_clear : ∀ w ∈ wsX2_clear, w ∈ BIG := in_c q_t1_132 (fun _ h => h)
theorem hX2_clear : yX2_clear.cls = RX2 ∧ yX2_clear.cls ≠ "java/lang/invoke/MethodHandle" ∧ yX2_clear.cls ≠ "java/lang/invoke/VarHandle" ∧ (parseMethodDescriptor yX2_clear.desc).map (fun d => d.parameters.length) = some 0 := by decide +kernel
def wsX3_clear : List Cond := .code yX3_clear cX3_clear 1 none :: BIG
theorem wX3_clear : ∀ w ∈ wsX3_clear, w ∈ BIG := in_c q_t1_136 (fun _ h => h)
theorem hX3_clear : yX3_clear.cls = RX3 ∧ yX3_clear.cls ≠ "java/lang/invoke/MethodHandle" ∧ yX3_clear.cls ≠ "java/lang/invoke/VarHandle" ∧ (parseMethodDescriptor yX3_clear.desc).map (fun d => d.parameters.length) = some 0 := by decide +kernel
def wsX4_state : List Cond := .code yX4_state cX4_state 2 (some .int) :: BIG
theorem wX4_state : ∀ w ∈ wsX4_state, w ∈ BIG := in_c q_t1_141 (fun _ h => h)
theorem hX4_state : yX4_state.cls = RX4 ∧ yX4_state.cls ≠ "java/lang/invoke/MethodHandle" ∧ yX4_state.cls ≠ "java/lang/invoke/VarHandle" ∧ (parseMethodDescriptor yX4_state.desc).map (fun d => d.parameters.length) = some 1 := by decide +kernel
def wsX4_run : List Cond := .code yX4_run cX4_run 3 (some .int) :: BIG
theorem wX4_run : ∀ w ∈ wsX4_run, w ∈ BIG := in_c q_t1_151 (fun _ h => h)
theorem hX4_run : yX4_run.cls = RX4 ∧ yX4_run.cls ≠ "java/lang/invoke/MethodHandle" ∧ yX4_run.cls ≠ "java/lang/invoke/VarHandle" ∧ (parseMethodDescriptor yX4_run.desc).map (fun d => d.parameters.length) = some 1 := by decide +kernel
def wsX4_refuseBeyondLimit : List Cond := .code yX4_refuseBeyondLimit cX4_refuseBeyondLimit 1 none :: BIG
theorem wX4_refuseBeyondLimit : ∀ w ∈ wsX4_refuseBeyondLimit, w ∈ BIG := in_c q_t1_223 (fun _ h => h)
theorem hX4_refuseBeyondLimit : yX4_refuseBeyondLimit.cls = RX4 ∧ yX4_refuseBeyondLimit.cls ≠ "java/lang/invoke/MethodHandle" ∧ yX4_refuseBeyondLimit.cls ≠ "java/lang/invoke/VarHandle" ∧ (parseMethodDescriptor yX4_refuseBeyondLimit.desc).map (fun d => d.parameters.length) = some 0 := by decide +kernel
def wsX4_step : List Cond := .code yX4_step cX4_step 1 none :: BIG
theorem wX4_step : ∀ w ∈ wsX4_step, w ∈ BIG := in_c q_t2_4 (fun _ h => h)
theorem hX4_step : yX4_step.cls = RX4 ∧ yX4_step.cls ≠ "java/lang/invoke/MethodHandle" ∧ yX4_step.cls ≠ "java/lang/invoke/VarHandle" ∧ (parseMethodDescriptor yX4_step.desc).map (fun d => d.parameters.length) = some 0 := by decide +kernel
def wsX2_isInterrupted : List Cond := .code yX2_isInterrupted cX2_isInterrupted 1 (some .boolean) :: BIG
theorem wX2_isInterrupted : ∀ w ∈ wsX2_isInterrupted, w ∈ BIG := in_c q_t2_8 (fun _ h => h)
theorem hX2_isInterrupted : yX2_isInterrupted.cls = RX2 ∧ yX2_isInterrupted.cls ≠ "java/lang/invoke/MethodHandle" ∧ yX2_isInterrupted.cls ≠ "java/lang/invoke/VarHandle" ∧ (parseMethodDescriptor yX2_isInterrupted.desc).map (fun d => d.parameters.length) = some 0 := by decide +kernel
def wsX4_trap : List Cond := .code yX4_trap cX4_trap 3 (some .boolean) :: BIG
theorem wX4_trap : ∀ w ∈ wsX4_trap, w ∈ BIG := in_c q_t2_13 (fun _ h => h)
theorem hX4_trap : yX4_trap.cls = RX4 ∧ yX4_trap.cls ≠ "java/lang/invoke/MethodHandle" ∧ yX4_trap.cls ≠ "java/lang/invoke/VarHandle" ∧ (parseMethodDescriptor yX4_trap.desc).map (fun d => d.parameters.length) = some 2 := by decide +kernel
def wsX2_enterTrap : List Cond := .code yX2_enterTrap cX2_enterTrap 4 none :: BIG
theorem wX2_enterTrap : ∀ w ∈ wsX2_enterTrap, w ∈ BIG := in_c q_t2_17 (fun _ h => h)
theorem hX2_enterTrap : yX2_enterTrap.cls = RX2 ∧ yX2_enterTrap.cls ≠ "java/lang/invoke/MethodHandle" ∧ yX2_enterTrap.cls ≠ "java/lang/invoke/VarHandle" ∧ (parseMethodDescriptor yX2_enterTrap.desc).map (fun d => d.parameters.length) = some 3 := by decide +kernel
def wsX3_readWord : List Cond := .code yX3_readWord cX3_readWord 3 (some .int) :: BIG
theorem wX3_readWord : ∀ w ∈ wsX3_readWord, w ∈ BIG := in_c q_t2_22 (fun _ h => h)
theorem hX3_readWord : yX3_readWord.cls = RX3 ∧ yX3_readWord.cls ≠ "java/lang/invoke/MethodHandle" ∧ yX3_readWord.cls ≠ "java/lang/invoke/VarHandle" ∧ (parseMethodDescriptor yX3_readWord.desc).map (fun d => d.parameters.length) = some 1 := by decide +kernel
def wsX4_execute : List Cond := .code yX4_execute cX4_execute 2 (some .boolean) :: BIG
theorem wX4_execute : ∀ w ∈ wsX4_execute, w ∈ BIG := in_c q_t2_26 (fun _ h => h)
theorem hX4_execute : yX4_execute.cls = RX4 ∧ yX4_execute.cls ≠ "java/lang/invoke/MethodHandle" ∧ yX4_execute.cls ≠ "java/lang/invoke/VarHandle" ∧ (parseMethodDescriptor yX4_execute.desc).map (fun d => d.parameters.length) = some 1 := by decide +kernel
def wsX1_op : List Cond := .code yX1_op cX1_op 1 (some .int) :: BIG
theorem wX1_op : ∀ w ∈ wsX1_op, w ∈ BIG := in_c q_t2_29 (fun _ h => h)
theorem hX1_op : yX1_op.cls = RX1 ∧ yX1_op.cls ≠ "java/lang/invoke/MethodHandle" ∧ yX1_op.cls ≠ "java/lang/invoke/VarHandle" ∧ (parseMethodDescriptor yX1_op.desc).map (fun d => d.parameters.length) = some 1 := by decide +kernel
def wsX1_numberU : List Cond := .code yX1_numberU cX1_numberU 1 (some .int) :: BIG
theorem wX1_numberU : ∀ w ∈ wsX1_numberU, w ∈ BIG := in_c q_t2_32 (fun _ h => h)
theorem hX1_numberU : yX1_numberU.cls = RX1 ∧ yX1_numberU.cls ≠ "java/lang/invoke/MethodHandle" ∧ yX1_numberU.cls ≠ "java/lang/invoke/VarHandle" ∧ (parseMethodDescriptor yX1_numberU.desc).map (fun d => d.parameters.length) = some 1 := by decide +kernel
def wsX4_goOnWith : List Cond := .code yX4_goOnWith cX4_goOnWith 3 (some .boolean) :: BIG
theorem wX4_goOnWith : ∀ w ∈ wsX4_goOnWith, w ∈ BIG := in_c q_t2_36 (fun _ h => h)
theorem hX4_goOnWith : yX4_goOnWith.cls = RX4 ∧ yX4_goOnWith.cls ≠ "java/lang/invoke/MethodHandle" ∧ yX4_goOnWith.cls ≠ "java/lang/invoke/VarHandle" ∧ (parseMethodDescriptor yX4_goOnWith.desc).map (fun d => d.parameters.length) = some 2 := by decide +kernel
def wsX1_d : List Cond := .code yX1_d cX1_d 1 (some .int) :: BIG
theorem wX1_d : ∀ w ∈ wsX1_d, w ∈ BIG := in_c q_t2_39 (fun _ h => h)
theorem hX1_d : yX1_d.cls = RX1 ∧ yX1_d.cls ≠ "java/lang/invoke/MethodHandle" ∧ yX1_d.cls ≠ "java/lang/invoke/VarHandle" ∧ (parseMethodDescriptor yX1_d.desc).map (fun d => d.parameters.length) = some 1 := by decide +kernel
def wsX4_goOn : List Cond := .code yX4_goOn cX4_goOn 1 (some .boolean) :: BIG
theorem wX4_goOn : ∀ w ∈ wsX4_goOn, w ∈ BIG := in_c q_t2_43 (fun _ h => h)
theorem hX4_goOn : yX4_goOn.cls = RX4 ∧ yX4_goOn.cls ≠ "java/lang/invoke/MethodHandle" ∧ yX4_goOn.cls ≠ "java/lang/invoke/VarHandle" ∧ (parseMethodDescriptor yX4_goOn.desc).map (fun d => d.parameters.length) = some 0 := by decide +kernel
def wsX1_numberJ : List Cond := .code yX1_numberJ cX1_numberJ 1 (some .int) :: BIG
theorem wX1_numberJ : ∀ w ∈ wsX1_numberJ, w ∈ BIG := in_c q_t2_46 (fun _ h => h)
theorem hX1_numberJ : yX1_numberJ.cls = RX1 ∧ yX1_numberJ.cls ≠ "java/lang/invoke/MethodHandle" ∧ yX1_numberJ.cls ≠ "java/lang/invoke/VarHandle" ∧ (parseMethodDescriptor yX1_numberJ.desc).map (fun d => d.parameters.length) = some 1 := by decide +kernel
def wsX4_jump : List Cond := .code yX4_jump cX4_jump 3 (some .boolean) :: BIG
theorem wX4_jump : ∀ w ∈ wsX4_jump, w ∈ BIG := in_c q_t2_50 (fun _ h => h)
theorem hX4_jump : yX4_jump.cls = RX4 ∧ yX4_jump.cls ≠ "java/lang/invoke/MethodHandle" ∧ yX4_jump.cls ≠ "java/lang/invoke/VarHandle" ∧ (parseMethodDescriptor yX4_jump.desc).map (fun d => d.parameters.length) = some 2 := by decide +kernel
def wsX4_jumpByRegister : List Cond := .code yX4_jumpByRegister cX4_jumpByRegister 2 (some .boolean) :: BIG
theorem wX4_jumpByRegister : ∀ w ∈ wsX4_jumpByRegister, w ∈ BIG := in_c q_t2_54 (fun _ h => h)
theorem hX4_jumpByRegister : yX4_jumpByRegister.cls = RX4 ∧ yX4_jumpByRegister.cls ≠ "java/lang/invoke/MethodHandle" ∧ yX4_jumpByRegister.cls ≠ "java/lang/invoke/VarHandle" ∧ (parseMethodDescriptor yX4_jumpByRegister.desc).map (fun d => d.parameters.length) = some 1 := by decide +kernel
def wsX1_f : List Cond := .code yX1_f cX1_f 1 (some .int) :: BIG
theorem wX1_f : ∀ w ∈ wsX1_f, w ∈ BIG := in_c q_t2_57 (fun _ h => h)
theorem hX1_f : yX1_f.cls = RX1 ∧ yX1_f.cls ≠ "java/lang/invoke/MethodHandle" ∧ yX1_f.cls ≠ "java/lang/invoke/VarHandle" ∧ (parseMethodDescriptor yX1_f.desc).map (fun d => d.parameters.length) = some 1 := by decide +kernel
def wsX4_unknown : List Cond := .code yX4_unknown cX4_unknown 2 (some .boolean) :: BIG
theorem wX4_unknown : ∀ w ∈ wsX4_unknown, w ∈ BIG := in_c q_t2_61 (fun _ h => h)
theorem hX4_unknown : yX4_unknown.cls = RX4 ∧ yX4_unknown.cls ≠ "java/lang/invoke/MethodHandle" ∧ yX4_unknown.cls ≠ "java/lang/invoke/VarHandle" ∧ (parseMethodDescriptor yX4_unknown.desc).map (fun d => d.parameters.length) = some 1 := by decide +kernel
def wsX4_valueA : List Cond := .code yX4_valueA cX4_valueA 2 (some .int) :: BIG
theorem wX4_valueA : ∀ w ∈ wsX4_valueA, w ∈ BIG := in_c q_t2_65 (fun _ h => h)
theorem hX4_valueA : yX4_valueA.cls = RX4 ∧ yX4_valueA.cls ≠ "java/lang/invoke/MethodHandle" ∧ yX4_valueA.cls ≠ "java/lang/invoke/VarHandle" ∧ (parseMethodDescriptor yX4_valueA.desc).map (fun d => d.parameters.length) = some 1 := by decide +kernel
def wsX1_a : List Cond := .code yX1_a cX1_a 1 (some .int) :: BIG
theorem wX1_a : ∀ w ∈ wsX1_a, w ∈ BIG := in_c q_t2_68 (fun _ h => h)
theorem hX1_a : yX1_a.cls = RX1 ∧ yX1_a.cls ≠ "java/lang/invoke/MethodHandle" ∧ yX1_a.cls ≠ "java/lang/invoke/VarHandle" ∧ (parseMethodDescriptor yX1_a.desc).map (fun d => d.parameters.length) = some 1 := by decide +kernel
def wsX4_readRegister : List Cond := .code yX4_readRegister cX4_readRegister 2 (some .int) :: BIG
theorem wX4_readRegister : ∀ w ∈ wsX4_readRegister, w ∈ BIG := in_c q_t2_72 (fun _ h => h)
theorem hX4_readRegister : yX4_readRegister.cls = RX4 ∧ yX4_readRegister.cls ≠ "java/lang/invoke/MethodHandle" ∧ yX4_readRegister.cls ≠ "java/lang/invoke/VarHandle" ∧ (parseMethodDescriptor yX4_readRegister.desc).map (fun d => d.parameters.length) = some 1 := by decide +kernel
def wsX1_numberI : List Cond := .code yX1_numberI cX1_numberI 1 (some .int) :: BIG
theorem wX1_numberI : ∀ w ∈ wsX1_numberI, w ∈ BIG := in_c q_t2_75 (fun _ h => h)
theorem hX1_numberI : yX1_numberI.cls = RX1 ∧ yX1_numberI.cls ≠ "java/lang/invoke/MethodHandle" ∧ yX1_numberI.cls ≠ "java/lang/invoke/VarHandle" ∧ (parseMethodDescriptor yX1_numberI.desc).map (fun d => d.parameters.length) = some 1 := by decide +kernel
def wsX4_branch : List Cond := .code yX4_branch cX4_branch 3 (some .boolean) :: BIG
theorem wX4_branch : ∀ w ∈ wsX4_branch, w ∈ BIG := in_c q_t2_79 (fun _ h => h)
theorem hX4_branch : yX4_branch.cls = RX4 ∧ yX4_branch.cls ≠ "java/lang/invoke/MethodHandle" ∧ yX4_branch.cls ≠ "java/lang/invoke/VarHandle" ∧ (parseMethodDescriptor yX4_branch.desc).map (fun d => d.parameters.length) = some 1 := by decide +kernel
def wsX4_valueB : List Cond := .code yX4_valueB cX4_valueB 2 (some .int) :: BIG
theorem wX4_valueB : ∀ w ∈ wsX4_valueB, w ∈ BIG := in_c q_t2_83 (fun _ h => h)
theorem hX4_valueB : yX4_valueB.cls = RX4 ∧ yX4_valueB.cls ≠ "java/lang/invoke/MethodHandle" ∧ yX4_valueB.cls ≠ "java/lang/invoke/VarHandle" ∧ (parseMethodDescriptor yX4_valueB.desc).map (fun d => d.parameters.length) = some 1 := by decide +kernel
def wsX1_b : List Cond := .code yX1_b cX1_b 1 (some .int) :: BIG
theorem wX1_b : ∀ w ∈ wsX1_b, w ∈ BIG := in_c q_t2_86 (fun _ h => h)
theorem hX1_b : yX1_b.cls = RX1 ∧ yX1_b.cls ≠ "java/lang/invoke/MethodHandle" ∧ yX1_b.cls ≠ "java/lang/invoke/VarHandle" ∧ (parseMethodDescriptor yX1_b.desc).map (fun d => d.parameters.length) = some 1 := by decide +kernel
def wsX0_holds : List Cond := .code yX0_holds cX0_holds 3 (some .boolean) :: BIG
theorem wX0_holds : ∀ w ∈ wsX0_holds, w ∈ BIG := in_c q_t2_89 (fun _ h => h)
theorem hX0_holds : yX0_holds.cls = RX0 ∧ yX0_holds.cls ≠ "java/lang/invoke/MethodHandle" ∧ yX0_holds.cls ≠ "java/lang/invoke/VarHandle" ∧ (parseMethodDescriptor yX0_holds.desc).map (fun d => d.parameters.length) = some 3 := by decide +kernel
def wsX0_isBelow : List Cond := .code yX0_isBelow cX0_isBelow 2 (some .boolean) :: BIG
theorem wX0_isBelow : ∀ w ∈ wsX0_isBelow, w ∈ BIG := in_c q_t2_92 (fun _ h => h)
theorem hX0_isBelow : yX0_isBelow.cls = RX0 ∧ yX0_isBelow.cls ≠ "java/lang/invoke/MethodHandle" ∧ yX0_isBelow.cls ≠ "java/lang/invoke/VarHandle" ∧ (parseMethodDescriptor yX0_isBelow.desc).map (fun d => d.parameters.length) = some 2 := by decide +kernel
def wsX1_numberB : List Cond := .code yX1_numberB cX1_numberB 1 (some .int) :: BIG
theorem wX1_numberB : ∀ w ∈ wsX1_numberB, w ∈ BIG := in_c q_t2_96 (fun _ h => h)
theorem hX1_numberB : yX1_numberB.cls = RX1 ∧ yX1_numberB.cls ≠ "java/lang/invoke/MethodHandle" ∧ yX1_numberB.cls ≠ "java/lang/invoke/VarHandle" ∧ (parseMethodDescriptor yX1_numberB.desc).map (fun d => d.parameters.length) = some 1 := by decide +kernel
def wsX4_load : List Cond := .code yX4_load cX4_load 4 (some .boolean) :: BIG
theorem wX4_load : ∀ w ∈ wsX4_load, w ∈ BIG := in_c q_t2_100 (fun _ h => h)
theorem hX4_load : yX4_load.cls = RX4 ∧ yX4_load.cls ≠ "java/lang/invoke/MethodHandle" ∧ yX4_load.cls ≠ "java/lang/invoke/VarHandle" ∧ (parseMethodDescriptor yX4_load.desc).map (fun d => d.parameters.length) = some 1 := by decide +kernel
def wsX3_isBy : List Cond := .code yX3_isBy cX3_isBy 2 (some .boolean) :: BIG
theorem wX3_isBy : ∀ w ∈ wsX3_isBy, w ∈ BIG := in_c q_t2_103 (fun _ h => h)
theorem hX3_isBy : yX3_isBy.cls = RX3 ∧ yX3_isBy.cls ≠ "java/lang/invoke/MethodHandle" ∧ yX3_isBy.cls ≠ "java/lang/invoke/VarHandle" ∧ (parseMethodDescriptor yX3_isBy.desc).map (fun d => d.parameters.length) = some 2 := by decide +kernel
def wsX3_readPart : List Cond := .code yX3_readPart cX3_readPart 4 (some .int) :: BIG
theorem wX3_readPart : ∀ w ∈ wsX3_readPart, w ∈ BIG := in_c q_t2_107 (fun _ h => h)
theorem hX3_readPart : yX3_readPart.cls = RX3 ∧ yX3_readPart.cls ≠ "java/lang/invoke/MethodHandle" ∧ yX3_readPart.cls ≠ "java/lang/invoke/VarHandle" ∧ (parseMethodDescriptor yX3_readPart.desc).map (fun d => d.parameters.length) = some 2 := by decide +kernel
def wsX3_shift : List Cond := .code yX3_shift cX3_shift 1 (some .int) :: BIG
theorem wX3_shift : ∀ w ∈ wsX3_shift, w ∈ BIG := in_c q_t2_111 (fun _ h => h)
theorem hX3_shift : yX3_shift.cls = RX3 ∧ yX3_shift.cls ≠ "java/lang/invoke/MethodHandle" ∧ yX3_shift.cls ≠ "java/lang/invoke/VarHandle" ∧ (parseMethodDescriptor yX3_shift.desc).map (fun d => d.parameters.length) = some 1 := by decide +kernel
def wsX4_store : List Cond := .code yX4_store cX4_store 4 (some .boolean) :: BIG
theorem wX4_store : ∀ w ∈ wsX4_store, w ∈ BIG := in_c q_t2_116 (fun _ h => h)
theorem hX4_store : yX4_store.cls = RX4 ∧ yX4_store.cls ≠ "java/lang/invoke/MethodHandle" ∧ yX4_store.cls ≠ "java/lang/invoke/VarHandle" ∧ (parseMethodDescriptor yX4_store.desc).map (fun d => d.parameters.length) = some 1 := by decide +kernel
def wsX1_numberS : List Cond := .code yX1_numberS cX1_numberS 1 (some .int) :: BIG
theorem wX1_numberS : ∀ w ∈ wsX1_numberS, w ∈ BIG := in_c q_t2_119 (fun _ h => h)
theorem hX1_numberS : yX1_numberS.cls = RX1 ∧ yX1_numberS.cls ≠ "java/lang/invoke/MethodHandle" ∧ yX1_numberS.cls ≠ "java/lang/invoke/VarHandle" ∧ (parseMethodDescriptor yX1_numberS.desc).map (fun d => d.parameters.length) = some 1 := by decide +kernel
def wsX3_writePart : List Cond := .code yX3_writePart cX3_writePart 6 none :: BIG
theorem wX3_writePart : ∀ w ∈ wsX3_writePart, w ∈ BIG := in_c q_t2_124 (fun _ h => h)
theorem hX3_writePart : yX3_writePart.cls = RX3 ∧ yX3_writePart.cls ≠ "java/lang/invoke/MethodHandle" ∧ yX3_writePart.cls ≠ "java/lang/invoke/VarHandle" ∧ (parseMethodDescriptor yX3_writePart.desc).map (fun d => d.parameters.length) = some 3 := by decide +kernel
def wsX3_partMask : List Cond := .code yX3_partMask cX3_partMask 1 (some .int) :: BIG
theorem wX3_partMask : ∀ w ∈ wsX3_partMask, w ∈ BIG := in_c q_t2_127 (fun _ h => h)
theorem hX3_partMask : yX3_partMask.cls = RX3 ∧ yX3_partMask.cls ≠ "java/lang/invoke/MethodHandle" ∧ yX3_partMask.cls ≠ "java/lang/invoke/VarHandle" ∧ (parseMethodDescriptor yX3_partMask.desc).map (fun d => d.parameters.length) = some 1 := by decide +kernel
def wsX4_computeWithNumber : List Cond := .code yX4_computeWithNumber cX4_computeWithNumber 4 (some .boolean) :: BIG
theorem wX4_computeWithNumber : ∀ w ∈ wsX4_computeWithNumber, w ∈ BIG := in_c q_t2_132 (fun _ h => h)
theorem hX4_computeWithNumber : yX4_computeWithNumber.cls = RX4 ∧ yX4_computeWithNumber.cls ≠ "java/lang/invoke/MethodHandle" ∧ yX4_computeWithNumber.cls ≠ "java/lang/invoke/VarHandle" ∧ (parseMethodDescriptor yX4_computeWithNumber.desc).map (fun d => d.parameters.length) = some 1 := by decide +kernel
def wsX1_s : List Cond := .code yX1_s cX1_s 1 (some .int) :: BIG
theorem wX1_s : ∀ w ∈ wsX1_s, w ∈ BIG := in_c q_t2_135 (fun _ h => h)
theorem hX1_s : yX1_s.cls = RX1 ∧ yX1_s.cls ≠ "java/lang/invoke/MethodHandle" ∧ yX1_s.cls ≠ "java/lang/invoke/VarHandle" ∧ (parseMethodDescriptor yX1_s.desc).map (fun d => d.parameters.length) = some 1 := by decide +kernel
def wsX0_basic : List Cond := .code yX0_basic cX0_basic 3 (some .int) :: BIG
theorem wX0_basic : ∀ w ∈ wsX0_basic, w ∈ BIG := in_c q_t2_138 (fun _ h => h)
theorem hX0_basic : yX0_basic.cls = RX0 ∧ yX0_basic.cls ≠ "java/lang/invoke/MethodHandle" ∧ yX0_basic.cls ≠ "java/lang/invoke/VarHandle" ∧ (parseMethodDescriptor yX0_basic.desc).map (fun d => d.parameters.length) = some 3 := by decide +kernel
def wsX4_computeWithRegister : List Cond := .code yX4_computeWithRegister cX4_computeWithRegister 4 (some .boolean) :: BIG
theorem wX4_computeWithRegister : ∀ w ∈ wsX4_computeWithRegister, w ∈ BIG := in_c q_t2_142 (fun _ h => h)
theorem hX4_computeWithRegister : yX4_computeWithRegister.cls = RX4 ∧ yX4_computeWithRegister.cls ≠ "java/lang/invoke/MethodHandle" ∧ yX4_computeWithRegister.cls ≠ "java/lang/invoke/VarHandle" ∧ (parseMethodDescriptor yX4_computeWithRegister.desc).map (fun d => d.parameters.length) = some 1 := by decide +kernel
def wsX0_productOrQuotient : List Cond := .code yX0_productOrQuotient cX0_productOrQuotient 3 (some .int) :: BIG
theorem wX0_productOrQuotient : ∀ w ∈ wsX0_productOrQuotient, w ∈ BIG := in_c q_t2_145 (fun _ h => h)
theorem hX0_productOrQuotient : yX0_productOrQuotient.cls = RX0 ∧ yX0_productOrQuotient.cls ≠ "java/lang/invoke/MethodHandle" ∧ yX0_productOrQuotient.cls ≠ "java/lang/invoke/VarHandle" ∧ (parseMethodDescriptor yX0_productOrQuotient.desc).map (fun d => d.parameters.length) = some 3 := by decide +kernel
def wsX0_quotient : List Cond := .code yX0_quotient cX0_quotient 4 (some .int) :: BIG
theorem wX0_quotient : ∀ w ∈ wsX0_quotient, w ∈ BIG := in_c q_t2_148 (fun _ h => h)
theorem hX0_quotient : yX0_quotient.cls = RX0 ∧ yX0_quotient.cls ≠ "java/lang/invoke/MethodHandle" ∧ yX0_quotient.cls ≠ "java/lang/invoke/VarHandle" ∧ (parseMethodDescriptor yX0_quotient.desc).map (fun d => d.parameters.length) = some 2 := by decide +kernel
def wsX0_rest : List Cond := .code yX0_rest cX0_rest 4 (some .int) :: BIG
theorem wX0_rest : ∀ w ∈ wsX0_rest, w ∈ BIG := in_c q_t2_151 (fun _ h => h)
theorem hX0_rest : yX0_rest.cls = RX0 ∧ yX0_rest.cls ≠ "java/lang/invoke/MethodHandle" ∧ yX0_rest.cls ≠ "java/lang/invoke/VarHandle" ∧ (parseMethodDescriptor yX0_rest.desc).map (fun d => d.parameters.length) = some 2 := by decide +kernel
def wsX4_callSystem : List Cond := .code yX4_callSystem cX4_callSystem 2 (some .boolean) :: BIG
theorem wX4_callSystem : ∀ w ∈ wsX4_callSystem, w ∈ BIG := in_c q_t2_155 (fun _ h => h)
theorem hX4_callSystem : yX4_callSystem.cls = RX4 ∧ yX4_callSystem.cls ≠ "java/lang/invoke/MethodHandle" ∧ yX4_callSystem.cls ≠ "java/lang/invoke/VarHandle" ∧ (parseMethodDescriptor yX4_callSystem.desc).map (fun d => d.parameters.length) = some 1 := by decide +kernel
def wsX2_leaveTrap : List Cond := .code yX2_leaveTrap cX2_leaveTrap 1 (some .int) :: BIG
theorem wX2_leaveTrap : ∀ w ∈ wsX2_leaveTrap, w ∈ BIG := in_c q_t2_159 (fun _ h => h)
theorem hX2_leaveTrap : yX2_leaveTrap.cls = RX2 ∧ yX2_leaveTrap.cls ≠ "java/lang/invoke/MethodHandle" ∧ yX2_leaveTrap.cls ≠ "java/lang/invoke/VarHandle" ∧ (parseMethodDescriptor yX2_leaveTrap.desc).map (fun d => d.parameters.length) = some 0 := by decide +kernel
def wsX4_exchangeControl : List Cond := .code yX4_exchangeControl cX4_exchangeControl 8 (some .boolean) :: BIG
theorem wX4_exchangeControl : ∀ w ∈ wsX4_exchangeControl, w ∈ BIG := in_c q_t2_163 (fun _ h => h)
theorem hX4_exchangeControl : yX4_exchangeControl.cls = RX4 ∧ yX4_exchangeControl.cls ≠ "java/lang/invoke/MethodHandle" ∧ yX4_exchangeControl.cls ≠ "java/lang/invoke/VarHandle" ∧ (parseMethodDescriptor yX4_exchangeControl.desc).map (fun d => d.parameters.length) = some 1 := by decide +kernel
def wsX1_controlNumber : List Cond := .code yX1_controlNumber cX1_controlNumber 1 (some .int) :: BIG
theorem wX1_controlNumber : ∀ w ∈ wsX1_controlNumber, w ∈ BIG := in_c q_t2_166 (fun _ h => h)
theorem hX1_controlNumber : yX1_controlNumber.cls = RX1 ∧ yX1_controlNumber.cls ≠ "java/lang/invoke/MethodHandle" ∧ yX1_controlNumber.cls ≠ "java/lang/invoke/VarHandle" ∧ (parseMethodDescriptor yX1_controlNumber.desc).map (fun d => d.parameters.length) = some 1 := by decide +kernel
def wsX2_isWritable : List Cond := .code yX2_isWritable cX2_isWritable 1 (some .boolean) :: BIG
theorem wX2_isWritable : ∀ w ∈ wsX2_isWritable, w ∈ BIG := in_c q_t2_169 (fun _ h => h)
theorem hX2_isWritable : yX2_isWritable.cls = RX2 ∧ yX2_isWritable.cls ≠ "java/lang/invoke/MethodHandle" ∧ yX2_isWritable.cls ≠ "java/lang/invoke/VarHandle" ∧ (parseMethodDescriptor yX2_isWritable.desc).map (fun d => d.parameters.length) = some 1 := by decide +kernel
def wsX2_isKnown : List Cond := .code yX2_isKnown cX2_isKnown 1 (some .boolean) :: BIG
theorem wX2_isKnown : ∀ w ∈ wsX2_isKnown, w ∈ BIG := in_c q_t2_172 (fun _ h => h)
theorem hX2_isKnown : yX2_isKnown.cls = RX2 ∧ yX2_isKnown.cls ≠ "java/lang/invoke/MethodHandle" ∧ yX2_isKnown.cls ≠ "java/lang/invoke/VarHandle" ∧ (parseMethodDescriptor yX2_isKnown.desc).map (fun d => d.parameters.length) = some 1 := by decide +kernel
def wsX2_read : List Cond := .code yX2_read cX2_read 2 (some .int) :: BIG
theorem wX2_read : ∀ w ∈ wsX2_read, w ∈ BIG := in_c q_t2_177 (fun _ h => h)
theorem hX2_read : yX2_read.cls = RX2 ∧ yX2_read.cls ≠ "java/lang/invoke/MethodHandle" ∧ yX2_read.cls ≠ "java/lang/invoke/VarHandle" ∧ (parseMethodDescriptor yX2_read.desc).map (fun d => d.parameters.length) = some 1 := by decide +kernel
def wsX0_exchanged : List Cond := .code yX0_exchanged cX0_exchanged 3 (some .int) :: BIG
theorem wX0_exchanged : ∀ w ∈ wsX0_exchanged, w ∈ BIG := in_c q_t2_180 (fun _ h => h)
theorem hX0_exchanged : yX0_exchanged.cls = RX0 ∧ yX0_exchanged.cls ≠ "java/lang/invoke/MethodHandle" ∧ yX0_exchanged.cls ≠ "java/lang/invoke/VarHandle" ∧ (parseMethodDescriptor yX0_exchanged.desc).map (fun d => d.parameters.length) = some 3 := by decide +kernel
def wsX2_write : List Cond := .code yX2_write cX2_write 3 none :: BIG
theorem wX2_write : ∀ w ∈ wsX2_write, w ∈ BIG := in_c q_t2_184 (fun _ h => h)
theorem hX2_write : yX2_write.cls = RX2 ∧ yX2_write.cls ≠ "java/lang/invoke/MethodHandle" ∧ yX2_write.cls ≠ "java/lang/invoke/VarHandle" ∧ (parseMethodDescriptor yX2_write.desc).map (fun d => d.parameters.length) = some 2 := by decide +kernel
def wsX4_register : List Cond := .code yX4_register cX4_register 2 (some .int) :: BIG
theorem wX4_register : ∀ w ∈ wsX4_register, w ∈ BIG := in_c q_t2_192 (fun _ h => h)
theorem hX4_register : yX4_register.cls = RX4 ∧ yX4_register.cls ≠ "java/lang/invoke/MethodHandle" ∧ yX4_register.cls ≠ "java/lang/invoke/VarHandle" ∧ (parseMethodDescriptor yX4_register.desc).map (fun d => d.parameters.length) = some 1 := by decide +kernel
def wsX4_control : List Cond := .code yX4_control cX4_control 2 (some .int) :: BIG
theorem wX4_control : ∀ w ∈ wsX4_control, w ∈ BIG := in_c q_t2_215 (fun _ h => h)
theorem hX4_control : yX4_control.cls = RX4 ∧ yX4_control.cls ≠ "java/lang/invoke/MethodHandle" ∧ yX4_control.cls ≠ "java/lang/invoke/VarHandle" ∧ (parseMethodDescriptor yX4_control.desc).map (fun d => d.parameters.length) = some 1 := by decide +kernel
def wsX4_word : List Cond := .code yX4_word cX4_word 2 (some .int) :: BIG
theorem wX4_word : ∀ w ∈ wsX4_word, w ∈ BIG := in_c q_t2_223 (fun _ h => h)
theorem hX4_word : yX4_word.cls = RX4 ∧ yX4_word.cls ≠ "java/lang/invoke/MethodHandle" ∧ yX4_word.cls ≠ "java/lang/invoke/VarHandle" ∧ (parseMethodDescriptor yX4_word.desc).map (fun d => d.parameters.length) = some 1 := by decide +kernel
def wsX5_init : List Cond := .code yX5_init cX5_init 1 none :: BIG
theorem wX5_init : ∀ w ∈ wsX5_init, w ∈ BIG := in_c q_t2_229 (fun _ h => h)
theorem hX5_init : yX5_init.cls = RX5 ∧ yX5_init.cls ≠ "java/lang/invoke/MethodHandle" ∧ yX5_init.cls ≠ "java/lang/invoke/VarHandle" ∧ (parseMethodDescriptor yX5_init.desc).map (fun d => d.parameters.length) = some 0 := by decide +kernel
def wsX5_thrown : List Cond := .code yX5_thrown cX5_thrown 1 (some .int) :: BIG
theorem wX5_thrown : ∀ w ∈ wsX5_thrown, w ∈ BIG := in_c q_t3_40 (fun _ h => h)
theorem hX5_thrown : yX5_thrown.cls = RX5 ∧ yX5_thrown.cls ≠ "java/lang/invoke/MethodHandle" ∧ yX5_thrown.cls ≠ "java/lang/invoke/VarHandle" ∧ (parseMethodDescriptor yX5_thrown.desc).map (fun d => d.parameters.length) = some 0 := by decide +kernel
def wsX5_set : List Cond := .code yX5_set cX5_set 3 (some .boolean) :: BIG
theorem wX5_set : ∀ w ∈ wsX5_set, w ∈ BIG := in_c q_t3_44 (fun _ h => h)
theorem hX5_set : yX5_set.cls = RX5 ∧ yX5_set.cls ≠ "java/lang/invoke/MethodHandle" ∧ yX5_set.cls ≠ "java/lang/invoke/VarHandle" ∧ (parseMethodDescriptor yX5_set.desc).map (fun d => d.parameters.length) = some 2 := by decide +kernel
def wsX5_isAddress : List Cond := .code yX5_isAddress cX5_isAddress 1 (some .boolean) :: BIG
theorem wX5_isAddress : ∀ w ∈ wsX5_isAddress, w ∈ BIG := in_c q_t3_47 (fun _ h => h)
theorem hX5_isAddress : yX5_isAddress.cls = RX5 ∧ yX5_isAddress.cls ≠ "java/lang/invoke/MethodHandle" ∧ yX5_isAddress.cls ≠ "java/lang/invoke/VarHandle" ∧ (parseMethodDescriptor yX5_isAddress.desc).map (fun d => d.parameters.length) = some 1 := by decide +kernel
def wsX5_put : List Cond := .code yX5_put cX5_put 3 (some .boolean) :: BIG
theorem wX5_put : ∀ w ∈ wsX5_put, w ∈ BIG := in_c q_t3_51 (fun _ h => h)
theorem hX5_put : yX5_put.cls = RX5 ∧ yX5_put.cls ≠ "java/lang/invoke/MethodHandle" ∧ yX5_put.cls ≠ "java/lang/invoke/VarHandle" ∧ (parseMethodDescriptor yX5_put.desc).map (fun d => d.parameters.length) = some 2 := by decide +kernel
def wsX5_line : List Cond := .code yX5_line cX5_line 2 none :: BIG
theorem wX5_line : ∀ w ∈ wsX5_line, w ∈ BIG := in_c q_t3_55 (fun _ h => h)
theorem hX5_line : yX5_line.cls = RX5 ∧ yX5_line.cls ≠ "java/lang/invoke/MethodHandle" ∧ yX5_line.cls ≠ "java/lang/invoke/VarHandle" ∧ (parseMethodDescriptor yX5_line.desc).map (fun d => d.parameters.length) = some 1 := by decide +kernel
def wsX5_run : List Cond := .code yX5_run cX5_run 3 (some .int) :: BIG
theorem wX5_run : ∀ w ∈ wsX5_run, w ∈ BIG := in_c q_t3_59 (fun _ h => h)
theorem hX5_run : yX5_run.cls = RX5 ∧ yX5_run.cls ≠ "java/lang/invoke/MethodHandle" ∧ yX5_run.cls ≠ "java/lang/invoke/VarHandle" ∧ (parseMethodDescriptor yX5_run.desc).map (fun d => d.parameters.length) = some 1 := by decide +kernel
def wsX5_raise : List Cond := .code yX5_raise cX5_raise 2 (some .int) :: BIG
theorem wX5_raise : ∀ w ∈ wsX5_raise, w ∈ BIG := in_c q_t3_63 (fun _ h => h)
theorem hX5_raise : yX5_raise.cls = RX5 ∧ yX5_raise.cls ≠ "java/lang/invoke/MethodHandle" ∧ yX5_raise.cls ≠ "java/lang/invoke/VarHandle" ∧ (parseMethodDescriptor yX5_raise.desc).map (fun d => d.parameters.length) = some 1 := by decide +kernel
def wsX5_step : List Cond := .code yX5_step cX5_step 2 none :: BIG
theorem wX5_step : ∀ w ∈ wsX5_step, w ∈ BIG := in_c q_t3_68 (fun _ h => h)
theorem hX5_step : yX5_step.cls = RX5 ∧ yX5_step.cls ≠ "java/lang/invoke/MethodHandle" ∧ yX5_step.cls ≠ "java/lang/invoke/VarHandle" ∧ (parseMethodDescriptor yX5_step.desc).map (fun d => d.parameters.length) = some 0 := by decide +kernel
def wsX5_trap : List Cond := .code yX5_trap cX5_trap 3 none :: BIG
theorem wX5_trap : ∀ w ∈ wsX5_trap, w ∈ BIG := in_c q_t3_73 (fun _ h => h)
theorem hX5_trap : yX5_trap.cls = RX5 ∧ yX5_trap.cls ≠ "java/lang/invoke/MethodHandle" ∧ yX5_trap.cls ≠ "java/lang/invoke/VarHandle" ∧ (parseMethodDescriptor yX5_trap.desc).map (fun d => d.parameters.length) = some 2 := by decide +kernel
def wsX5_instruct : List Cond := .code yX5_instruct cX5_instruct 1 none :: BIG
theorem wX5_instruct : ∀ w ∈ wsX5_instruct, w ∈ BIG := in_c q_t3_77 (fun _ h => h)
theorem hX5_instruct : yX5_instruct.cls = RX5 ∧ yX5_instruct.cls ≠ "java/lang/invoke/MethodHandle" ∧ yX5_instruct.cls ≠ "java/lang/invoke/VarHandle" ∧ (parseMethodDescriptor yX5_instruct.desc).map (fun d => d.parameters.length) = some 0 := by decide +kernel
def wsX5_bits : List Cond := .code yX5_bits cX5_bits 3 (some .int) :: BIG
theorem wX5_bits : ∀ w ∈ wsX5_bits, w ∈ BIG := in_c q_t3_81 (fun _ h => h)
theorem hX5_bits : yX5_bits.cls = RX5 ∧ yX5_bits.cls ≠ "java/lang/invoke/MethodHandle" ∧ yX5_bits.cls ≠ "java/lang/invoke/VarHandle" ∧ (parseMethodDescriptor yX5_bits.desc).map (fun d => d.parameters.length) = some 2 := by decide +kernel
def wsX5_numberU : List Cond := .code yX5_numberU cX5_numberU 1 (some .int) :: BIG
theorem wX5_numberU : ∀ w ∈ wsX5_numberU, w ∈ BIG := in_c q_t3_85 (fun _ h => h)
theorem hX5_numberU : yX5_numberU.cls = RX5 ∧ yX5_numberU.cls ≠ "java/lang/invoke/MethodHandle" ∧ yX5_numberU.cls ≠ "java/lang/invoke/VarHandle" ∧ (parseMethodDescriptor yX5_numberU.desc).map (fun d => d.parameters.length) = some 0 := by decide +kernel
def wsX5_lay : List Cond := .code yX5_lay cX5_lay 3 none :: BIG
theorem wX5_lay : ∀ w ∈ wsX5_lay, w ∈ BIG := in_c q_t3_89 (fun _ h => h)
theorem hX5_lay : yX5_lay.cls = RX5 ∧ yX5_lay.cls ≠ "java/lang/invoke/MethodHandle" ∧ yX5_lay.cls ≠ "java/lang/invoke/VarHandle" ∧ (parseMethodDescriptor yX5_lay.desc).map (fun d => d.parameters.length) = some 1 := by decide +kernel
def wsX5_numberJ : List Cond := .code yX5_numberJ cX5_numberJ 1 (some .int) :: BIG
theorem wX5_numberJ : ∀ w ∈ wsX5_numberJ, w ∈ BIG := in_c q_t3_93 (fun _ h => h)
theorem hX5_numberJ : yX5_numberJ.cls = RX5 ∧ yX5_numberJ.cls ≠ "java/lang/invoke/MethodHandle" ∧ yX5_numberJ.cls ≠ "java/lang/invoke/VarHandle" ∧ (parseMethodDescriptor yX5_numberJ.desc).map (fun d => d.parameters.length) = some 0 := by decide +kernel
def wsX5_jump : List Cond := .code yX5_jump cX5_jump 3 none :: BIG
theorem wX5_jump : ∀ w ∈ wsX5_jump, w ∈ BIG := in_c q_t3_97 (fun _ h => h)
theorem hX5_jump : yX5_jump.cls = RX5 ∧ yX5_jump.cls ≠ "java/lang/invoke/MethodHandle" ∧ yX5_jump.cls ≠ "java/lang/invoke/VarHandle" ∧ (parseMethodDescriptor yX5_jump.desc).map (fun d => d.parameters.length) = some 1 := by decide +kernel
def wsX5_goes : List Cond := .code yX5_goes cX5_goes 2 (some .boolean) :: BIG
theorem wX5_goes : ∀ w ∈ wsX5_goes, w ∈ BIG := in_c q_t3_101 (fun _ h => h)
theorem hX5_goes : yX5_goes.cls = RX5 ∧ yX5_goes.cls ≠ "java/lang/invoke/MethodHandle" ∧ yX5_goes.cls ≠ "java/lang/invoke/VarHandle" ∧ (parseMethodDescriptor yX5_goes.desc).map (fun d => d.parameters.length) = some 1 := by decide +kernel
def wsX5_none : List Cond := .code yX5_none cX5_none 1 none :: BIG
theorem wX5_none : ∀ w ∈ wsX5_none, w ∈ BIG := in_c q_t3_105 (fun _ h => h)
theorem hX5_none : yX5_none.cls = RX5 ∧ yX5_none.cls ≠ "java/lang/invoke/MethodHandle" ∧ yX5_none.cls ≠ "java/lang/invoke/VarHandle" ∧ (parseMethodDescriptor yX5_none.desc).map (fun d => d.parameters.length) = some 0 := by decide +kernel
def wsX5_a : List Cond := .code yX5_a cX5_a 1 (some .int) :: BIG
theorem wX5_a : ∀ w ∈ wsX5_a, w ∈ BIG := in_c q_t3_109 (fun _ h => h)
theorem hX5_a : yX5_a.cls = RX5 ∧ yX5_a.cls ≠ "java/lang/invoke/MethodHandle" ∧ yX5_a.cls ≠ "java/lang/invoke/VarHandle" ∧ (parseMethodDescriptor yX5_a.desc).map (fun d => d.parameters.length) = some 0 := by decide +kernel
def wsX5_numberI : List Cond := .code yX5_numberI cX5_numberI 1 (some .int) :: BIG
theorem wX5_numberI : ∀ w ∈ wsX5_numberI, w ∈ BIG := in_c q_t3_113 (fun _ h => h)
theorem hX5_numberI : yX5_numberI.cls = RX5 ∧ yX5_numberI.cls ≠ "java/lang/invoke/MethodHandle" ∧ yX5_numberI.cls ≠ "java/lang/invoke/VarHandle" ∧ (parseMethodDescriptor yX5_numberI.desc).map (fun d => d.parameters.length) = some 0 := by decide +kernel
def wsX5_branch : List Cond := .code yX5_branch cX5_branch 4 none :: BIG
theorem wX5_branch : ∀ w ∈ wsX5_branch, w ∈ BIG := in_c q_t3_117 (fun _ h => h)
theorem hX5_branch : yX5_branch.cls = RX5 ∧ yX5_branch.cls ≠ "java/lang/invoke/MethodHandle" ∧ yX5_branch.cls ≠ "java/lang/invoke/VarHandle" ∧ (parseMethodDescriptor yX5_branch.desc).map (fun d => d.parameters.length) = some 0 := by decide +kernel
def wsX5_b : List Cond := .code yX5_b cX5_b 1 (some .int) :: BIG
theorem wX5_b : ∀ w ∈ wsX5_b, w ∈ BIG := in_c q_t3_121 (fun _ h => h)
theorem hX5_b : yX5_b.cls = RX5 ∧ yX5_b.cls ≠ "java/lang/invoke/MethodHandle" ∧ yX5_b.cls ≠ "java/lang/invoke/VarHandle" ∧ (parseMethodDescriptor yX5_b.desc).map (fun d => d.parameters.length) = some 0 := by decide +kernel
def wsX5_isBelow : List Cond := .code yX5_isBelow cX5_isBelow 2 (some .boolean) :: BIG
theorem wX5_isBelow : ∀ w ∈ wsX5_isBelow, w ∈ BIG := in_c q_t3_124 (fun _ h => h)
theorem hX5_isBelow : yX5_isBelow.cls = RX5 ∧ yX5_isBelow.cls ≠ "java/lang/invoke/MethodHandle" ∧ yX5_isBelow.cls ≠ "java/lang/invoke/VarHandle" ∧ (parseMethodDescriptor yX5_isBelow.desc).map (fun d => d.parameters.length) = some 2 := by decide +kernel
def wsX5_numberB : List Cond := .code yX5_numberB cX5_numberB 1 (some .int) :: BIG
theorem wX5_numberB : ∀ w ∈ wsX5_numberB, w ∈ BIG := in_c q_t3_129 (fun _ h => h)
theorem hX5_numberB : yX5_numberB.cls = RX5 ∧ yX5_numberB.cls ≠ "java/lang/invoke/MethodHandle" ∧ yX5_numberB.cls ≠ "java/lang/invoke/VarHandle" ∧ (parseMethodDescriptor yX5_numberB.desc).map (fun d => d.parameters.length) = some 0 := by decide +kernel
def wsX5_load : List Cond := .code yX5_load cX5_load 5 none :: BIG
theorem wX5_load : ∀ w ∈ wsX5_load, w ∈ BIG := in_c q_t3_133 (fun _ h => h)
theorem hX5_load : yX5_load.cls = RX5 ∧ yX5_load.cls ≠ "java/lang/invoke/MethodHandle" ∧ yX5_load.cls ≠ "java/lang/invoke/VarHandle" ∧ (parseMethodDescriptor yX5_load.desc).map (fun d => d.parameters.length) = some 0 := by decide +kernel
def wsX5_may : List Cond := .code yX5_may cX5_may 5 (some .boolean) :: BIG
theorem wX5_may : ∀ w ∈ wsX5_may, w ∈ BIG := in_c q_t3_137 (fun _ h => h)
theorem hX5_may : yX5_may.cls = RX5 ∧ yX5_may.cls ≠ "java/lang/invoke/MethodHandle" ∧ yX5_may.cls ≠ "java/lang/invoke/VarHandle" ∧ (parseMethodDescriptor yX5_may.desc).map (fun d => d.parameters.length) = some 4 := by decide +kernel
def wsX5_store : List Cond := .code yX5_store cX5_store 6 none :: BIG
theorem wX5_store : ∀ w ∈ wsX5_store, w ∈ BIG := in_c q_t3_142 (fun _ h => h)
theorem hX5_store : yX5_store.cls = RX5 ∧ yX5_store.cls ≠ "java/lang/invoke/MethodHandle" ∧ yX5_store.cls ≠ "java/lang/invoke/VarHandle" ∧ (parseMethodDescriptor yX5_store.desc).map (fun d => d.parameters.length) = some 0 := by decide +kernel
def wsX5_numberS : List Cond := .code yX5_numberS cX5_numberS 1 (some .int) :: BIG
theorem wX5_numberS : ∀ w ∈ wsX5_numberS, w ∈ BIG := in_c q_t3_146 (fun _ h => h)
theorem hX5_numberS : yX5_numberS.cls = RX5 ∧ yX5_numberS.cls ≠ "java/lang/invoke/MethodHandle" ∧ yX5_numberS.cls ≠ "java/lang/invoke/VarHandle" ∧ (parseMethodDescriptor yX5_numberS.desc).map (fun d => d.parameters.length) = some 0 := by decide +kernel
def wsX5_withNumber : List Cond := .code yX5_withNumber cX5_withNumber 5 none :: BIG
theorem wX5_withNumber : ∀ w ∈ wsX5_withNumber, w ∈ BIG := in_c q_t3_150 (fun _ h => h)
theorem hX5_withNumber : yX5_withNumber.cls = RX5 ∧ yX5_withNumber.cls ≠ "java/lang/invoke/MethodHandle" ∧ yX5_withNumber.cls ≠ "java/lang/invoke/VarHandle" ∧ (parseMethodDescriptor yX5_withNumber.desc).map (fun d => d.parameters.length) = some 0 := by decide +kernel
def wsX5_withRegister : List Cond := .code yX5_withRegister cX5_withRegister 5 none :: BIG
theorem wX5_withRegister : ∀ w ∈ wsX5_withRegister, w ∈ BIG := in_c q_t3_154 (fun _ h => h)
theorem hX5_withRegister : yX5_withRegister.cls = RX5 ∧ yX5_withRegister.cls ≠ "java/lang/invoke/MethodHandle" ∧ yX5_withRegister.cls ≠ "java/lang/invoke/VarHandle" ∧ (parseMethodDescriptor yX5_withRegister.desc).map (fun d => d.parameters.length) = some 0 := by decide +kernel
def wsX5_product : List Cond := .code yX5_product cX5_product 4 none :: BIG
theorem wX5_product : ∀ w ∈ wsX5_product, w ∈ BIG := in_c q_t3_158 (fun _ h => h)
theorem hX5_product : yX5_product.cls = RX5 ∧ yX5_product.cls ≠ "java/lang/invoke/MethodHandle" ∧ yX5_product.cls ≠ "java/lang/invoke/VarHandle" ∧ (parseMethodDescriptor yX5_product.desc).map (fun d => d.parameters.length) = some 3 := by decide +kernel
def wsX5_upper : List Cond := .code yX5_upper cX5_upper 10 (some .int) :: BIG
theorem wX5_upper : ∀ w ∈ wsX5_upper, w ∈ BIG := in_c q_t3_161 (fun _ h => h)
theorem hX5_upper : yX5_upper.cls = RX5 ∧ yX5_upper.cls ≠ "java/lang/invoke/MethodHandle" ∧ yX5_upper.cls ≠ "java/lang/invoke/VarHandle" ∧ (parseMethodDescriptor yX5_upper.desc).map (fun d => d.parameters.length) = some 2 := by decide +kernel
def wsX5_quotient : List Cond := .code yX5_quotient cX5_quotient 6 (some .int) :: BIG
theorem wX5_quotient : ∀ w ∈ wsX5_quotient, w ∈ BIG := in_c q_t3_164 (fun _ h => h)
theorem hX5_quotient : yX5_quotient.cls = RX5 ∧ yX5_quotient.cls ≠ "java/lang/invoke/MethodHandle" ∧ yX5_quotient.cls ≠ "java/lang/invoke/VarHandle" ∧ (parseMethodDescriptor yX5_quotient.desc).map (fun d => d.parameters.length) = some 2 := by decide +kernel
def wsX5_system : List Cond := .code yX5_system cX5_system 2 none :: BIG
theorem wX5_system : ∀ w ∈ wsX5_system, w ∈ BIG := in_c q_t3_168 (fun _ h => h)
theorem hX5_system : yX5_system.cls = RX5 ∧ yX5_system.cls ≠ "java/lang/invoke/MethodHandle" ∧ yX5_system.cls ≠ "java/lang/invoke/VarHandle" ∧ (parseMethodDescriptor yX5_system.desc).map (fun d => d.parameters.length) = some 0 := by decide +kernel
def wsX5_change : List Cond := .code yX5_change cX5_change 7 none :: BIG
theorem wX5_change : ∀ w ∈ wsX5_change, w ∈ BIG := in_c q_t3_174 (fun _ h => h)
theorem hX5_change : yX5_change.cls = RX5 ∧ yX5_change.cls ≠ "java/lang/invoke/MethodHandle" ∧ yX5_change.cls ≠ "java/lang/invoke/VarHandle" ∧ (parseMethodDescriptor yX5_change.desc).map (fun d => d.parameters.length) = some 0 := by decide +kernel
def wsX5_controlOf : List Cond := .code yX5_controlOf cX5_controlOf 1 (some .int) :: BIG
theorem wX5_controlOf : ∀ w ∈ wsX5_controlOf, w ∈ BIG := in_c q_t3_177 (fun _ h => h)
theorem hX5_controlOf : yX5_controlOf.cls = RX5 ∧ yX5_controlOf.cls ≠ "java/lang/invoke/MethodHandle" ∧ yX5_controlOf.cls ≠ "java/lang/invoke/VarHandle" ∧ (parseMethodDescriptor yX5_controlOf.desc).map (fun d => d.parameters.length) = some 1 := by decide +kernel
def wsX5_has : List Cond := .code yX5_has cX5_has 2 (some .int) :: BIG
theorem wX5_has : ∀ w ∈ wsX5_has, w ∈ BIG := in_c q_t3_181 (fun _ h => h)
theorem hX5_has : yX5_has.cls = RX5 ∧ yX5_has.cls ≠ "java/lang/invoke/MethodHandle" ∧ yX5_has.cls ≠ "java/lang/invoke/VarHandle" ∧ (parseMethodDescriptor yX5_has.desc).map (fun d => d.parameters.length) = some 1 := by decide +kernel
def wsX5_become : List Cond := .code yX5_become cX5_become 3 none :: BIG
theorem wX5_become : ∀ w ∈ wsX5_become, w ∈ BIG := in_c q_t3_185 (fun _ h => h)
theorem hX5_become : yX5_become.cls = RX5 ∧ yX5_become.cls ≠ "java/lang/invoke/MethodHandle" ∧ yX5_become.cls ≠ "java/lang/invoke/VarHandle" ∧ (parseMethodDescriptor yX5_become.desc).map (fun d => d.parameters.length) = some 2 := by decide +kernel
def wsX5_reset : List Cond := .code yX5_reset cX5_reset 3 none :: BIG
theorem wX5_reset : ∀ w ∈ wsX5_reset, w ∈ BIG := in_c q_t3_189 (fun _ h => h)
theorem hX5_reset : yX5_reset.cls = RX5 ∧ yX5_reset.cls ≠ "java/lang/invoke/MethodHandle" ∧ yX5_reset.cls ≠ "java/lang/invoke/VarHandle" ∧ (parseMethodDescriptor yX5_reset.desc).map (fun d => d.parameters.length) = some 1 := by decide +kernel
def wsX5_register : List Cond := .code yX5_register cX5_register 2 (some .int) :: BIG
theorem wX5_register : ∀ w ∈ wsX5_register, w ∈ BIG := in_c q_t3_193 (fun _ h => h)
theorem hX5_register : yX5_register.cls = RX5 ∧ yX5_register.cls ≠ "java/lang/invoke/MethodHandle" ∧ yX5_register.cls ≠ "java/lang/invoke/VarHandle" ∧ (parseMethodDescriptor yX5_register.desc).map (fun d => d.parameters.length) = some 1 := by decide +kernel
def wsX5_control : List Cond := .code yX5_control cX5_control 3 (some .int) :: BIG
theorem wX5_control : ∀ w ∈ wsX5_control, w ∈ BIG := in_c q_t3_197 (fun _ h => h)
theorem hX5_control : yX5_control.cls = RX5 ∧ yX5_control.cls ≠ "java/lang/invoke/MethodHandle" ∧ yX5_control.cls ≠ "java/lang/invoke/VarHandle" ∧ (parseMethodDescriptor yX5_control.desc).map (fun d => d.parameters.length) = some 1 := by decide +kernel
def wsX5_word : List Cond := .code yX5_word cX5_word 2 (some .int) :: BIG
theorem wX5_word : ∀ w ∈ wsX5_word, w ∈ BIG := in_c q_t3_201 (fun _ h => h)
theorem hX5_word : yX5_word.cls = RX5 ∧ yX5_word.cls ≠ "java/lang/invoke/MethodHandle" ∧ yX5_word.cls ≠ "java/lang/invoke/VarHandle" ∧ (parseMethodDescriptor yX5_word.desc).map (fun d => d.parameters.length) = some 1 := by decide +kernel
def wsX5_state : List Cond := .code yX5_state cX5_state 2 (some .int) :: BIG
theorem wX5_state : ∀ w ∈ wsX5_state, w ∈ BIG := in_c q_t3_205 (fun _ h => h)
theorem hX5_state : yX5_state.cls = RX5 ∧ yX5_state.cls ≠ "java/lang/invoke/MethodHandle" ∧ yX5_state.cls ≠ "java/lang/invoke/VarHandle" ∧ (parseMethodDescriptor yX5_state.desc).map (fun d => d.parameters.length) = some 1 := by decide +kernel
end
section
theorem dX4_init_0 : decode cX4_init 0 = .ok (.aload_n 0, 1) := by decide +kernel
theorem dX4_init_1 : decode cX4_init 1 = .ok (.invokespecial 1, 3) := by decide +kernel
theorem dX4_init_4 : decode cX4_init 4 = .ok (.aload_n 0, 1) := by decide +kernel
theorem dX4_init_5 : decode cX4_init 5 = .ok (.new 7, 3) := by decide +kernel
theorem dX4_init_8 : decode cX4_init 8 = .ok (.dup, 1) := by decide +kernel
theorem dX4_init_9 : decode cX4_init 9 = .ok (.invokespecial 9, 3) := by decide +kernel
theorem dX4_init_12 : decode cX4_init 12 = .ok (.putfield 10, 3) := by decide +kernel
theorem dX4_init_15 : decode cX4_init 15 = .ok (.aload_n 0, 1) := by decide +kernel
theorem dX4_init_16 : decode cX4_init 16 = .ok (.new 16, 3) := by decide +kernel
theorem dX4_init_19 : decode cX4_init 19 = .ok (.dup, 1) := by decide +kernel
theorem dX4_init_20 : decode cX4_init 20 = .ok (.invokespecial 18, 3) := by decide +kernel
theorem dX4_init_23 : decode cX4_init 23 = .ok (.putfield 19, 3) := by decide +kernel
theorem dX4_init_26 : decode cX4_init 26 = .ok (.aload_n 0, 1) := by decide +kernel
theorem dX4_init_27 : decode cX4_init 27 = .ok (.bipush 32, 2) := by decide +kernel
theorem dX4_init_29 : decode cX4_init 29 = .ok (.newarray .int, 2) := by decide +kernel
theorem dX4_init_31 : decode cX4_init 31 = .ok (.putfield 23, 3) := by decide +kernel
theorem dX4_init_34 : decode cX4_init 34 = .ok (.return_, 1) := by decide +kernel
theorem dX3_init_0 : decode cX3_init 0 = .ok (.aload_n 0, 1) := by decide +kernel
theorem dX3_init_1 : decode cX3_init 1 = .ok (.invokespecial 1, 3) := by decide +kernel
theorem dX3_init_4 : decode cX3_init 4 = .ok (.aload_n 0, 1) := by decide +kernel
theorem dX3_init_5 : decode cX3_init 5 = .ok (.sipush 1024, 3) := by decide +kernel
theorem dX3_init_8 : decode cX3_init 8 = .ok (.newarray .int, 2) := by decide +kernel
theorem dX3_init_10 : decode cX3_init 10 = .ok (.putfield 9, 3) := by decide +kernel
theorem dX3_init_13 : decode cX3_init 13 = .ok (.return_, 1) := by decide +kernel
theorem dX2_init_0 : decode cX2_init 0 = .ok (.aload_n 0, 1) := by decide +kernel
theorem dX2_init_1 : decode cX2_init 1 = .ok (.invokespecial 1, 3) := by decide +kernel
theorem dX2_init_4 : decode cX2_init 4 = .ok (.return_, 1) := by decide +kernel
theorem dX4_set_0 : decode cX4_set 0 = .ok (.iload_n 1, 1) := by decide +kernel
theorem dX4_set_1 : decode cX4_set 1 = .ok (.invokestatic 27, 3) := by decide +kernel
theorem dX4_set_4 : decode cX4_set 4 = .ok (.ifCond .ne 5, 3) := by decide +kernel
theorem dX4_set_7 : decode cX4_set 7 = .ok (.iconst 0, 1) := by decide +kernel
theorem dX4_set_8 : decode cX4_set 8 = .ok (.ireturn, 1) := by decide +kernel
theorem dX4_set_9 : decode cX4_set 9 = .ok (.aload_n 0, 1) := by decide +kernel
theorem dX4_set_10 : decode cX4_set 10 = .ok (.getfield 10, 3) := by decide +kernel
theorem dX4_set_13 : decode cX4_set 13 = .ok (.iload_n 1, 1) := by decide +kernel
theorem dX4_set_14 : decode cX4_set 14 = .ok (.iload_n 2, 1) := by decide +kernel
theorem dX4_set_15 : decode cX4_set 15 = .ok (.invokevirtual 31, 3) := by decide +kernel
theorem dX4_set_18 : decode cX4_set 18 = .ok (.iconst 1, 1) := by decide +kernel
theorem dX4_set_19 : decode cX4_set 19 = .ok (.ireturn, 1) := by decide +kernel
theorem dX3_isWordAddress_0 : decode cX3_isWordAddress 0 = .ok (.iload_n 0, 1) := by decide +kernel
theorem dX3_isWordAddress_1 : decode cX3_isWordAddress 1 = .ok (.invokestatic 13, 3) := by decide +kernel
theorem dX3_isWordAddress_4 : decode cX3_isWordAddress 4 = .ok (.ifCond .eq 13, 3) := by decide +kernel
theorem dX3_isWordAddress_7 : decode cX3_isWordAddress 7 = .ok (.iload_n 0, 1) := by decide +kernel
theorem dX3_isWordAddress_8 : decode cX3_isWordAddress 8 = .ok (.iconst 3, 1) := by decide +kernel
theorem dX3_isWordAddress_9 : decode cX3_isWordAddress 9 = .ok (.iand, 1) := by decide +kernel
theorem dX3_isWordAddress_10 : decode cX3_isWordAddress 10 = .ok (.ifCond .ne 7, 3) := by decide +kernel
theorem dX3_isWordAddress_13 : decode cX3_isWordAddress 13 = .ok (.iconst 1, 1) := by decide +kernel
theorem dX3_isWordAddress_14 : decode cX3_isWordAddress 14 = .ok (.goto 4, 3) := by decide +kernel
theorem dX3_isWordAddress_17 : decode cX3_isWordAddress 17 = .ok (.iconst 0, 1) := by decide +kernel
theorem dX3_isWordAddress_18 : decode cX3_isWordAddress 18 = .ok (.ireturn, 1) := by decide +kernel
theorem dX3_holds_0 : decode cX3_holds 0 = .ok (.iload_n 0, 1) := by decide +kernel
theorem dX3_holds_1 : decode cX3_holds 1 = .ok (.ifCond .lt 14, 3) := by decide +kernel
theorem dX3_holds_4 : decode cX3_holds 4 = .ok (.iload_n 0, 1) := by decide +kernel
theorem dX3_holds_5 : decode cX3_holds 5 = .ok (.sipush 4096, 3) := by decide +kernel
theorem dX3_holds_8 : decode cX3_holds 8 = .ok (.if_icmp .ge 7, 3) := by decide +kernel
theorem dX3_holds_11 : decode cX3_holds 11 = .ok (.iconst 1, 1) := by decide +kernel
theorem dX3_holds_12 : decode cX3_holds 12 = .ok (.goto 4, 3) := by decide +kernel
theorem dX3_holds_15 : decode cX3_holds 15 = .ok (.iconst 0, 1) := by decide +kernel
theorem dX3_holds_16 : decode cX3_holds 16 = .ok (.ireturn, 1) := by decide +kernel
theorem dX3_writeWord_0 : decode cX3_writeWord 0 = .ok (.iload_n 1, 1) := by decide +kernel
theorem dX3_writeWord_1 : decode cX3_writeWord 1 = .ok (.iconst 2, 1) := by decide +kernel
theorem dX3_writeWord_2 : decode cX3_writeWord 2 = .ok (.iushr, 1) := by decide +kernel
theorem dX3_writeWord_3 : decode cX3_writeWord 3 = .ok (.istore_n 3, 1) := by decide +kernel
theorem dX3_writeWord_4 : decode cX3_writeWord 4 = .ok (.iload_n 3, 1) := by decide +kernel
theorem dX3_writeWord_5 : decode cX3_writeWord 5 = .ok (.aload_n 0, 1) := by decide +kernel
theorem dX3_writeWord_6 : decode cX3_writeWord 6 = .ok (.getfield 9, 3) := by decide +kernel
theorem dX3_writeWord_9 : decode cX3_writeWord 9 = .ok (.arraylength, 1) := by decide +kernel
theorem dX3_writeWord_10 : decode cX3_writeWord 10 = .ok (.if_icmp .ge 10, 3) := by decide +kernel
theorem dX3_writeWord_13 : decode cX3_writeWord 13 = .ok (.aload_n 0, 1) := by decide +kernel
theorem dX3_writeWord_14 : decode cX3_writeWord 14 = .ok (.getfield 9, 3) := by decide +kernel
theorem dX3_writeWord_17 : decode cX3_writeWord 17 = .ok (.iload_n 3, 1) := by decide +kernel
theorem dX3_writeWord_18 : decode cX3_writeWord 18 = .ok (.iload_n 2, 1) := by decide +kernel
theorem dX3_writeWord_19 : decode cX3_writeWord 19 = .ok (.iastore, 1) := by decide +kernel
theorem dX3_writeWord_20 : decode cX3_writeWord 20 = .ok (.return_, 1) := by decide +kernel
theorem dX4_put_0 : decode cX4_put 0 = .ok (.iload_n 1, 1) := by decide +kernel
theorem dX4_put_1 : decode cX4_put 1 = .ok (.bipush 32, 2) := by decide +kernel
theorem dX4_put_3 : decode cX4_put 3 = .ok (.if_icmp .ne 9, 3) := by decide +kernel
theorem dX4_put_6 : decode cX4_put 6 = .ok (.aload_n 0, 1) := by decide +kernel
theorem dX4_put_7 : decode cX4_put 7 = .ok (.iload_n 2, 1) := by decide +kernel
theorem dX4_put_8 : decode cX4_put 8 = .ok (.invokevirtual 35, 3) := by decide +kernel
theorem dX4_put_11 : decode cX4_put 11 = .ok (.ireturn, 1) := by decide +kernel
theorem dX4_put_12 : decode cX4_put 12 = .ok (.iload_n 1, 1) := by decide +kernel
theorem dX4_put_13 : decode cX4_put 13 = .ok (.iconst 1, 1) := by decide +kernel
theorem dX4_put_14 : decode cX4_put 14 = .ok (.if_icmp .lt 9, 3) := by decide +kernel
theorem dX4_put_17 : decode cX4_put 17 = .ok (.iload_n 1, 1) := by decide +kernel
theorem dX4_put_18 : decode cX4_put 18 = .ok (.bipush 32, 2) := by decide +kernel
theorem dX4_put_20 : decode cX4_put 20 = .ok (.if_icmp .lt 5, 3) := by decide +kernel
theorem dX4_put_23 : decode cX4_put 23 = .ok (.iconst 0, 1) := by decide +kernel
theorem dX4_put_24 : decode cX4_put 24 = .ok (.ireturn, 1) := by decide +kernel
theorem dX4_put_25 : decode cX4_put 25 = .ok (.aload_n 0, 1) := by decide +kernel
theorem dX4_put_26 : decode cX4_put 26 = .ok (.iload_n 1, 1) := by decide +kernel
theorem dX4_put_27 : decode cX4_put 27 = .ok (.iload_n 2, 1) := by decide +kernel
theorem dX4_put_28 : decode cX4_put 28 = .ok (.invokevirtual 38, 3) := by decide +kernel
theorem dX4_put_31 : decode cX4_put 31 = .ok (.iconst 1, 1) := by decide +kernel
theorem dX4_put_32 : decode cX4_put 32 = .ok (.ireturn, 1) := by decide +kernel
theorem dX4_putPc_0 : decode cX4_putPc 0 = .ok (.iload_n 1, 1) := by decide +kernel
theorem dX4_putPc_1 : decode cX4_putPc 1 = .ok (.iconst 3, 1) := by decide +kernel
theorem dX4_putPc_2 : decode cX4_putPc 2 = .ok (.iand, 1) := by decide +kernel
theorem dX4_putPc_3 : decode cX4_putPc 3 = .ok (.ifCond .eq 5, 3) := by decide +kernel
theorem dX4_putPc_6 : decode cX4_putPc 6 = .ok (.iconst 0, 1) := by decide +kernel
theorem dX4_putPc_7 : decode cX4_putPc 7 = .ok (.ireturn, 1) := by decide +kernel
theorem dX4_putPc_8 : decode cX4_putPc 8 = .ok (.aload_n 0, 1) := by decide +kernel
theorem dX4_putPc_9 : decode cX4_putPc 9 = .ok (.iload_n 1, 1) := by decide +kernel
theorem dX4_putPc_10 : decode cX4_putPc 10 = .ok (.putfield 70, 3) := by decide +kernel
theorem dX4_putPc_13 : decode cX4_putPc 13 = .ok (.aload_n 0, 1) := by decide +kernel
theorem dX4_putPc_14 : decode cX4_putPc 14 = .ok (.iconst 0, 1) := by decide +kernel
theorem dX4_putPc_15 : decode cX4_putPc 15 = .ok (.putfield 55, 3) := by decide +kernel
theorem dX4_putPc_18 : decode cX4_putPc 18 = .ok (.iconst 1, 1) := by decide +kernel
theorem dX4_putPc_19 : decode cX4_putPc 19 = .ok (.ireturn, 1) := by decide +kernel
theorem dX4_writeRegister_0 : decode cX4_writeRegister 0 = .ok (.iload_n 1, 1) := by decide +kernel
theorem dX4_writeRegister_1 : decode cX4_writeRegister 1 = .ok (.iconst 1, 1) := by decide +kernel
theorem dX4_writeRegister_2 : decode cX4_writeRegister 2 = .ok (.if_icmp .lt 19, 3) := by decide +kernel
theorem dX4_writeRegister_5 : decode cX4_writeRegister 5 = .ok (.iload_n 1, 1) := by decide +kernel
theorem dX4_writeRegister_6 : decode cX4_writeRegister 6 = .ok (.aload_n 0, 1) := by decide +kernel
theorem dX4_writeRegister_7 : decode cX4_writeRegister 7 = .ok (.getfield 23, 3) := by decide +kernel
theorem dX4_writeRegister_10 : decode cX4_writeRegister 10 = .ok (.arraylength, 1) := by decide +kernel
theorem dX4_writeRegister_11 : decode cX4_writeRegister 11 = .ok (.if_icmp .ge 10, 3) := by decide +kernel
theorem dX4_writeRegister_14 : decode cX4_writeRegister 14 = .ok (.aload_n 0, 1) := by decide +kernel
theorem dX4_writeRegister_15 : decode cX4_writeRegister 15 = .ok (.getfield 23, 3) := by decide +kernel
theorem dX4_writeRegister_18 : decode cX4_writeRegister 18 = .ok (.iload_n 1, 1) := by decide +kernel
theorem dX4_writeRegister_19 : decode cX4_writeRegister 19 = .ok (.iload_n 2, 1) := by decide +kernel
theorem dX4_writeRegister_20 : decode cX4_writeRegister 20 = .ok (.iastore, 1) := by decide +kernel
theorem dX4_writeRegister_21 : decode cX4_writeRegister 21 = .ok (.return_, 1) := by decide +kernel
theorem dX4_line_0 : decode cX4_line 0 = .ok (.aload_n 0, 1) := by decide +kernel
theorem dX4_line_1 : decode cX4_line 1 = .ok (.getfield 19, 3) := by decide +kernel
theorem dX4_line_4 : decode cX4_line 4 = .ok (.iload_n 1, 1) := by decide +kernel
theorem dX4_line_5 : decode cX4_line 5 = .ok (.putfield 41, 3) := by decide +kernel
theorem dX4_line_8 : decode cX4_line 8 = .ok (.return_, 1) := by decide +kernel
theorem dX4_reset_0 : decode cX4_reset 0 = .ok (.aload_n 0, 1) := by decide +kernel
theorem dX4_reset_1 : decode cX4_reset 1 = .ok (.getfield 23, 3) := by decide +kernel
theorem dX4_reset_4 : decode cX4_reset 4 = .ok (.iconst 0, 1) := by decide +kernel
theorem dX4_reset_5 : decode cX4_reset 5 = .ok (.invokestatic 61, 3) := by decide +kernel
theorem dX4_reset_8 : decode cX4_reset 8 = .ok (.aload_n 0, 1) := by decide +kernel
theorem dX4_reset_9 : decode cX4_reset 9 = .ok (.getfield 19, 3) := by decide +kernel
theorem dX4_reset_12 : decode cX4_reset 12 = .ok (.invokevirtual 67, 3) := by decide +kernel
theorem dX4_reset_15 : decode cX4_reset 15 = .ok (.aload_n 0, 1) := by decide +kernel
theorem dX4_reset_16 : decode cX4_reset 16 = .ok (.iconst 0, 1) := by decide +kernel
theorem dX4_reset_17 : decode cX4_reset 17 = .ok (.putfield 70, 3) := by decide +kernel
theorem dX4_reset_20 : decode cX4_reset 20 = .ok (.aload_n 0, 1) := by decide +kernel
theorem dX4_reset_21 : decode cX4_reset 21 = .ok (.iconst 0, 1) := by decide +kernel
theorem dX4_reset_22 : decode cX4_reset 22 = .ok (.putfield 55, 3) := by decide +kernel
theorem dX4_reset_25 : decode cX4_reset 25 = .ok (.aload_n 0, 1) := by decide +kernel
theorem dX4_reset_26 : decode cX4_reset 26 = .ok (.iconst 0, 1) := by decide +kernel
theorem dX4_reset_27 : decode cX4_reset 27 = .ok (.putfield 74, 3) := by decide +kernel
theorem dX4_reset_30 : decode cX4_reset 30 = .ok (.iload_n 1, 1) := by decide +kernel
theorem dX4_reset_31 : decode cX4_reset 31 = .ok (.ifCond .eq 10, 3) := by decide +kernel
theorem dX4_reset_34 : decode cX4_reset 34 = .ok (.aload_n 0, 1) := by decide +kernel
theorem dX4_reset_35 : decode cX4_reset 35 = .ok (.getfield 10, 3) := by decide +kernel
theorem dX4_reset_38 : decode cX4_reset 38 = .ok (.invokevirtual 77, 3) := by decide +kernel
theorem dX4_reset_41 : decode cX4_reset 41 = .ok (.return_, 1) := by decide +kernel
theorem dJ7_fill_0 : decode cJ7_fill 0 = .ok (.iconst 0, 1) := by decide +kernel
theorem dJ7_fill_1 : decode cJ7_fill 1 = .ok (.istore_n 2, 1) := by decide +kernel
theorem dJ7_fill_2 : decode cJ7_fill 2 = .ok (.aload_n 0, 1) := by decide +kernel
theorem dJ7_fill_3 : decode cJ7_fill 3 = .ok (.arraylength, 1) := by decide +kernel
theorem dJ7_fill_4 : decode cJ7_fill 4 = .ok (.istore_n 3, 1) := by decide +kernel
theorem dJ7_fill_5 : decode cJ7_fill 5 = .ok (.iload_n 2, 1) := by decide +kernel
theorem dJ7_fill_6 : decode cJ7_fill 6 = .ok (.iload_n 3, 1) := by decide +kernel
theorem dJ7_fill_7 : decode cJ7_fill 7 = .ok (.if_icmp .ge 13, 3) := by decide +kernel
theorem dJ7_fill_10 : decode cJ7_fill 10 = .ok (.aload_n 0, 1) := by decide +kernel
theorem dJ7_fill_11 : decode cJ7_fill 11 = .ok (.iload_n 2, 1) := by decide +kernel
theorem dJ7_fill_12 : decode cJ7_fill 12 = .ok (.iload_n 1, 1) := by decide +kernel
theorem dJ7_fill_13 : decode cJ7_fill 13 = .ok (.iastore, 1) := by decide +kernel
theorem dJ7_fill_14 : decode cJ7_fill 14 = .ok (.iinc 2 1, 3) := by decide +kernel
theorem dJ7_fill_17 : decode cJ7_fill 17 = .ok (.goto (-12), 3) := by decide +kernel
theorem dJ7_fill_20 : decode cJ7_fill 20 = .ok (.return_, 1) := by decide +kernel
theorem dX2_clear_0 : decode cX2_clear 0 = .ok (.aload_n 0, 1) := by decide +kernel
theorem dX2_clear_1 : decode cX2_clear 1 = .ok (.iconst 0, 1) := by decide +kernel
theorem dX2_clear_2 : decode cX2_clear 2 = .ok (.putfield 13, 3) := by decide +kernel
theorem dX2_clear_5 : decode cX2_clear 5 = .ok (.aload_n 0, 1) := by decide +kernel
theorem dX2_clear_6 : decode cX2_clear 6 = .ok (.iconst 0, 1) := by decide +kernel
theorem dX2_clear_7 : decode cX2_clear 7 = .ok (.putfield 17, 3) := by decide +kernel
theorem dX2_clear_10 : decode cX2_clear 10 = .ok (.aload_n 0, 1) := by decide +kernel
theorem dX2_clear_11 : decode cX2_clear 11 = .ok (.iconst 0, 1) := by decide +kernel
theorem dX2_clear_12 : decode cX2_clear 12 = .ok (.putfield 20, 3) := by decide +kernel
theorem dX2_clear_15 : decode cX2_clear 15 = .ok (.aload_n 0, 1) := by decide +kernel
theorem dX2_clear_16 : decode cX2_clear 16 = .ok (.iconst 0, 1) := by decide +kernel
theorem dX2_clear_17 : decode cX2_clear 17 = .ok (.putfield 23, 3) := by decide +kernel
theorem dX2_clear_20 : decode cX2_clear 20 = .ok (.aload_n 0, 1) := by decide +kernel
theorem dX2_clear_21 : decode cX2_clear 21 = .ok (.iconst 0, 1) := by decide +kernel
theorem dX2_clear_22 : decode cX2_clear 22 = .ok (.putfield 26, 3) := by decide +kernel
theorem dX2_clear_25 : decode cX2_clear 25 = .ok (.aload_n 0, 1) := by decide +kernel
theorem dX2_clear_26 : decode cX2_clear 26 = .ok (.iconst 0, 1) := by decide +kernel
theorem dX2_clear_27 : decode cX2_clear 27 = .ok (.putfield 29, 3) := by decide +kernel
theorem dX2_clear_30 : decode cX2_clear 30 = .ok (.aload_n 0, 1) := by decide +kernel
theorem dX2_clear_31 : decode cX2_clear 31 = .ok (.iconst 0, 1) := by decide +kernel
theorem dX2_clear_32 : decode cX2_clear 32 = .ok (.putfield 32, 3) := by decide +kernel
theorem dX2_clear_35 : decode cX2_clear 35 = .ok (.aload_n 0, 1) := by decide +kernel
theorem dX2_clear_36 : decode cX2_clear 36 = .ok (.iconst 0, 1) := by decide +kernel
theorem dX2_clear_37 : decode cX2_clear 37 = .ok (.putfield 39, 3) := by decide +kernel
theorem dX2_clear_40 : decode cX2_clear 40 = .ok (.return_, 1) := by decide +kernel
theorem dX3_clear_0 : decode cX3_clear 0 = .ok (.aload_n 0, 1) := by decide +kernel
theorem dX3_clear_1 : decode cX3_clear 1 = .ok (.getfield 9, 3) := by decide +kernel
theorem dX3_clear_4 : decode cX3_clear 4 = .ok (.iconst 0, 1) := by decide +kernel
theorem dX3_clear_5 : decode cX3_clear 5 = .ok (.invokestatic 32, 3) := by decide +kernel
theorem dX3_clear_8 : decode cX3_clear 8 = .ok (.return_, 1) := by decide +kernel
theorem dX4_state_0 : decode cX4_state 0 = .ok (.iload_n 1, 1) := by decide +kernel
theorem dX4_state_1 : decode cX4_state 1 = .ok (.tableswitch 85 0 4 #[35, 48, 53, 64, 69], 35) := by decide +kernel
theorem dX4_state_36 : decode cX4_state 36 = .ok (.aload_n 0, 1) := by decide +kernel
theorem dX4_state_37 : decode cX4_state 37 = .ok (.getfield 55, 3) := by decide +kernel
theorem dX4_state_40 : decode cX4_state 40 = .ok (.ifCond .eq 7, 3) := by decide +kernel
theorem dX4_state_43 : decode cX4_state 43 = .ok (.iconst 1, 1) := by decide +kernel
theorem dX4_state_44 : decode cX4_state 44 = .ok (.goto 4, 3) := by decide +kernel
theorem dX4_state_47 : decode cX4_state 47 = .ok (.iconst 0, 1) := by decide +kernel
theorem dX4_state_48 : decode cX4_state 48 = .ok (.ireturn, 1) := by decide +kernel
theorem dX4_state_49 : decode cX4_state 49 = .ok (.aload_n 0, 1) := by decide +kernel
theorem dX4_state_50 : decode cX4_state 50 = .ok (.getfield 100, 3) := by decide +kernel
theorem dX4_state_53 : decode cX4_state 53 = .ok (.ireturn, 1) := by decide +kernel
theorem dX4_state_54 : decode cX4_state 54 = .ok (.aload_n 0, 1) := by decide +kernel
theorem dX4_state_55 : decode cX4_state 55 = .ok (.getfield 19, 3) := by decide +kernel
theorem dX4_state_58 : decode cX4_state 58 = .ok (.getfield 103, 3) := by decide +kernel
theorem dX4_state_61 : decode cX4_state 61 = .ok (.ldc 106, 2) := by decide +kernel
theorem dX4_state_63 : decode cX4_state 63 = .ok (.iand, 1) := by decide +kernel
theorem dX4_state_64 : decode cX4_state 64 = .ok (.ireturn, 1) := by decide +kernel
theorem dX4_state_65 : decode cX4_state 65 = .ok (.aload_n 0, 1) := by decide +kernel
theorem dX4_state_66 : decode cX4_state 66 = .ok (.getfield 74, 3) := by decide +kernel
theorem dX4_state_69 : decode cX4_state 69 = .ok (.ireturn, 1) := by decide +kernel
theorem dX4_state_70 : decode cX4_state 70 = .ok (.aload_n 0, 1) := by decide +kernel
theorem dX4_state_71 : decode cX4_state 71 = .ok (.getfield 19, 3) := by decide +kernel
theorem dX4_state_74 : decode cX4_state 74 = .ok (.getfield 41, 3) := by decide +kernel
theorem dX4_state_77 : decode cX4_state 77 = .ok (.ifCond .eq 7, 3) := by decide +kernel
theorem dX4_state_80 : decode cX4_state 80 = .ok (.iconst 1, 1) := by decide +kernel
theorem dX4_state_81 : decode cX4_state 81 = .ok (.goto 4, 3) := by decide +kernel
theorem dX4_state_84 : decode cX4_state 84 = .ok (.iconst 0, 1) := by decide +kernel
theorem dX4_state_85 : decode cX4_state 85 = .ok (.ireturn, 1) := by decide +kernel
theorem dX4_state_86 : decode cX4_state 86 = .ok (.iconst (-1), 1) := by decide +kernel
theorem dX4_state_87 : decode cX4_state 87 = .ok (.ireturn, 1) := by decide +kernel
theorem dX4_run_0 : decode cX4_run 0 = .ok (.iload_n 1, 1) := by decide +kernel
theorem dX4_run_1 : decode cX4_run 1 = .ok (.iconst 1, 1) := by decide +kernel
theorem dX4_run_2 : decode cX4_run 2 = .ok (.if_icmp .lt 10, 3) := by decide +kernel
theorem dX4_run_5 : decode cX4_run 5 = .ok (.iload_n 1, 1) := by decide +kernel
theorem dX4_run_6 : decode cX4_run 6 = .ok (.sipush 1000, 3) := by decide +kernel
theorem dX4_run_9 : decode cX4_run 9 = .ok (.if_icmp .le 13, 3) := by decide +kernel
theorem dX4_run_12 : decode cX4_run 12 = .ok (.new 45, 3) := by decide +kernel
theorem dX4_run_15 : decode cX4_run 15 = .ok (.dup, 1) := by decide +kernel
theorem dX4_run_16 : decode cX4_run 16 = .ok (.ldc 47, 2) := by decide +kernel
theorem dX4_run_18 : decode cX4_run 18 = .ok (.invokespecial 49, 3) := by decide +kernel
theorem dX4_run_21 : decode cX4_run 21 = .ok (.athrow, 1) := by decide +kernel
theorem dX4_run_22 : decode cX4_run 22 = .ok (.aload_n 0, 1) := by decide +kernel
theorem dX4_run_23 : decode cX4_run 23 = .ok (.invokevirtual 52, 3) := by decide +kernel
theorem dX4_run_26 : decode cX4_run 26 = .ok (.iconst 0, 1) := by decide +kernel
theorem dX4_run_27 : decode cX4_run 27 = .ok (.istore_n 2, 1) := by decide +kernel
theorem dX4_run_28 : decode cX4_run 28 = .ok (.iload_n 2, 1) := by decide +kernel
theorem dX4_run_29 : decode cX4_run 29 = .ok (.iload_n 1, 1) := by decide +kernel
theorem dX4_run_30 : decode cX4_run 30 = .ok (.if_icmp .ge 24, 3) := by decide +kernel
theorem dX4_run_33 : decode cX4_run 33 = .ok (.aload_n 0, 1) := by decide +kernel
theorem dX4_run_34 : decode cX4_run 34 = .ok (.getfield 55, 3) := by decide +kernel
theorem dX4_run_37 : decode cX4_run 37 = .ok (.ifCond .ne 17, 3) := by decide +kernel
theorem dX4_run_40 : decode cX4_run 40 = .ok (.aload_n 0, 1) := by decide +kernel
theorem dX4_run_41 : decode cX4_run 41 = .ok (.invokevirtual 52, 3) := by decide +kernel
theorem dX4_run_44 : decode cX4_run 44 = .ok (.aload_n 0, 1) := by decide +kernel
theorem dX4_run_45 : decode cX4_run 45 = .ok (.invokevirtual 58, 3) := by decide +kernel
theorem dX4_run_48 : decode cX4_run 48 = .ok (.iinc 2 1, 3) := by decide +kernel
theorem dX4_run_51 : decode cX4_run 51 = .ok (.goto (-23), 3) := by decide +kernel
theorem dX4_run_54 : decode cX4_run 54 = .ok (.iload_n 2, 1) := by decide +kernel
theorem dX4_run_55 : decode cX4_run 55 = .ok (.ireturn, 1) := by decide +kernel
theorem dX4_refuseBeyondLimit_0 : decode cX4_refuseBeyondLimit 0 = .ok (.aload_n 0, 1) := by decide +kernel
theorem dX4_refuseBeyondLimit_1 : decode cX4_refuseBeyondLimit 1 = .ok (.getfield 100, 3) := by decide +kernel
theorem dX4_refuseBeyondLimit_4 : decode cX4_refuseBeyondLimit 4 = .ok (.ldc 107, 2) := by decide +kernel
theorem dX4_refuseBeyondLimit_6 : decode cX4_refuseBeyondLimit 6 = .ok (.if_icmp .lt 13, 3) := by decide +kernel
theorem dX4_refuseBeyondLimit_9 : decode cX4_refuseBeyondLimit 9 = .ok (.new 108, 3) := by decide +kernel
end
section
theorem dX4_refuseBeyondLimit_12 : decode cX4_refuseBeyondLimit 12 = .ok (.dup, 1) := by decide +kernel
theorem dX4_refuseBeyondLimit_13 : decode cX4_refuseBeyondLimit 13 = .ok (.ldc 110, 2) := by decide +kernel
theorem dX4_refuseBeyondLimit_15 : decode cX4_refuseBeyondLimit 15 = .ok (.invokespecial 112, 3) := by decide +kernel
theorem dX4_refuseBeyondLimit_18 : decode cX4_refuseBeyondLimit 18 = .ok (.athrow, 1) := by decide +kernel
theorem dX4_refuseBeyondLimit_19 : decode cX4_refuseBeyondLimit 19 = .ok (.return_, 1) := by decide +kernel
theorem dX4_step_0 : decode cX4_step 0 = .ok (.aload_n 0, 1) := by decide +kernel
theorem dX4_step_1 : decode cX4_step 1 = .ok (.dup, 1) := by decide +kernel
theorem dX4_step_2 : decode cX4_step 2 = .ok (.getfield 100, 3) := by decide +kernel
theorem dX4_step_5 : decode cX4_step 5 = .ok (.iconst 1, 1) := by decide +kernel
theorem dX4_step_6 : decode cX4_step 6 = .ok (.iadd, 1) := by decide +kernel
theorem dX4_step_7 : decode cX4_step 7 = .ok (.putfield 100, 3) := by decide +kernel
theorem dX4_step_10 : decode cX4_step 10 = .ok (.aload_n 0, 1) := by decide +kernel
theorem dX4_step_11 : decode cX4_step 11 = .ok (.getfield 19, 3) := by decide +kernel
theorem dX4_step_14 : decode cX4_step 14 = .ok (.invokevirtual 113, 3) := by decide +kernel
theorem dX4_step_17 : decode cX4_step 17 = .ok (.ifCond .eq 14, 3) := by decide +kernel
theorem dX4_step_20 : decode cX4_step 20 = .ok (.aload_n 0, 1) := by decide +kernel
theorem dX4_step_21 : decode cX4_step 21 = .ok (.ldc 117, 2) := by decide +kernel
theorem dX4_step_23 : decode cX4_step 23 = .ok (.iconst 0, 1) := by decide +kernel
theorem dX4_step_24 : decode cX4_step 24 = .ok (.invokevirtual 118, 3) := by decide +kernel
theorem dX4_step_27 : decode cX4_step 27 = .ok (.pop, 1) := by decide +kernel
theorem dX4_step_28 : decode cX4_step 28 = .ok (.goto 57, 3) := by decide +kernel
theorem dX4_step_31 : decode cX4_step 31 = .ok (.aload_n 0, 1) := by decide +kernel
theorem dX4_step_32 : decode cX4_step 32 = .ok (.getfield 70, 3) := by decide +kernel
theorem dX4_step_35 : decode cX4_step 35 = .ok (.invokestatic 122, 3) := by decide +kernel
theorem dX4_step_38 : decode cX4_step 38 = .ok (.ifCond .ne 16, 3) := by decide +kernel
theorem dX4_step_41 : decode cX4_step 41 = .ok (.aload_n 0, 1) := by decide +kernel
theorem dX4_step_42 : decode cX4_step 42 = .ok (.iconst 1, 1) := by decide +kernel
theorem dX4_step_43 : decode cX4_step 43 = .ok (.aload_n 0, 1) := by decide +kernel
theorem dX4_step_44 : decode cX4_step 44 = .ok (.getfield 70, 3) := by decide +kernel
theorem dX4_step_47 : decode cX4_step 47 = .ok (.invokevirtual 118, 3) := by decide +kernel
theorem dX4_step_50 : decode cX4_step 50 = .ok (.pop, 1) := by decide +kernel
theorem dX4_step_51 : decode cX4_step 51 = .ok (.goto 34, 3) := by decide +kernel
theorem dX4_step_54 : decode cX4_step 54 = .ok (.aload_n 0, 1) := by decide +kernel
theorem dX4_step_55 : decode cX4_step 55 = .ok (.aload_n 0, 1) := by decide +kernel
theorem dX4_step_56 : decode cX4_step 56 = .ok (.getfield 10, 3) := by decide +kernel
theorem dX4_step_59 : decode cX4_step 59 = .ok (.aload_n 0, 1) := by decide +kernel
theorem dX4_step_60 : decode cX4_step 60 = .ok (.getfield 70, 3) := by decide +kernel
theorem dX4_step_63 : decode cX4_step 63 = .ok (.invokevirtual 97, 3) := by decide +kernel
theorem dX4_step_66 : decode cX4_step 66 = .ok (.invokevirtual 125, 3) := by decide +kernel
theorem dX4_step_69 : decode cX4_step 69 = .ok (.ifCond .eq 16, 3) := by decide +kernel
theorem dX4_step_72 : decode cX4_step 72 = .ok (.aload_n 0, 1) := by decide +kernel
theorem dX4_step_73 : decode cX4_step 73 = .ok (.getfield 19, 3) := by decide +kernel
theorem dX4_step_76 : decode cX4_step 76 = .ok (.dup, 1) := by decide +kernel
theorem dX4_step_77 : decode cX4_step 77 = .ok (.getfield 103, 3) := by decide +kernel
theorem dX4_step_80 : decode cX4_step 80 = .ok (.iconst 1, 1) := by decide +kernel
theorem dX4_step_81 : decode cX4_step 81 = .ok (.iadd, 1) := by decide +kernel
theorem dX4_step_82 : decode cX4_step 82 = .ok (.putfield 103, 3) := by decide +kernel
theorem dX4_step_85 : decode cX4_step 85 = .ok (.return_, 1) := by decide +kernel
theorem dX2_isInterrupted_0 : decode cX2_isInterrupted 0 = .ok (.aload_n 0, 1) := by decide +kernel
theorem dX2_isInterrupted_1 : decode cX2_isInterrupted 1 = .ok (.getfield 13, 3) := by decide +kernel
theorem dX2_isInterrupted_4 : decode cX2_isInterrupted 4 = .ok (.bipush 8, 2) := by decide +kernel
theorem dX2_isInterrupted_6 : decode cX2_isInterrupted 6 = .ok (.iand, 1) := by decide +kernel
theorem dX2_isInterrupted_7 : decode cX2_isInterrupted 7 = .ok (.ifCond .eq 25, 3) := by decide +kernel
theorem dX2_isInterrupted_10 : decode cX2_isInterrupted 10 = .ok (.aload_n 0, 1) := by decide +kernel
theorem dX2_isInterrupted_11 : decode cX2_isInterrupted 11 = .ok (.getfield 17, 3) := by decide +kernel
theorem dX2_isInterrupted_14 : decode cX2_isInterrupted 14 = .ok (.sipush 2048, 3) := by decide +kernel
theorem dX2_isInterrupted_17 : decode cX2_isInterrupted 17 = .ok (.iand, 1) := by decide +kernel
theorem dX2_isInterrupted_18 : decode cX2_isInterrupted 18 = .ok (.ifCond .eq 14, 3) := by decide +kernel
theorem dX2_isInterrupted_21 : decode cX2_isInterrupted 21 = .ok (.aload_n 0, 1) := by decide +kernel
theorem dX2_isInterrupted_22 : decode cX2_isInterrupted 22 = .ok (.getfield 35, 3) := by decide +kernel
theorem dX2_isInterrupted_25 : decode cX2_isInterrupted 25 = .ok (.ifCond .eq 7, 3) := by decide +kernel
theorem dX2_isInterrupted_28 : decode cX2_isInterrupted 28 = .ok (.iconst 1, 1) := by decide +kernel
theorem dX2_isInterrupted_29 : decode cX2_isInterrupted 29 = .ok (.goto 4, 3) := by decide +kernel
theorem dX2_isInterrupted_32 : decode cX2_isInterrupted 32 = .ok (.iconst 0, 1) := by decide +kernel
theorem dX2_isInterrupted_33 : decode cX2_isInterrupted 33 = .ok (.ireturn, 1) := by decide +kernel
theorem dX4_trap_0 : decode cX4_trap 0 = .ok (.aload_n 0, 1) := by decide +kernel
theorem dX4_trap_1 : decode cX4_trap 1 = .ok (.dup, 1) := by decide +kernel
theorem dX4_trap_2 : decode cX4_trap 2 = .ok (.getfield 74, 3) := by decide +kernel
theorem dX4_trap_5 : decode cX4_trap 5 = .ok (.iconst 1, 1) := by decide +kernel
theorem dX4_trap_6 : decode cX4_trap 6 = .ok (.iadd, 1) := by decide +kernel
theorem dX4_trap_7 : decode cX4_trap 7 = .ok (.putfield 74, 3) := by decide +kernel
theorem dX4_trap_10 : decode cX4_trap 10 = .ok (.aload_n 0, 1) := by decide +kernel
theorem dX4_trap_11 : decode cX4_trap 11 = .ok (.getfield 19, 3) := by decide +kernel
theorem dX4_trap_14 : decode cX4_trap 14 = .ok (.aload_n 0, 1) := by decide +kernel
theorem dX4_trap_15 : decode cX4_trap 15 = .ok (.getfield 70, 3) := by decide +kernel
theorem dX4_trap_18 : decode cX4_trap 18 = .ok (.iload_n 1, 1) := by decide +kernel
theorem dX4_trap_19 : decode cX4_trap 19 = .ok (.iload_n 2, 1) := by decide +kernel
theorem dX4_trap_20 : decode cX4_trap 20 = .ok (.invokevirtual 187, 3) := by decide +kernel
theorem dX4_trap_23 : decode cX4_trap 23 = .ok (.aload_n 0, 1) := by decide +kernel
theorem dX4_trap_24 : decode cX4_trap 24 = .ok (.getfield 19, 3) := by decide +kernel
theorem dX4_trap_27 : decode cX4_trap 27 = .ok (.getfield 191, 3) := by decide +kernel
theorem dX4_trap_30 : decode cX4_trap 30 = .ok (.ifCond .ne 11, 3) := by decide +kernel
theorem dX4_trap_33 : decode cX4_trap 33 = .ok (.aload_n 0, 1) := by decide +kernel
theorem dX4_trap_34 : decode cX4_trap 34 = .ok (.iconst 1, 1) := by decide +kernel
theorem dX4_trap_35 : decode cX4_trap 35 = .ok (.putfield 55, 3) := by decide +kernel
theorem dX4_trap_38 : decode cX4_trap 38 = .ok (.goto 14, 3) := by decide +kernel
theorem dX4_trap_41 : decode cX4_trap 41 = .ok (.aload_n 0, 1) := by decide +kernel
theorem dX4_trap_42 : decode cX4_trap 42 = .ok (.aload_n 0, 1) := by decide +kernel
theorem dX4_trap_43 : decode cX4_trap 43 = .ok (.getfield 19, 3) := by decide +kernel
theorem dX4_trap_46 : decode cX4_trap 46 = .ok (.getfield 191, 3) := by decide +kernel
theorem dX4_trap_49 : decode cX4_trap 49 = .ok (.putfield 70, 3) := by decide +kernel
theorem dX4_trap_52 : decode cX4_trap 52 = .ok (.iconst 0, 1) := by decide +kernel
theorem dX4_trap_53 : decode cX4_trap 53 = .ok (.ireturn, 1) := by decide +kernel
theorem dX2_enterTrap_0 : decode cX2_enterTrap 0 = .ok (.aload_n 0, 1) := by decide +kernel
theorem dX2_enterTrap_1 : decode cX2_enterTrap 1 = .ok (.iload_n 1, 1) := by decide +kernel
theorem dX2_enterTrap_2 : decode cX2_enterTrap 2 = .ok (.putfield 26, 3) := by decide +kernel
theorem dX2_enterTrap_5 : decode cX2_enterTrap 5 = .ok (.aload_n 0, 1) := by decide +kernel
theorem dX2_enterTrap_6 : decode cX2_enterTrap 6 = .ok (.iload_n 2, 1) := by decide +kernel
theorem dX2_enterTrap_7 : decode cX2_enterTrap 7 = .ok (.putfield 29, 3) := by decide +kernel
theorem dX2_enterTrap_10 : decode cX2_enterTrap 10 = .ok (.aload_n 0, 1) := by decide +kernel
theorem dX2_enterTrap_11 : decode cX2_enterTrap 11 = .ok (.iload_n 3, 1) := by decide +kernel
theorem dX2_enterTrap_12 : decode cX2_enterTrap 12 = .ok (.putfield 32, 3) := by decide +kernel
theorem dX2_enterTrap_15 : decode cX2_enterTrap 15 = .ok (.aload_n 0, 1) := by decide +kernel
theorem dX2_enterTrap_16 : decode cX2_enterTrap 16 = .ok (.aload_n 0, 1) := by decide +kernel
theorem dX2_enterTrap_17 : decode cX2_enterTrap 17 = .ok (.getfield 13, 3) := by decide +kernel
theorem dX2_enterTrap_20 : decode cX2_enterTrap 20 = .ok (.bipush 8, 2) := by decide +kernel
theorem dX2_enterTrap_22 : decode cX2_enterTrap 22 = .ok (.iand, 1) := by decide +kernel
theorem dX2_enterTrap_23 : decode cX2_enterTrap 23 = .ok (.ifCond .eq 9, 3) := by decide +kernel
theorem dX2_enterTrap_26 : decode cX2_enterTrap 26 = .ok (.sipush 128, 3) := by decide +kernel
theorem dX2_enterTrap_29 : decode cX2_enterTrap 29 = .ok (.goto 4, 3) := by decide +kernel
theorem dX2_enterTrap_32 : decode cX2_enterTrap 32 = .ok (.iconst 0, 1) := by decide +kernel
theorem dX2_enterTrap_33 : decode cX2_enterTrap 33 = .ok (.putfield 13, 3) := by decide +kernel
theorem dX2_enterTrap_36 : decode cX2_enterTrap 36 = .ok (.return_, 1) := by decide +kernel
theorem dX3_readWord_0 : decode cX3_readWord 0 = .ok (.iload_n 1, 1) := by decide +kernel
theorem dX3_readWord_1 : decode cX3_readWord 1 = .ok (.iconst 2, 1) := by decide +kernel
theorem dX3_readWord_2 : decode cX3_readWord 2 = .ok (.iushr, 1) := by decide +kernel
theorem dX3_readWord_3 : decode cX3_readWord 3 = .ok (.istore_n 2, 1) := by decide +kernel
theorem dX3_readWord_4 : decode cX3_readWord 4 = .ok (.iload_n 2, 1) := by decide +kernel
theorem dX3_readWord_5 : decode cX3_readWord 5 = .ok (.aload_n 0, 1) := by decide +kernel
theorem dX3_readWord_6 : decode cX3_readWord 6 = .ok (.getfield 9, 3) := by decide +kernel
theorem dX3_readWord_9 : decode cX3_readWord 9 = .ok (.arraylength, 1) := by decide +kernel
theorem dX3_readWord_10 : decode cX3_readWord 10 = .ok (.if_icmp .ge 12, 3) := by decide +kernel
theorem dX3_readWord_13 : decode cX3_readWord 13 = .ok (.aload_n 0, 1) := by decide +kernel
theorem dX3_readWord_14 : decode cX3_readWord 14 = .ok (.getfield 9, 3) := by decide +kernel
theorem dX3_readWord_17 : decode cX3_readWord 17 = .ok (.iload_n 2, 1) := by decide +kernel
theorem dX3_readWord_18 : decode cX3_readWord 18 = .ok (.iaload, 1) := by decide +kernel
theorem dX3_readWord_19 : decode cX3_readWord 19 = .ok (.goto 4, 3) := by decide +kernel
theorem dX3_readWord_22 : decode cX3_readWord 22 = .ok (.iconst 0, 1) := by decide +kernel
theorem dX3_readWord_23 : decode cX3_readWord 23 = .ok (.ireturn, 1) := by decide +kernel
theorem dX4_execute_0 : decode cX4_execute 0 = .ok (.iload_n 1, 1) := by decide +kernel
theorem dX4_execute_1 : decode cX4_execute 1 = .ok (.invokestatic 128, 3) := by decide +kernel
theorem dX4_execute_4 : decode cX4_execute 4 = .ok (.lookupswitch 205 #[(3, 155), (15, 179), (19, 167), (23, 110), (35, 161), (51, 173), (55, 100), (99, 149), (103, 143), (111, 125), (115, 184)], 100) := by decide +kernel
theorem dX4_execute_104 : decode cX4_execute 104 = .ok (.aload_n 0, 1) := by decide +kernel
theorem dX4_execute_105 : decode cX4_execute 105 = .ok (.iload_n 1, 1) := by decide +kernel
theorem dX4_execute_106 : decode cX4_execute 106 = .ok (.iload_n 1, 1) := by decide +kernel
theorem dX4_execute_107 : decode cX4_execute 107 = .ok (.invokestatic 133, 3) := by decide +kernel
theorem dX4_execute_110 : decode cX4_execute 110 = .ok (.invokevirtual 136, 3) := by decide +kernel
theorem dX4_execute_113 : decode cX4_execute 113 = .ok (.ireturn, 1) := by decide +kernel
theorem dX4_execute_114 : decode cX4_execute 114 = .ok (.aload_n 0, 1) := by decide +kernel
theorem dX4_execute_115 : decode cX4_execute 115 = .ok (.iload_n 1, 1) := by decide +kernel
theorem dX4_execute_116 : decode cX4_execute 116 = .ok (.aload_n 0, 1) := by decide +kernel
theorem dX4_execute_117 : decode cX4_execute 117 = .ok (.getfield 70, 3) := by decide +kernel
theorem dX4_execute_120 : decode cX4_execute 120 = .ok (.iload_n 1, 1) := by decide +kernel
theorem dX4_execute_121 : decode cX4_execute 121 = .ok (.invokestatic 133, 3) := by decide +kernel
theorem dX4_execute_124 : decode cX4_execute 124 = .ok (.iadd, 1) := by decide +kernel
theorem dX4_execute_125 : decode cX4_execute 125 = .ok (.invokevirtual 136, 3) := by decide +kernel
theorem dX4_execute_128 : decode cX4_execute 128 = .ok (.ireturn, 1) := by decide +kernel
theorem dX4_execute_129 : decode cX4_execute 129 = .ok (.aload_n 0, 1) := by decide +kernel
theorem dX4_execute_130 : decode cX4_execute 130 = .ok (.iload_n 1, 1) := by decide +kernel
theorem dX4_execute_131 : decode cX4_execute 131 = .ok (.invokestatic 139, 3) := by decide +kernel
theorem dX4_execute_134 : decode cX4_execute 134 = .ok (.aload_n 0, 1) := by decide +kernel
theorem dX4_execute_135 : decode cX4_execute 135 = .ok (.getfield 70, 3) := by decide +kernel
theorem dX4_execute_138 : decode cX4_execute 138 = .ok (.iload_n 1, 1) := by decide +kernel
theorem dX4_execute_139 : decode cX4_execute 139 = .ok (.invokestatic 142, 3) := by decide +kernel
theorem dX4_execute_142 : decode cX4_execute 142 = .ok (.iadd, 1) := by decide +kernel
theorem dX4_execute_143 : decode cX4_execute 143 = .ok (.invokevirtual 145, 3) := by decide +kernel
theorem dX4_execute_146 : decode cX4_execute 146 = .ok (.ireturn, 1) := by decide +kernel
theorem dX4_execute_147 : decode cX4_execute 147 = .ok (.aload_n 0, 1) := by decide +kernel
theorem dX4_execute_148 : decode cX4_execute 148 = .ok (.iload_n 1, 1) := by decide +kernel
theorem dX4_execute_149 : decode cX4_execute 149 = .ok (.invokevirtual 148, 3) := by decide +kernel
theorem dX4_execute_152 : decode cX4_execute 152 = .ok (.ireturn, 1) := by decide +kernel
theorem dX4_execute_153 : decode cX4_execute 153 = .ok (.aload_n 0, 1) := by decide +kernel
theorem dX4_execute_154 : decode cX4_execute 154 = .ok (.iload_n 1, 1) := by decide +kernel
theorem dX4_execute_155 : decode cX4_execute 155 = .ok (.invokevirtual 151, 3) := by decide +kernel
theorem dX4_execute_158 : decode cX4_execute 158 = .ok (.ireturn, 1) := by decide +kernel
theorem dX4_execute_159 : decode cX4_execute 159 = .ok (.aload_n 0, 1) := by decide +kernel
theorem dX4_execute_160 : decode cX4_execute 160 = .ok (.iload_n 1, 1) := by decide +kernel
theorem dX4_execute_161 : decode cX4_execute 161 = .ok (.invokevirtual 154, 3) := by decide +kernel
theorem dX4_execute_164 : decode cX4_execute 164 = .ok (.ireturn, 1) := by decide +kernel
theorem dX4_execute_165 : decode cX4_execute 165 = .ok (.aload_n 0, 1) := by decide +kernel
theorem dX4_execute_166 : decode cX4_execute 166 = .ok (.iload_n 1, 1) := by decide +kernel
theorem dX4_execute_167 : decode cX4_execute 167 = .ok (.invokevirtual 157, 3) := by decide +kernel
theorem dX4_execute_170 : decode cX4_execute 170 = .ok (.ireturn, 1) := by decide +kernel
theorem dX4_execute_171 : decode cX4_execute 171 = .ok (.aload_n 0, 1) := by decide +kernel
theorem dX4_execute_172 : decode cX4_execute 172 = .ok (.iload_n 1, 1) := by decide +kernel
theorem dX4_execute_173 : decode cX4_execute 173 = .ok (.invokevirtual 160, 3) := by decide +kernel
theorem dX4_execute_176 : decode cX4_execute 176 = .ok (.ireturn, 1) := by decide +kernel
theorem dX4_execute_177 : decode cX4_execute 177 = .ok (.aload_n 0, 1) := by decide +kernel
theorem dX4_execute_178 : decode cX4_execute 178 = .ok (.iload_n 1, 1) := by decide +kernel
theorem dX4_execute_179 : decode cX4_execute 179 = .ok (.invokevirtual 163, 3) := by decide +kernel
theorem dX4_execute_182 : decode cX4_execute 182 = .ok (.ireturn, 1) := by decide +kernel
theorem dX4_execute_183 : decode cX4_execute 183 = .ok (.aload_n 0, 1) := by decide +kernel
theorem dX4_execute_184 : decode cX4_execute 184 = .ok (.invokevirtual 166, 3) := by decide +kernel
theorem dX4_execute_187 : decode cX4_execute 187 = .ok (.ireturn, 1) := by decide +kernel
theorem dX4_execute_188 : decode cX4_execute 188 = .ok (.iload_n 1, 1) := by decide +kernel
theorem dX4_execute_189 : decode cX4_execute 189 = .ok (.invokestatic 169, 3) := by decide +kernel
theorem dX4_execute_192 : decode cX4_execute 192 = .ok (.ifCond .ne 11, 3) := by decide +kernel
theorem dX4_execute_195 : decode cX4_execute 195 = .ok (.aload_n 0, 1) := by decide +kernel
theorem dX4_execute_196 : decode cX4_execute 196 = .ok (.iload_n 1, 1) := by decide +kernel
theorem dX4_execute_197 : decode cX4_execute 197 = .ok (.invokevirtual 172, 3) := by decide +kernel
theorem dX4_execute_200 : decode cX4_execute 200 = .ok (.goto 8, 3) := by decide +kernel
theorem dX4_execute_203 : decode cX4_execute 203 = .ok (.aload_n 0, 1) := by decide +kernel
theorem dX4_execute_204 : decode cX4_execute 204 = .ok (.iload_n 1, 1) := by decide +kernel
theorem dX4_execute_205 : decode cX4_execute 205 = .ok (.invokevirtual 175, 3) := by decide +kernel
theorem dX4_execute_208 : decode cX4_execute 208 = .ok (.ireturn, 1) := by decide +kernel
theorem dX4_execute_209 : decode cX4_execute 209 = .ok (.aload_n 0, 1) := by decide +kernel
theorem dX4_execute_210 : decode cX4_execute 210 = .ok (.iload_n 1, 1) := by decide +kernel
theorem dX4_execute_211 : decode cX4_execute 211 = .ok (.invokevirtual 178, 3) := by decide +kernel
theorem dX4_execute_214 : decode cX4_execute 214 = .ok (.ireturn, 1) := by decide +kernel
theorem dX1_op_0 : decode cX1_op 0 = .ok (.iload_n 0, 1) := by decide +kernel
theorem dX1_op_1 : decode cX1_op 1 = .ok (.bipush 127, 2) := by decide +kernel
theorem dX1_op_3 : decode cX1_op 3 = .ok (.iand, 1) := by decide +kernel
theorem dX1_op_4 : decode cX1_op 4 = .ok (.ireturn, 1) := by decide +kernel
theorem dX1_numberU_0 : decode cX1_numberU 0 = .ok (.iload_n 0, 1) := by decide +kernel
theorem dX1_numberU_1 : decode cX1_numberU 1 = .ok (.sipush (-4096), 3) := by decide +kernel
theorem dX1_numberU_4 : decode cX1_numberU 4 = .ok (.iand, 1) := by decide +kernel
theorem dX1_numberU_5 : decode cX1_numberU 5 = .ok (.ireturn, 1) := by decide +kernel
theorem dX4_goOnWith_0 : decode cX4_goOnWith 0 = .ok (.aload_n 0, 1) := by decide +kernel
theorem dX4_goOnWith_1 : decode cX4_goOnWith 1 = .ok (.iload_n 1, 1) := by decide +kernel
theorem dX4_goOnWith_2 : decode cX4_goOnWith 2 = .ok (.invokestatic 139, 3) := by decide +kernel
theorem dX4_goOnWith_5 : decode cX4_goOnWith 5 = .ok (.iload_n 2, 1) := by decide +kernel
theorem dX4_goOnWith_6 : decode cX4_goOnWith 6 = .ok (.invokevirtual 38, 3) := by decide +kernel
theorem dX4_goOnWith_9 : decode cX4_goOnWith 9 = .ok (.aload_n 0, 1) := by decide +kernel
theorem dX4_goOnWith_10 : decode cX4_goOnWith 10 = .ok (.invokevirtual 166, 3) := by decide +kernel
theorem dX4_goOnWith_13 : decode cX4_goOnWith 13 = .ok (.ireturn, 1) := by decide +kernel
theorem dX1_d_0 : decode cX1_d 0 = .ok (.iload_n 0, 1) := by decide +kernel
theorem dX1_d_1 : decode cX1_d 1 = .ok (.bipush 7, 2) := by decide +kernel
theorem dX1_d_3 : decode cX1_d 3 = .ok (.iushr, 1) := by decide +kernel
theorem dX1_d_4 : decode cX1_d 4 = .ok (.bipush 31, 2) := by decide +kernel
theorem dX1_d_6 : decode cX1_d 6 = .ok (.iand, 1) := by decide +kernel
theorem dX1_d_7 : decode cX1_d 7 = .ok (.ireturn, 1) := by decide +kernel
theorem dX4_goOn_0 : decode cX4_goOn 0 = .ok (.aload_n 0, 1) := by decide +kernel
theorem dX4_goOn_1 : decode cX4_goOn 1 = .ok (.dup, 1) := by decide +kernel
theorem dX4_goOn_2 : decode cX4_goOn 2 = .ok (.getfield 70, 3) := by decide +kernel
theorem dX4_goOn_5 : decode cX4_goOn 5 = .ok (.iconst 4, 1) := by decide +kernel
theorem dX4_goOn_6 : decode cX4_goOn 6 = .ok (.iadd, 1) := by decide +kernel
theorem dX4_goOn_7 : decode cX4_goOn 7 = .ok (.putfield 70, 3) := by decide +kernel
theorem dX4_goOn_10 : decode cX4_goOn 10 = .ok (.iconst 1, 1) := by decide +kernel
theorem dX4_goOn_11 : decode cX4_goOn 11 = .ok (.ireturn, 1) := by decide +kernel
theorem dX1_numberJ_0 : decode cX1_numberJ 0 = .ok (.iload_n 0, 1) := by decide +kernel
theorem dX1_numberJ_1 : decode cX1_numberJ 1 = .ok (.bipush 31, 2) := by decide +kernel
theorem dX1_numberJ_3 : decode cX1_numberJ 3 = .ok (.ishr, 1) := by decide +kernel
theorem dX1_numberJ_4 : decode cX1_numberJ 4 = .ok (.bipush 20, 2) := by decide +kernel
theorem dX1_numberJ_6 : decode cX1_numberJ 6 = .ok (.ishl, 1) := by decide +kernel
theorem dX1_numberJ_7 : decode cX1_numberJ 7 = .ok (.iload_n 0, 1) := by decide +kernel
theorem dX1_numberJ_8 : decode cX1_numberJ 8 = .ok (.bipush 12, 2) := by decide +kernel
theorem dX1_numberJ_10 : decode cX1_numberJ 10 = .ok (.iushr, 1) := by decide +kernel
theorem dX1_numberJ_11 : decode cX1_numberJ 11 = .ok (.sipush 255, 3) := by decide +kernel
theorem dX1_numberJ_14 : decode cX1_numberJ 14 = .ok (.iand, 1) := by decide +kernel
theorem dX1_numberJ_15 : decode cX1_numberJ 15 = .ok (.bipush 12, 2) := by decide +kernel
theorem dX1_numberJ_17 : decode cX1_numberJ 17 = .ok (.ishl, 1) := by decide +kernel
theorem dX1_numberJ_18 : decode cX1_numberJ 18 = .ok (.ior, 1) := by decide +kernel
theorem dX1_numberJ_19 : decode cX1_numberJ 19 = .ok (.iload_n 0, 1) := by decide +kernel
theorem dX1_numberJ_20 : decode cX1_numberJ 20 = .ok (.bipush 20, 2) := by decide +kernel
theorem dX1_numberJ_22 : decode cX1_numberJ 22 = .ok (.iushr, 1) := by decide +kernel
theorem dX1_numberJ_23 : decode cX1_numberJ 23 = .ok (.iconst 1, 1) := by decide +kernel
theorem dX1_numberJ_24 : decode cX1_numberJ 24 = .ok (.iand, 1) := by decide +kernel
theorem dX1_numberJ_25 : decode cX1_numberJ 25 = .ok (.bipush 11, 2) := by decide +kernel
theorem dX1_numberJ_27 : decode cX1_numberJ 27 = .ok (.ishl, 1) := by decide +kernel
theorem dX1_numberJ_28 : decode cX1_numberJ 28 = .ok (.ior, 1) := by decide +kernel
theorem dX1_numberJ_29 : decode cX1_numberJ 29 = .ok (.iload_n 0, 1) := by decide +kernel
theorem dX1_numberJ_30 : decode cX1_numberJ 30 = .ok (.bipush 21, 2) := by decide +kernel
theorem dX1_numberJ_32 : decode cX1_numberJ 32 = .ok (.iushr, 1) := by decide +kernel
theorem dX1_numberJ_33 : decode cX1_numberJ 33 = .ok (.sipush 1023, 3) := by decide +kernel
theorem dX1_numberJ_36 : decode cX1_numberJ 36 = .ok (.iand, 1) := by decide +kernel
theorem dX1_numberJ_37 : decode cX1_numberJ 37 = .ok (.iconst 1, 1) := by decide +kernel
theorem dX1_numberJ_38 : decode cX1_numberJ 38 = .ok (.ishl, 1) := by decide +kernel
theorem dX1_numberJ_39 : decode cX1_numberJ 39 = .ok (.ior, 1) := by decide +kernel
theorem dX1_numberJ_40 : decode cX1_numberJ 40 = .ok (.ireturn, 1) := by decide +kernel
theorem dX4_jump_0 : decode cX4_jump 0 = .ok (.iload_n 2, 1) := by decide +kernel
end
section
theorem dX4_jump_1 : decode cX4_jump 1 = .ok (.iconst 3, 1) := by decide +kernel
theorem dX4_jump_2 : decode cX4_jump 2 = .ok (.iand, 1) := by decide +kernel
theorem dX4_jump_3 : decode cX4_jump 3 = .ok (.ifCond .eq 10, 3) := by decide +kernel
theorem dX4_jump_6 : decode cX4_jump 6 = .ok (.aload_n 0, 1) := by decide +kernel
theorem dX4_jump_7 : decode cX4_jump 7 = .ok (.iconst 0, 1) := by decide +kernel
theorem dX4_jump_8 : decode cX4_jump 8 = .ok (.iload_n 2, 1) := by decide +kernel
theorem dX4_jump_9 : decode cX4_jump 9 = .ok (.invokevirtual 118, 3) := by decide +kernel
theorem dX4_jump_12 : decode cX4_jump 12 = .ok (.ireturn, 1) := by decide +kernel
theorem dX4_jump_13 : decode cX4_jump 13 = .ok (.aload_n 0, 1) := by decide +kernel
theorem dX4_jump_14 : decode cX4_jump 14 = .ok (.iload_n 1, 1) := by decide +kernel
theorem dX4_jump_15 : decode cX4_jump 15 = .ok (.aload_n 0, 1) := by decide +kernel
theorem dX4_jump_16 : decode cX4_jump 16 = .ok (.getfield 70, 3) := by decide +kernel
theorem dX4_jump_19 : decode cX4_jump 19 = .ok (.iconst 4, 1) := by decide +kernel
theorem dX4_jump_20 : decode cX4_jump 20 = .ok (.iadd, 1) := by decide +kernel
theorem dX4_jump_21 : decode cX4_jump 21 = .ok (.invokevirtual 38, 3) := by decide +kernel
theorem dX4_jump_24 : decode cX4_jump 24 = .ok (.aload_n 0, 1) := by decide +kernel
theorem dX4_jump_25 : decode cX4_jump 25 = .ok (.iload_n 2, 1) := by decide +kernel
theorem dX4_jump_26 : decode cX4_jump 26 = .ok (.putfield 70, 3) := by decide +kernel
theorem dX4_jump_29 : decode cX4_jump 29 = .ok (.iconst 1, 1) := by decide +kernel
theorem dX4_jump_30 : decode cX4_jump 30 = .ok (.ireturn, 1) := by decide +kernel
theorem dX4_jumpByRegister_0 : decode cX4_jumpByRegister 0 = .ok (.iload_n 1, 1) := by decide +kernel
theorem dX4_jumpByRegister_1 : decode cX4_jumpByRegister 1 = .ok (.invokestatic 169, 3) := by decide +kernel
theorem dX4_jumpByRegister_4 : decode cX4_jumpByRegister 4 = .ok (.ifCond .eq 9, 3) := by decide +kernel
theorem dX4_jumpByRegister_7 : decode cX4_jumpByRegister 7 = .ok (.aload_n 0, 1) := by decide +kernel
theorem dX4_jumpByRegister_8 : decode cX4_jumpByRegister 8 = .ok (.iload_n 1, 1) := by decide +kernel
theorem dX4_jumpByRegister_9 : decode cX4_jumpByRegister 9 = .ok (.invokevirtual 178, 3) := by decide +kernel
theorem dX4_jumpByRegister_12 : decode cX4_jumpByRegister 12 = .ok (.ireturn, 1) := by decide +kernel
theorem dX4_jumpByRegister_13 : decode cX4_jumpByRegister 13 = .ok (.aload_n 0, 1) := by decide +kernel
theorem dX4_jumpByRegister_14 : decode cX4_jumpByRegister 14 = .ok (.iload_n 1, 1) := by decide +kernel
theorem dX4_jumpByRegister_15 : decode cX4_jumpByRegister 15 = .ok (.invokestatic 139, 3) := by decide +kernel
theorem dX4_jumpByRegister_18 : decode cX4_jumpByRegister 18 = .ok (.aload_n 0, 1) := by decide +kernel
theorem dX4_jumpByRegister_19 : decode cX4_jumpByRegister 19 = .ok (.iload_n 1, 1) := by decide +kernel
theorem dX4_jumpByRegister_20 : decode cX4_jumpByRegister 20 = .ok (.invokevirtual 194, 3) := by decide +kernel
theorem dX4_jumpByRegister_23 : decode cX4_jumpByRegister 23 = .ok (.iload_n 1, 1) := by decide +kernel
theorem dX4_jumpByRegister_24 : decode cX4_jumpByRegister 24 = .ok (.invokestatic 197, 3) := by decide +kernel
theorem dX4_jumpByRegister_27 : decode cX4_jumpByRegister 27 = .ok (.iadd, 1) := by decide +kernel
theorem dX4_jumpByRegister_28 : decode cX4_jumpByRegister 28 = .ok (.bipush (-2), 2) := by decide +kernel
theorem dX4_jumpByRegister_30 : decode cX4_jumpByRegister 30 = .ok (.iand, 1) := by decide +kernel
theorem dX4_jumpByRegister_31 : decode cX4_jumpByRegister 31 = .ok (.invokevirtual 145, 3) := by decide +kernel
theorem dX4_jumpByRegister_34 : decode cX4_jumpByRegister 34 = .ok (.ireturn, 1) := by decide +kernel
theorem dX1_f_0 : decode cX1_f 0 = .ok (.iload_n 0, 1) := by decide +kernel
theorem dX1_f_1 : decode cX1_f 1 = .ok (.bipush 12, 2) := by decide +kernel
theorem dX1_f_3 : decode cX1_f 3 = .ok (.iushr, 1) := by decide +kernel
theorem dX1_f_4 : decode cX1_f 4 = .ok (.bipush 7, 2) := by decide +kernel
theorem dX1_f_6 : decode cX1_f 6 = .ok (.iand, 1) := by decide +kernel
theorem dX1_f_7 : decode cX1_f 7 = .ok (.ireturn, 1) := by decide +kernel
theorem dX4_unknown_0 : decode cX4_unknown 0 = .ok (.aload_n 0, 1) := by decide +kernel
theorem dX4_unknown_1 : decode cX4_unknown 1 = .ok (.iconst 2, 1) := by decide +kernel
theorem dX4_unknown_2 : decode cX4_unknown 2 = .ok (.iload_n 1, 1) := by decide +kernel
theorem dX4_unknown_3 : decode cX4_unknown 3 = .ok (.invokevirtual 118, 3) := by decide +kernel
theorem dX4_unknown_6 : decode cX4_unknown 6 = .ok (.ireturn, 1) := by decide +kernel
theorem dX4_valueA_0 : decode cX4_valueA 0 = .ok (.aload_n 0, 1) := by decide +kernel
theorem dX4_valueA_1 : decode cX4_valueA 1 = .ok (.iload_n 1, 1) := by decide +kernel
theorem dX4_valueA_2 : decode cX4_valueA 2 = .ok (.invokestatic 181, 3) := by decide +kernel
theorem dX4_valueA_5 : decode cX4_valueA 5 = .ok (.invokevirtual 83, 3) := by decide +kernel
theorem dX4_valueA_8 : decode cX4_valueA 8 = .ok (.ireturn, 1) := by decide +kernel
theorem dX1_a_0 : decode cX1_a 0 = .ok (.iload_n 0, 1) := by decide +kernel
theorem dX1_a_1 : decode cX1_a 1 = .ok (.bipush 15, 2) := by decide +kernel
theorem dX1_a_3 : decode cX1_a 3 = .ok (.iushr, 1) := by decide +kernel
theorem dX1_a_4 : decode cX1_a 4 = .ok (.bipush 31, 2) := by decide +kernel
theorem dX1_a_6 : decode cX1_a 6 = .ok (.iand, 1) := by decide +kernel
theorem dX1_a_7 : decode cX1_a 7 = .ok (.ireturn, 1) := by decide +kernel
theorem dX4_readRegister_0 : decode cX4_readRegister 0 = .ok (.iload_n 1, 1) := by decide +kernel
theorem dX4_readRegister_1 : decode cX4_readRegister 1 = .ok (.iconst 1, 1) := by decide +kernel
theorem dX4_readRegister_2 : decode cX4_readRegister 2 = .ok (.if_icmp .lt 21, 3) := by decide +kernel
theorem dX4_readRegister_5 : decode cX4_readRegister 5 = .ok (.iload_n 1, 1) := by decide +kernel
theorem dX4_readRegister_6 : decode cX4_readRegister 6 = .ok (.aload_n 0, 1) := by decide +kernel
theorem dX4_readRegister_7 : decode cX4_readRegister 7 = .ok (.getfield 23, 3) := by decide +kernel
theorem dX4_readRegister_10 : decode cX4_readRegister 10 = .ok (.arraylength, 1) := by decide +kernel
theorem dX4_readRegister_11 : decode cX4_readRegister 11 = .ok (.if_icmp .ge 12, 3) := by decide +kernel
theorem dX4_readRegister_14 : decode cX4_readRegister 14 = .ok (.aload_n 0, 1) := by decide +kernel
theorem dX4_readRegister_15 : decode cX4_readRegister 15 = .ok (.getfield 23, 3) := by decide +kernel
theorem dX4_readRegister_18 : decode cX4_readRegister 18 = .ok (.iload_n 1, 1) := by decide +kernel
theorem dX4_readRegister_19 : decode cX4_readRegister 19 = .ok (.iaload, 1) := by decide +kernel
theorem dX4_readRegister_20 : decode cX4_readRegister 20 = .ok (.goto 4, 3) := by decide +kernel
theorem dX4_readRegister_23 : decode cX4_readRegister 23 = .ok (.iconst 0, 1) := by decide +kernel
theorem dX4_readRegister_24 : decode cX4_readRegister 24 = .ok (.ireturn, 1) := by decide +kernel
theorem dX1_numberI_0 : decode cX1_numberI 0 = .ok (.iload_n 0, 1) := by decide +kernel
theorem dX1_numberI_1 : decode cX1_numberI 1 = .ok (.bipush 20, 2) := by decide +kernel
theorem dX1_numberI_3 : decode cX1_numberI 3 = .ok (.ishr, 1) := by decide +kernel
theorem dX1_numberI_4 : decode cX1_numberI 4 = .ok (.ireturn, 1) := by decide +kernel
theorem dX4_branch_0 : decode cX4_branch 0 = .ok (.iload_n 1, 1) := by decide +kernel
theorem dX4_branch_1 : decode cX4_branch 1 = .ok (.invokestatic 169, 3) := by decide +kernel
theorem dX4_branch_4 : decode cX4_branch 4 = .ok (.istore_n 2, 1) := by decide +kernel
theorem dX4_branch_5 : decode cX4_branch 5 = .ok (.iload_n 2, 1) := by decide +kernel
theorem dX4_branch_6 : decode cX4_branch 6 = .ok (.iconst 2, 1) := by decide +kernel
theorem dX4_branch_7 : decode cX4_branch 7 = .ok (.if_icmp .eq 8, 3) := by decide +kernel
theorem dX4_branch_10 : decode cX4_branch 10 = .ok (.iload_n 2, 1) := by decide +kernel
theorem dX4_branch_11 : decode cX4_branch 11 = .ok (.iconst 3, 1) := by decide +kernel
theorem dX4_branch_12 : decode cX4_branch 12 = .ok (.if_icmp .ne 9, 3) := by decide +kernel
theorem dX4_branch_15 : decode cX4_branch 15 = .ok (.aload_n 0, 1) := by decide +kernel
theorem dX4_branch_16 : decode cX4_branch 16 = .ok (.iload_n 1, 1) := by decide +kernel
theorem dX4_branch_17 : decode cX4_branch 17 = .ok (.invokevirtual 178, 3) := by decide +kernel
theorem dX4_branch_20 : decode cX4_branch 20 = .ok (.ireturn, 1) := by decide +kernel
theorem dX4_branch_21 : decode cX4_branch 21 = .ok (.iload_n 2, 1) := by decide +kernel
theorem dX4_branch_22 : decode cX4_branch 22 = .ok (.aload_n 0, 1) := by decide +kernel
theorem dX4_branch_23 : decode cX4_branch 23 = .ok (.iload_n 1, 1) := by decide +kernel
theorem dX4_branch_24 : decode cX4_branch 24 = .ok (.invokevirtual 194, 3) := by decide +kernel
theorem dX4_branch_27 : decode cX4_branch 27 = .ok (.aload_n 0, 1) := by decide +kernel
theorem dX4_branch_28 : decode cX4_branch 28 = .ok (.iload_n 1, 1) := by decide +kernel
theorem dX4_branch_29 : decode cX4_branch 29 = .ok (.invokevirtual 200, 3) := by decide +kernel
theorem dX4_branch_32 : decode cX4_branch 32 = .ok (.invokestatic 203, 3) := by decide +kernel
theorem dX4_branch_35 : decode cX4_branch 35 = .ok (.ifCond .ne 8, 3) := by decide +kernel
theorem dX4_branch_38 : decode cX4_branch 38 = .ok (.aload_n 0, 1) := by decide +kernel
theorem dX4_branch_39 : decode cX4_branch 39 = .ok (.invokevirtual 166, 3) := by decide +kernel
theorem dX4_branch_42 : decode cX4_branch 42 = .ok (.ireturn, 1) := by decide +kernel
theorem dX4_branch_43 : decode cX4_branch 43 = .ok (.aload_n 0, 1) := by decide +kernel
theorem dX4_branch_44 : decode cX4_branch 44 = .ok (.iconst 0, 1) := by decide +kernel
theorem dX4_branch_45 : decode cX4_branch 45 = .ok (.aload_n 0, 1) := by decide +kernel
theorem dX4_branch_46 : decode cX4_branch 46 = .ok (.getfield 70, 3) := by decide +kernel
theorem dX4_branch_49 : decode cX4_branch 49 = .ok (.iload_n 1, 1) := by decide +kernel
theorem dX4_branch_50 : decode cX4_branch 50 = .ok (.invokestatic 208, 3) := by decide +kernel
theorem dX4_branch_53 : decode cX4_branch 53 = .ok (.iadd, 1) := by decide +kernel
theorem dX4_branch_54 : decode cX4_branch 54 = .ok (.invokevirtual 145, 3) := by decide +kernel
theorem dX4_branch_57 : decode cX4_branch 57 = .ok (.ireturn, 1) := by decide +kernel
theorem dX4_valueB_0 : decode cX4_valueB 0 = .ok (.aload_n 0, 1) := by decide +kernel
theorem dX4_valueB_1 : decode cX4_valueB 1 = .ok (.iload_n 1, 1) := by decide +kernel
theorem dX4_valueB_2 : decode cX4_valueB 2 = .ok (.invokestatic 184, 3) := by decide +kernel
theorem dX4_valueB_5 : decode cX4_valueB 5 = .ok (.invokevirtual 83, 3) := by decide +kernel
theorem dX4_valueB_8 : decode cX4_valueB 8 = .ok (.ireturn, 1) := by decide +kernel
theorem dX1_b_0 : decode cX1_b 0 = .ok (.iload_n 0, 1) := by decide +kernel
theorem dX1_b_1 : decode cX1_b 1 = .ok (.bipush 20, 2) := by decide +kernel
theorem dX1_b_3 : decode cX1_b 3 = .ok (.iushr, 1) := by decide +kernel
theorem dX1_b_4 : decode cX1_b 4 = .ok (.bipush 31, 2) := by decide +kernel
theorem dX1_b_6 : decode cX1_b 6 = .ok (.iand, 1) := by decide +kernel
theorem dX1_b_7 : decode cX1_b 7 = .ok (.ireturn, 1) := by decide +kernel
theorem dX0_holds_0 : decode cX0_holds 0 = .ok (.iload_n 0, 1) := by decide +kernel
theorem dX0_holds_1 : decode cX0_holds 1 = .ok (.tableswitch 93 0 6 #[43, 54, 93, 93, 65, 76, 87], 43) := by decide +kernel
theorem dX0_holds_44 : decode cX0_holds 44 = .ok (.iload_n 1, 1) := by decide +kernel
theorem dX0_holds_45 : decode cX0_holds 45 = .ok (.iload_n 2, 1) := by decide +kernel
theorem dX0_holds_46 : decode cX0_holds 46 = .ok (.if_icmp .ne 7, 3) := by decide +kernel
theorem dX0_holds_49 : decode cX0_holds 49 = .ok (.iconst 1, 1) := by decide +kernel
theorem dX0_holds_50 : decode cX0_holds 50 = .ok (.goto 4, 3) := by decide +kernel
theorem dX0_holds_53 : decode cX0_holds 53 = .ok (.iconst 0, 1) := by decide +kernel
theorem dX0_holds_54 : decode cX0_holds 54 = .ok (.ireturn, 1) := by decide +kernel
theorem dX0_holds_55 : decode cX0_holds 55 = .ok (.iload_n 1, 1) := by decide +kernel
theorem dX0_holds_56 : decode cX0_holds 56 = .ok (.iload_n 2, 1) := by decide +kernel
theorem dX0_holds_57 : decode cX0_holds 57 = .ok (.if_icmp .eq 7, 3) := by decide +kernel
theorem dX0_holds_60 : decode cX0_holds 60 = .ok (.iconst 1, 1) := by decide +kernel
theorem dX0_holds_61 : decode cX0_holds 61 = .ok (.goto 4, 3) := by decide +kernel
theorem dX0_holds_64 : decode cX0_holds 64 = .ok (.iconst 0, 1) := by decide +kernel
theorem dX0_holds_65 : decode cX0_holds 65 = .ok (.ireturn, 1) := by decide +kernel
theorem dX0_holds_66 : decode cX0_holds 66 = .ok (.iload_n 1, 1) := by decide +kernel
theorem dX0_holds_67 : decode cX0_holds 67 = .ok (.iload_n 2, 1) := by decide +kernel
theorem dX0_holds_68 : decode cX0_holds 68 = .ok (.if_icmp .ge 7, 3) := by decide +kernel
theorem dX0_holds_71 : decode cX0_holds 71 = .ok (.iconst 1, 1) := by decide +kernel
theorem dX0_holds_72 : decode cX0_holds 72 = .ok (.goto 4, 3) := by decide +kernel
theorem dX0_holds_75 : decode cX0_holds 75 = .ok (.iconst 0, 1) := by decide +kernel
theorem dX0_holds_76 : decode cX0_holds 76 = .ok (.ireturn, 1) := by decide +kernel
theorem dX0_holds_77 : decode cX0_holds 77 = .ok (.iload_n 1, 1) := by decide +kernel
theorem dX0_holds_78 : decode cX0_holds 78 = .ok (.iload_n 2, 1) := by decide +kernel
theorem dX0_holds_79 : decode cX0_holds 79 = .ok (.if_icmp .lt 7, 3) := by decide +kernel
theorem dX0_holds_82 : decode cX0_holds 82 = .ok (.iconst 1, 1) := by decide +kernel
theorem dX0_holds_83 : decode cX0_holds 83 = .ok (.goto 4, 3) := by decide +kernel
theorem dX0_holds_86 : decode cX0_holds 86 = .ok (.iconst 0, 1) := by decide +kernel
theorem dX0_holds_87 : decode cX0_holds 87 = .ok (.ireturn, 1) := by decide +kernel
theorem dX0_holds_88 : decode cX0_holds 88 = .ok (.iload_n 1, 1) := by decide +kernel
theorem dX0_holds_89 : decode cX0_holds 89 = .ok (.iload_n 2, 1) := by decide +kernel
theorem dX0_holds_90 : decode cX0_holds 90 = .ok (.invokestatic 11, 3) := by decide +kernel
theorem dX0_holds_93 : decode cX0_holds 93 = .ok (.ireturn, 1) := by decide +kernel
theorem dX0_holds_94 : decode cX0_holds 94 = .ok (.iload_n 1, 1) := by decide +kernel
theorem dX0_holds_95 : decode cX0_holds 95 = .ok (.iload_n 2, 1) := by decide +kernel
theorem dX0_holds_96 : decode cX0_holds 96 = .ok (.invokestatic 11, 3) := by decide +kernel
theorem dX0_holds_99 : decode cX0_holds 99 = .ok (.ifCond .ne 7, 3) := by decide +kernel
theorem dX0_holds_102 : decode cX0_holds 102 = .ok (.iconst 1, 1) := by decide +kernel
theorem dX0_holds_103 : decode cX0_holds 103 = .ok (.goto 4, 3) := by decide +kernel
theorem dX0_holds_106 : decode cX0_holds 106 = .ok (.iconst 0, 1) := by decide +kernel
theorem dX0_holds_107 : decode cX0_holds 107 = .ok (.ireturn, 1) := by decide +kernel
theorem dX0_isBelow_0 : decode cX0_isBelow 0 = .ok (.iload_n 0, 1) := by decide +kernel
theorem dX0_isBelow_1 : decode cX0_isBelow 1 = .ok (.i2l, 1) := by decide +kernel
theorem dX0_isBelow_2 : decode cX0_isBelow 2 = .ok (.ldc2_w 9, 3) := by decide +kernel
theorem dX0_isBelow_5 : decode cX0_isBelow 5 = .ok (.land, 1) := by decide +kernel
theorem dX0_isBelow_6 : decode cX0_isBelow 6 = .ok (.iload_n 1, 1) := by decide +kernel
theorem dX0_isBelow_7 : decode cX0_isBelow 7 = .ok (.i2l, 1) := by decide +kernel
theorem dX0_isBelow_8 : decode cX0_isBelow 8 = .ok (.ldc2_w 9, 3) := by decide +kernel
theorem dX0_isBelow_11 : decode cX0_isBelow 11 = .ok (.land, 1) := by decide +kernel
theorem dX0_isBelow_12 : decode cX0_isBelow 12 = .ok (.lcmp, 1) := by decide +kernel
theorem dX0_isBelow_13 : decode cX0_isBelow 13 = .ok (.ifCond .ge 7, 3) := by decide +kernel
theorem dX0_isBelow_16 : decode cX0_isBelow 16 = .ok (.iconst 1, 1) := by decide +kernel
theorem dX0_isBelow_17 : decode cX0_isBelow 17 = .ok (.goto 4, 3) := by decide +kernel
theorem dX0_isBelow_20 : decode cX0_isBelow 20 = .ok (.iconst 0, 1) := by decide +kernel
theorem dX0_isBelow_21 : decode cX0_isBelow 21 = .ok (.ireturn, 1) := by decide +kernel
theorem dX1_numberB_0 : decode cX1_numberB 0 = .ok (.iload_n 0, 1) := by decide +kernel
theorem dX1_numberB_1 : decode cX1_numberB 1 = .ok (.bipush 31, 2) := by decide +kernel
theorem dX1_numberB_3 : decode cX1_numberB 3 = .ok (.ishr, 1) := by decide +kernel
theorem dX1_numberB_4 : decode cX1_numberB 4 = .ok (.bipush 12, 2) := by decide +kernel
theorem dX1_numberB_6 : decode cX1_numberB 6 = .ok (.ishl, 1) := by decide +kernel
theorem dX1_numberB_7 : decode cX1_numberB 7 = .ok (.iload_n 0, 1) := by decide +kernel
theorem dX1_numberB_8 : decode cX1_numberB 8 = .ok (.bipush 7, 2) := by decide +kernel
theorem dX1_numberB_10 : decode cX1_numberB 10 = .ok (.iushr, 1) := by decide +kernel
theorem dX1_numberB_11 : decode cX1_numberB 11 = .ok (.iconst 1, 1) := by decide +kernel
theorem dX1_numberB_12 : decode cX1_numberB 12 = .ok (.iand, 1) := by decide +kernel
theorem dX1_numberB_13 : decode cX1_numberB 13 = .ok (.bipush 11, 2) := by decide +kernel
theorem dX1_numberB_15 : decode cX1_numberB 15 = .ok (.ishl, 1) := by decide +kernel
theorem dX1_numberB_16 : decode cX1_numberB 16 = .ok (.ior, 1) := by decide +kernel
theorem dX1_numberB_17 : decode cX1_numberB 17 = .ok (.iload_n 0, 1) := by decide +kernel
theorem dX1_numberB_18 : decode cX1_numberB 18 = .ok (.bipush 25, 2) := by decide +kernel
theorem dX1_numberB_20 : decode cX1_numberB 20 = .ok (.iushr, 1) := by decide +kernel
theorem dX1_numberB_21 : decode cX1_numberB 21 = .ok (.bipush 63, 2) := by decide +kernel
theorem dX1_numberB_23 : decode cX1_numberB 23 = .ok (.iand, 1) := by decide +kernel
theorem dX1_numberB_24 : decode cX1_numberB 24 = .ok (.iconst 5, 1) := by decide +kernel
theorem dX1_numberB_25 : decode cX1_numberB 25 = .ok (.ishl, 1) := by decide +kernel
theorem dX1_numberB_26 : decode cX1_numberB 26 = .ok (.ior, 1) := by decide +kernel
theorem dX1_numberB_27 : decode cX1_numberB 27 = .ok (.iload_n 0, 1) := by decide +kernel
theorem dX1_numberB_28 : decode cX1_numberB 28 = .ok (.bipush 8, 2) := by decide +kernel
theorem dX1_numberB_30 : decode cX1_numberB 30 = .ok (.iushr, 1) := by decide +kernel
theorem dX1_numberB_31 : decode cX1_numberB 31 = .ok (.bipush 15, 2) := by decide +kernel
theorem dX1_numberB_33 : decode cX1_numberB 33 = .ok (.iand, 1) := by decide +kernel
theorem dX1_numberB_34 : decode cX1_numberB 34 = .ok (.iconst 1, 1) := by decide +kernel
theorem dX1_numberB_35 : decode cX1_numberB 35 = .ok (.ishl, 1) := by decide +kernel
theorem dX1_numberB_36 : decode cX1_numberB 36 = .ok (.ior, 1) := by decide +kernel
theorem dX1_numberB_37 : decode cX1_numberB 37 = .ok (.ireturn, 1) := by decide +kernel
theorem dX4_load_0 : decode cX4_load 0 = .ok (.iload_n 1, 1) := by decide +kernel
theorem dX4_load_1 : decode cX4_load 1 = .ok (.invokestatic 169, 3) := by decide +kernel
theorem dX4_load_4 : decode cX4_load 4 = .ok (.istore_n 2, 1) := by decide +kernel
theorem dX4_load_5 : decode cX4_load 5 = .ok (.iload_n 2, 1) := by decide +kernel
theorem dX4_load_6 : decode cX4_load 6 = .ok (.iconst 3, 1) := by decide +kernel
theorem dX4_load_7 : decode cX4_load 7 = .ok (.if_icmp .eq 8, 3) := by decide +kernel
theorem dX4_load_10 : decode cX4_load 10 = .ok (.iload_n 2, 1) := by decide +kernel
theorem dX4_load_11 : decode cX4_load 11 = .ok (.iconst 5, 1) := by decide +kernel
theorem dX4_load_12 : decode cX4_load 12 = .ok (.if_icmp .le 9, 3) := by decide +kernel
theorem dX4_load_15 : decode cX4_load 15 = .ok (.aload_n 0, 1) := by decide +kernel
theorem dX4_load_16 : decode cX4_load 16 = .ok (.iload_n 1, 1) := by decide +kernel
theorem dX4_load_17 : decode cX4_load 17 = .ok (.invokevirtual 178, 3) := by decide +kernel
theorem dX4_load_20 : decode cX4_load 20 = .ok (.ireturn, 1) := by decide +kernel
theorem dX4_load_21 : decode cX4_load 21 = .ok (.aload_n 0, 1) := by decide +kernel
theorem dX4_load_22 : decode cX4_load 22 = .ok (.iload_n 1, 1) := by decide +kernel
theorem dX4_load_23 : decode cX4_load 23 = .ok (.invokevirtual 194, 3) := by decide +kernel
theorem dX4_load_26 : decode cX4_load 26 = .ok (.iload_n 1, 1) := by decide +kernel
theorem dX4_load_27 : decode cX4_load 27 = .ok (.invokestatic 197, 3) := by decide +kernel
theorem dX4_load_30 : decode cX4_load 30 = .ok (.iadd, 1) := by decide +kernel
theorem dX4_load_31 : decode cX4_load 31 = .ok (.istore_n 3, 1) := by decide +kernel
theorem dX4_load_32 : decode cX4_load 32 = .ok (.iload_n 3, 1) := by decide +kernel
theorem dX4_load_33 : decode cX4_load 33 = .ok (.iload_n 2, 1) := by decide +kernel
theorem dX4_load_34 : decode cX4_load 34 = .ok (.iconst 3, 1) := by decide +kernel
theorem dX4_load_35 : decode cX4_load 35 = .ok (.iand, 1) := by decide +kernel
theorem dX4_load_36 : decode cX4_load 36 = .ok (.invokestatic 211, 3) := by decide +kernel
theorem dX4_load_39 : decode cX4_load 39 = .ok (.ifCond .ne 10, 3) := by decide +kernel
theorem dX4_load_42 : decode cX4_load 42 = .ok (.aload_n 0, 1) := by decide +kernel
theorem dX4_load_43 : decode cX4_load 43 = .ok (.iconst 4, 1) := by decide +kernel
theorem dX4_load_44 : decode cX4_load 44 = .ok (.iload_n 3, 1) := by decide +kernel
theorem dX4_load_45 : decode cX4_load 45 = .ok (.invokevirtual 118, 3) := by decide +kernel
theorem dX4_load_48 : decode cX4_load 48 = .ok (.ireturn, 1) := by decide +kernel
theorem dX4_load_49 : decode cX4_load 49 = .ok (.iload_n 3, 1) := by decide +kernel
theorem dX4_load_50 : decode cX4_load 50 = .ok (.invokestatic 122, 3) := by decide +kernel
theorem dX4_load_53 : decode cX4_load 53 = .ok (.ifCond .ne 10, 3) := by decide +kernel
theorem dX4_load_56 : decode cX4_load 56 = .ok (.aload_n 0, 1) := by decide +kernel
theorem dX4_load_57 : decode cX4_load 57 = .ok (.iconst 5, 1) := by decide +kernel
theorem dX4_load_58 : decode cX4_load 58 = .ok (.iload_n 3, 1) := by decide +kernel
theorem dX4_load_59 : decode cX4_load 59 = .ok (.invokevirtual 118, 3) := by decide +kernel
theorem dX4_load_62 : decode cX4_load 62 = .ok (.ireturn, 1) := by decide +kernel
theorem dX4_load_63 : decode cX4_load 63 = .ok (.aload_n 0, 1) := by decide +kernel
theorem dX4_load_64 : decode cX4_load 64 = .ok (.iload_n 1, 1) := by decide +kernel
theorem dX4_load_65 : decode cX4_load 65 = .ok (.aload_n 0, 1) := by decide +kernel
theorem dX4_load_66 : decode cX4_load 66 = .ok (.getfield 10, 3) := by decide +kernel
theorem dX4_load_69 : decode cX4_load 69 = .ok (.iload_n 3, 1) := by decide +kernel
theorem dX4_load_70 : decode cX4_load 70 = .ok (.iload_n 2, 1) := by decide +kernel
theorem dX4_load_71 : decode cX4_load 71 = .ok (.invokevirtual 214, 3) := by decide +kernel
theorem dX4_load_74 : decode cX4_load 74 = .ok (.invokevirtual 136, 3) := by decide +kernel
theorem dX4_load_77 : decode cX4_load 77 = .ok (.ireturn, 1) := by decide +kernel
end
section
theorem dX3_isBy_0 : decode cX3_isBy 0 = .ok (.iload_n 0, 1) := by decide +kernel
theorem dX3_isBy_1 : decode cX3_isBy 1 = .ok (.iconst 1, 1) := by decide +kernel
theorem dX3_isBy_2 : decode cX3_isBy 2 = .ok (.iload_n 1, 1) := by decide +kernel
theorem dX3_isBy_3 : decode cX3_isBy 3 = .ok (.ishl, 1) := by decide +kernel
theorem dX3_isBy_4 : decode cX3_isBy 4 = .ok (.iconst 1, 1) := by decide +kernel
theorem dX3_isBy_5 : decode cX3_isBy 5 = .ok (.isub, 1) := by decide +kernel
theorem dX3_isBy_6 : decode cX3_isBy 6 = .ok (.iand, 1) := by decide +kernel
theorem dX3_isBy_7 : decode cX3_isBy 7 = .ok (.ifCond .ne 7, 3) := by decide +kernel
theorem dX3_isBy_10 : decode cX3_isBy 10 = .ok (.iconst 1, 1) := by decide +kernel
theorem dX3_isBy_11 : decode cX3_isBy 11 = .ok (.goto 4, 3) := by decide +kernel
theorem dX3_isBy_14 : decode cX3_isBy 14 = .ok (.iconst 0, 1) := by decide +kernel
theorem dX3_isBy_15 : decode cX3_isBy 15 = .ok (.ireturn, 1) := by decide +kernel
theorem dX3_readPart_0 : decode cX3_readPart 0 = .ok (.aload_n 0, 1) := by decide +kernel
theorem dX3_readPart_1 : decode cX3_readPart 1 = .ok (.iload_n 1, 1) := by decide +kernel
theorem dX3_readPart_2 : decode cX3_readPart 2 = .ok (.invokevirtual 17, 3) := by decide +kernel
theorem dX3_readPart_5 : decode cX3_readPart 5 = .ok (.iload_n 1, 1) := by decide +kernel
theorem dX3_readPart_6 : decode cX3_readPart 6 = .ok (.invokestatic 21, 3) := by decide +kernel
theorem dX3_readPart_9 : decode cX3_readPart 9 = .ok (.iushr, 1) := by decide +kernel
theorem dX3_readPart_10 : decode cX3_readPart 10 = .ok (.istore_n 3, 1) := by decide +kernel
theorem dX3_readPart_11 : decode cX3_readPart 11 = .ok (.iload_n 2, 1) := by decide +kernel
theorem dX3_readPart_12 : decode cX3_readPart 12 = .ok (.tableswitch 57 0 5 #[40, 43, 57, 57, 46, 52], 40) := by decide +kernel
theorem dX3_readPart_52 : decode cX3_readPart 52 = .ok (.iload_n 3, 1) := by decide +kernel
theorem dX3_readPart_53 : decode cX3_readPart 53 = .ok (.i2b, 1) := by decide +kernel
theorem dX3_readPart_54 : decode cX3_readPart 54 = .ok (.ireturn, 1) := by decide +kernel
theorem dX3_readPart_55 : decode cX3_readPart 55 = .ok (.iload_n 3, 1) := by decide +kernel
theorem dX3_readPart_56 : decode cX3_readPart 56 = .ok (.i2s, 1) := by decide +kernel
theorem dX3_readPart_57 : decode cX3_readPart 57 = .ok (.ireturn, 1) := by decide +kernel
theorem dX3_readPart_58 : decode cX3_readPart 58 = .ok (.iload_n 3, 1) := by decide +kernel
theorem dX3_readPart_59 : decode cX3_readPart 59 = .ok (.sipush 255, 3) := by decide +kernel
theorem dX3_readPart_62 : decode cX3_readPart 62 = .ok (.iand, 1) := by decide +kernel
theorem dX3_readPart_63 : decode cX3_readPart 63 = .ok (.ireturn, 1) := by decide +kernel
theorem dX3_readPart_64 : decode cX3_readPart 64 = .ok (.iload_n 3, 1) := by decide +kernel
theorem dX3_readPart_65 : decode cX3_readPart 65 = .ok (.ldc 24, 2) := by decide +kernel
theorem dX3_readPart_67 : decode cX3_readPart 67 = .ok (.iand, 1) := by decide +kernel
theorem dX3_readPart_68 : decode cX3_readPart 68 = .ok (.ireturn, 1) := by decide +kernel
theorem dX3_readPart_69 : decode cX3_readPart 69 = .ok (.iload_n 3, 1) := by decide +kernel
theorem dX3_readPart_70 : decode cX3_readPart 70 = .ok (.ireturn, 1) := by decide +kernel
theorem dX3_shift_0 : decode cX3_shift 0 = .ok (.iload_n 0, 1) := by decide +kernel
theorem dX3_shift_1 : decode cX3_shift 1 = .ok (.iconst 3, 1) := by decide +kernel
theorem dX3_shift_2 : decode cX3_shift 2 = .ok (.iand, 1) := by decide +kernel
theorem dX3_shift_3 : decode cX3_shift 3 = .ok (.bipush 8, 2) := by decide +kernel
theorem dX3_shift_5 : decode cX3_shift 5 = .ok (.imul, 1) := by decide +kernel
theorem dX3_shift_6 : decode cX3_shift 6 = .ok (.ireturn, 1) := by decide +kernel
theorem dX4_store_0 : decode cX4_store 0 = .ok (.iload_n 1, 1) := by decide +kernel
theorem dX4_store_1 : decode cX4_store 1 = .ok (.invokestatic 169, 3) := by decide +kernel
theorem dX4_store_4 : decode cX4_store 4 = .ok (.istore_n 2, 1) := by decide +kernel
theorem dX4_store_5 : decode cX4_store 5 = .ok (.iload_n 2, 1) := by decide +kernel
theorem dX4_store_6 : decode cX4_store 6 = .ok (.iconst 2, 1) := by decide +kernel
theorem dX4_store_7 : decode cX4_store 7 = .ok (.if_icmp .le 9, 3) := by decide +kernel
theorem dX4_store_10 : decode cX4_store 10 = .ok (.aload_n 0, 1) := by decide +kernel
theorem dX4_store_11 : decode cX4_store 11 = .ok (.iload_n 1, 1) := by decide +kernel
theorem dX4_store_12 : decode cX4_store 12 = .ok (.invokevirtual 178, 3) := by decide +kernel
theorem dX4_store_15 : decode cX4_store 15 = .ok (.ireturn, 1) := by decide +kernel
theorem dX4_store_16 : decode cX4_store 16 = .ok (.aload_n 0, 1) := by decide +kernel
theorem dX4_store_17 : decode cX4_store 17 = .ok (.iload_n 1, 1) := by decide +kernel
theorem dX4_store_18 : decode cX4_store 18 = .ok (.invokevirtual 194, 3) := by decide +kernel
theorem dX4_store_21 : decode cX4_store 21 = .ok (.iload_n 1, 1) := by decide +kernel
theorem dX4_store_22 : decode cX4_store 22 = .ok (.invokestatic 218, 3) := by decide +kernel
theorem dX4_store_25 : decode cX4_store 25 = .ok (.iadd, 1) := by decide +kernel
theorem dX4_store_26 : decode cX4_store 26 = .ok (.istore_n 3, 1) := by decide +kernel
theorem dX4_store_27 : decode cX4_store 27 = .ok (.iload_n 3, 1) := by decide +kernel
theorem dX4_store_28 : decode cX4_store 28 = .ok (.iload_n 2, 1) := by decide +kernel
theorem dX4_store_29 : decode cX4_store 29 = .ok (.invokestatic 211, 3) := by decide +kernel
theorem dX4_store_32 : decode cX4_store 32 = .ok (.ifCond .ne 11, 3) := by decide +kernel
theorem dX4_store_35 : decode cX4_store 35 = .ok (.aload_n 0, 1) := by decide +kernel
theorem dX4_store_36 : decode cX4_store 36 = .ok (.bipush 6, 2) := by decide +kernel
theorem dX4_store_38 : decode cX4_store 38 = .ok (.iload_n 3, 1) := by decide +kernel
theorem dX4_store_39 : decode cX4_store 39 = .ok (.invokevirtual 118, 3) := by decide +kernel
theorem dX4_store_42 : decode cX4_store 42 = .ok (.ireturn, 1) := by decide +kernel
theorem dX4_store_43 : decode cX4_store 43 = .ok (.iload_n 3, 1) := by decide +kernel
theorem dX4_store_44 : decode cX4_store 44 = .ok (.invokestatic 122, 3) := by decide +kernel
theorem dX4_store_47 : decode cX4_store 47 = .ok (.ifCond .ne 11, 3) := by decide +kernel
theorem dX4_store_50 : decode cX4_store 50 = .ok (.aload_n 0, 1) := by decide +kernel
theorem dX4_store_51 : decode cX4_store 51 = .ok (.bipush 7, 2) := by decide +kernel
theorem dX4_store_53 : decode cX4_store 53 = .ok (.iload_n 3, 1) := by decide +kernel
theorem dX4_store_54 : decode cX4_store 54 = .ok (.invokevirtual 118, 3) := by decide +kernel
theorem dX4_store_57 : decode cX4_store 57 = .ok (.ireturn, 1) := by decide +kernel
theorem dX4_store_58 : decode cX4_store 58 = .ok (.aload_n 0, 1) := by decide +kernel
theorem dX4_store_59 : decode cX4_store 59 = .ok (.getfield 10, 3) := by decide +kernel
theorem dX4_store_62 : decode cX4_store 62 = .ok (.iload_n 3, 1) := by decide +kernel
theorem dX4_store_63 : decode cX4_store 63 = .ok (.iload_n 2, 1) := by decide +kernel
theorem dX4_store_64 : decode cX4_store 64 = .ok (.aload_n 0, 1) := by decide +kernel
theorem dX4_store_65 : decode cX4_store 65 = .ok (.iload_n 1, 1) := by decide +kernel
theorem dX4_store_66 : decode cX4_store 66 = .ok (.invokevirtual 200, 3) := by decide +kernel
theorem dX4_store_69 : decode cX4_store 69 = .ok (.invokevirtual 221, 3) := by decide +kernel
theorem dX4_store_72 : decode cX4_store 72 = .ok (.aload_n 0, 1) := by decide +kernel
theorem dX4_store_73 : decode cX4_store 73 = .ok (.invokevirtual 166, 3) := by decide +kernel
theorem dX4_store_76 : decode cX4_store 76 = .ok (.ireturn, 1) := by decide +kernel
theorem dX1_numberS_0 : decode cX1_numberS 0 = .ok (.iload_n 0, 1) := by decide +kernel
theorem dX1_numberS_1 : decode cX1_numberS 1 = .ok (.bipush 25, 2) := by decide +kernel
theorem dX1_numberS_3 : decode cX1_numberS 3 = .ok (.ishr, 1) := by decide +kernel
theorem dX1_numberS_4 : decode cX1_numberS 4 = .ok (.iconst 5, 1) := by decide +kernel
theorem dX1_numberS_5 : decode cX1_numberS 5 = .ok (.ishl, 1) := by decide +kernel
theorem dX1_numberS_6 : decode cX1_numberS 6 = .ok (.iload_n 0, 1) := by decide +kernel
theorem dX1_numberS_7 : decode cX1_numberS 7 = .ok (.invokestatic 7, 3) := by decide +kernel
theorem dX1_numberS_10 : decode cX1_numberS 10 = .ok (.ior, 1) := by decide +kernel
theorem dX1_numberS_11 : decode cX1_numberS 11 = .ok (.ireturn, 1) := by decide +kernel
theorem dX3_writePart_0 : decode cX3_writePart 0 = .ok (.iload_n 2, 1) := by decide +kernel
theorem dX3_writePart_1 : decode cX3_writePart 1 = .ok (.invokestatic 25, 3) := by decide +kernel
theorem dX3_writePart_4 : decode cX3_writePart 4 = .ok (.iload_n 1, 1) := by decide +kernel
theorem dX3_writePart_5 : decode cX3_writePart 5 = .ok (.invokestatic 21, 3) := by decide +kernel
theorem dX3_writePart_8 : decode cX3_writePart 8 = .ok (.ishl, 1) := by decide +kernel
theorem dX3_writePart_9 : decode cX3_writePart 9 = .ok (.istore 4, 2) := by decide +kernel
theorem dX3_writePart_11 : decode cX3_writePart 11 = .ok (.aload_n 0, 1) := by decide +kernel
theorem dX3_writePart_12 : decode cX3_writePart 12 = .ok (.iload_n 1, 1) := by decide +kernel
theorem dX3_writePart_13 : decode cX3_writePart 13 = .ok (.invokevirtual 17, 3) := by decide +kernel
theorem dX3_writePart_16 : decode cX3_writePart 16 = .ok (.iload 4, 2) := by decide +kernel
theorem dX3_writePart_18 : decode cX3_writePart 18 = .ok (.iconst (-1), 1) := by decide +kernel
theorem dX3_writePart_19 : decode cX3_writePart 19 = .ok (.ixor, 1) := by decide +kernel
theorem dX3_writePart_20 : decode cX3_writePart 20 = .ok (.iand, 1) := by decide +kernel
theorem dX3_writePart_21 : decode cX3_writePart 21 = .ok (.istore 5, 2) := by decide +kernel
theorem dX3_writePart_23 : decode cX3_writePart 23 = .ok (.aload_n 0, 1) := by decide +kernel
theorem dX3_writePart_24 : decode cX3_writePart 24 = .ok (.iload_n 1, 1) := by decide +kernel
theorem dX3_writePart_25 : decode cX3_writePart 25 = .ok (.iload 5, 2) := by decide +kernel
theorem dX3_writePart_27 : decode cX3_writePart 27 = .ok (.iload_n 3, 1) := by decide +kernel
theorem dX3_writePart_28 : decode cX3_writePart 28 = .ok (.iload_n 1, 1) := by decide +kernel
theorem dX3_writePart_29 : decode cX3_writePart 29 = .ok (.invokestatic 21, 3) := by decide +kernel
theorem dX3_writePart_32 : decode cX3_writePart 32 = .ok (.ishl, 1) := by decide +kernel
theorem dX3_writePart_33 : decode cX3_writePart 33 = .ok (.iload 4, 2) := by decide +kernel
theorem dX3_writePart_35 : decode cX3_writePart 35 = .ok (.iand, 1) := by decide +kernel
theorem dX3_writePart_36 : decode cX3_writePart 36 = .ok (.ior, 1) := by decide +kernel
theorem dX3_writePart_37 : decode cX3_writePart 37 = .ok (.invokevirtual 28, 3) := by decide +kernel
theorem dX3_writePart_40 : decode cX3_writePart 40 = .ok (.return_, 1) := by decide +kernel
theorem dX3_partMask_0 : decode cX3_partMask 0 = .ok (.iload_n 0, 1) := by decide +kernel
theorem dX3_partMask_1 : decode cX3_partMask 1 = .ok (.lookupswitch 34 #[(0, 27), (1, 31)], 27) := by decide +kernel
theorem dX3_partMask_28 : decode cX3_partMask 28 = .ok (.sipush 255, 3) := by decide +kernel
theorem dX3_partMask_31 : decode cX3_partMask 31 = .ok (.ireturn, 1) := by decide +kernel
theorem dX3_partMask_32 : decode cX3_partMask 32 = .ok (.ldc 24, 2) := by decide +kernel
theorem dX3_partMask_34 : decode cX3_partMask 34 = .ok (.ireturn, 1) := by decide +kernel
theorem dX3_partMask_35 : decode cX3_partMask 35 = .ok (.iconst (-1), 1) := by decide +kernel
theorem dX3_partMask_36 : decode cX3_partMask 36 = .ok (.ireturn, 1) := by decide +kernel
theorem dX4_computeWithNumber_0 : decode cX4_computeWithNumber 0 = .ok (.iload_n 1, 1) := by decide +kernel
theorem dX4_computeWithNumber_1 : decode cX4_computeWithNumber 1 = .ok (.invokestatic 169, 3) := by decide +kernel
theorem dX4_computeWithNumber_4 : decode cX4_computeWithNumber 4 = .ok (.istore_n 2, 1) := by decide +kernel
theorem dX4_computeWithNumber_5 : decode cX4_computeWithNumber 5 = .ok (.iload_n 1, 1) := by decide +kernel
theorem dX4_computeWithNumber_6 : decode cX4_computeWithNumber 6 = .ok (.invokestatic 224, 3) := by decide +kernel
theorem dX4_computeWithNumber_9 : decode cX4_computeWithNumber 9 = .ok (.istore_n 3, 1) := by decide +kernel
theorem dX4_computeWithNumber_10 : decode cX4_computeWithNumber 10 = .ok (.iload_n 2, 1) := by decide +kernel
theorem dX4_computeWithNumber_11 : decode cX4_computeWithNumber 11 = .ok (.iconst 1, 1) := by decide +kernel
theorem dX4_computeWithNumber_12 : decode cX4_computeWithNumber 12 = .ok (.if_icmp .eq 27, 3) := by decide +kernel
theorem dX4_computeWithNumber_15 : decode cX4_computeWithNumber 15 = .ok (.iload_n 2, 1) := by decide +kernel
theorem dX4_computeWithNumber_16 : decode cX4_computeWithNumber 16 = .ok (.iconst 5, 1) := by decide +kernel
theorem dX4_computeWithNumber_17 : decode cX4_computeWithNumber 17 = .ok (.if_icmp .eq 22, 3) := by decide +kernel
theorem dX4_computeWithNumber_20 : decode cX4_computeWithNumber 20 = .ok (.aload_n 0, 1) := by decide +kernel
theorem dX4_computeWithNumber_21 : decode cX4_computeWithNumber 21 = .ok (.iload_n 1, 1) := by decide +kernel
theorem dX4_computeWithNumber_22 : decode cX4_computeWithNumber 22 = .ok (.iload_n 2, 1) := by decide +kernel
theorem dX4_computeWithNumber_23 : decode cX4_computeWithNumber 23 = .ok (.aload_n 0, 1) := by decide +kernel
theorem dX4_computeWithNumber_24 : decode cX4_computeWithNumber 24 = .ok (.iload_n 1, 1) := by decide +kernel
theorem dX4_computeWithNumber_25 : decode cX4_computeWithNumber 25 = .ok (.invokevirtual 194, 3) := by decide +kernel
theorem dX4_computeWithNumber_28 : decode cX4_computeWithNumber 28 = .ok (.iload_n 1, 1) := by decide +kernel
theorem dX4_computeWithNumber_29 : decode cX4_computeWithNumber 29 = .ok (.invokestatic 197, 3) := by decide +kernel
theorem dX4_computeWithNumber_32 : decode cX4_computeWithNumber 32 = .ok (.invokestatic 227, 3) := by decide +kernel
theorem dX4_computeWithNumber_35 : decode cX4_computeWithNumber 35 = .ok (.invokevirtual 136, 3) := by decide +kernel
theorem dX4_computeWithNumber_38 : decode cX4_computeWithNumber 38 = .ok (.ireturn, 1) := by decide +kernel
theorem dX4_computeWithNumber_39 : decode cX4_computeWithNumber 39 = .ok (.iload_n 3, 1) := by decide +kernel
theorem dX4_computeWithNumber_40 : decode cX4_computeWithNumber 40 = .ok (.ifCond .ne 22, 3) := by decide +kernel
theorem dX4_computeWithNumber_43 : decode cX4_computeWithNumber 43 = .ok (.aload_n 0, 1) := by decide +kernel
theorem dX4_computeWithNumber_44 : decode cX4_computeWithNumber 44 = .ok (.iload_n 1, 1) := by decide +kernel
theorem dX4_computeWithNumber_45 : decode cX4_computeWithNumber 45 = .ok (.iload_n 2, 1) := by decide +kernel
theorem dX4_computeWithNumber_46 : decode cX4_computeWithNumber 46 = .ok (.aload_n 0, 1) := by decide +kernel
theorem dX4_computeWithNumber_47 : decode cX4_computeWithNumber 47 = .ok (.iload_n 1, 1) := by decide +kernel
theorem dX4_computeWithNumber_48 : decode cX4_computeWithNumber 48 = .ok (.invokevirtual 194, 3) := by decide +kernel
theorem dX4_computeWithNumber_51 : decode cX4_computeWithNumber 51 = .ok (.iload_n 1, 1) := by decide +kernel
theorem dX4_computeWithNumber_52 : decode cX4_computeWithNumber 52 = .ok (.invokestatic 184, 3) := by decide +kernel
theorem dX4_computeWithNumber_55 : decode cX4_computeWithNumber 55 = .ok (.invokestatic 227, 3) := by decide +kernel
theorem dX4_computeWithNumber_58 : decode cX4_computeWithNumber 58 = .ok (.invokevirtual 136, 3) := by decide +kernel
theorem dX4_computeWithNumber_61 : decode cX4_computeWithNumber 61 = .ok (.ireturn, 1) := by decide +kernel
theorem dX4_computeWithNumber_62 : decode cX4_computeWithNumber 62 = .ok (.iload_n 3, 1) := by decide +kernel
theorem dX4_computeWithNumber_63 : decode cX4_computeWithNumber 63 = .ok (.bipush 32, 2) := by decide +kernel
theorem dX4_computeWithNumber_65 : decode cX4_computeWithNumber 65 = .ok (.if_icmp .ne 24, 3) := by decide +kernel
theorem dX4_computeWithNumber_68 : decode cX4_computeWithNumber 68 = .ok (.iload_n 2, 1) := by decide +kernel
theorem dX4_computeWithNumber_69 : decode cX4_computeWithNumber 69 = .ok (.iconst 5, 1) := by decide +kernel
theorem dX4_computeWithNumber_70 : decode cX4_computeWithNumber 70 = .ok (.if_icmp .ne 19, 3) := by decide +kernel
theorem dX4_computeWithNumber_73 : decode cX4_computeWithNumber 73 = .ok (.aload_n 0, 1) := by decide +kernel
theorem dX4_computeWithNumber_74 : decode cX4_computeWithNumber 74 = .ok (.iload_n 1, 1) := by decide +kernel
theorem dX4_computeWithNumber_75 : decode cX4_computeWithNumber 75 = .ok (.aload_n 0, 1) := by decide +kernel
theorem dX4_computeWithNumber_76 : decode cX4_computeWithNumber 76 = .ok (.iload_n 1, 1) := by decide +kernel
theorem dX4_computeWithNumber_77 : decode cX4_computeWithNumber 77 = .ok (.invokevirtual 194, 3) := by decide +kernel
theorem dX4_computeWithNumber_80 : decode cX4_computeWithNumber 80 = .ok (.iload_n 1, 1) := by decide +kernel
theorem dX4_computeWithNumber_81 : decode cX4_computeWithNumber 81 = .ok (.invokestatic 184, 3) := by decide +kernel
theorem dX4_computeWithNumber_84 : decode cX4_computeWithNumber 84 = .ok (.ishr, 1) := by decide +kernel
theorem dX4_computeWithNumber_85 : decode cX4_computeWithNumber 85 = .ok (.invokevirtual 136, 3) := by decide +kernel
theorem dX4_computeWithNumber_88 : decode cX4_computeWithNumber 88 = .ok (.ireturn, 1) := by decide +kernel
theorem dX4_computeWithNumber_89 : decode cX4_computeWithNumber 89 = .ok (.aload_n 0, 1) := by decide +kernel
theorem dX4_computeWithNumber_90 : decode cX4_computeWithNumber 90 = .ok (.iload_n 1, 1) := by decide +kernel
theorem dX4_computeWithNumber_91 : decode cX4_computeWithNumber 91 = .ok (.invokevirtual 178, 3) := by decide +kernel
theorem dX4_computeWithNumber_94 : decode cX4_computeWithNumber 94 = .ok (.ireturn, 1) := by decide +kernel
theorem dX1_s_0 : decode cX1_s 0 = .ok (.iload_n 0, 1) := by decide +kernel
theorem dX1_s_1 : decode cX1_s 1 = .ok (.bipush 25, 2) := by decide +kernel
theorem dX1_s_3 : decode cX1_s 3 = .ok (.iushr, 1) := by decide +kernel
theorem dX1_s_4 : decode cX1_s 4 = .ok (.ireturn, 1) := by decide +kernel
theorem dX0_basic_0 : decode cX0_basic 0 = .ok (.iload_n 0, 1) := by decide +kernel
theorem dX0_basic_1 : decode cX0_basic 1 = .ok (.tableswitch 94 0 6 #[43, 47, 54, 65, 79, 83, 90], 43) := by decide +kernel
theorem dX0_basic_44 : decode cX0_basic 44 = .ok (.iload_n 1, 1) := by decide +kernel
theorem dX0_basic_45 : decode cX0_basic 45 = .ok (.iload_n 2, 1) := by decide +kernel
theorem dX0_basic_46 : decode cX0_basic 46 = .ok (.iadd, 1) := by decide +kernel
theorem dX0_basic_47 : decode cX0_basic 47 = .ok (.ireturn, 1) := by decide +kernel
theorem dX0_basic_48 : decode cX0_basic 48 = .ok (.iload_n 1, 1) := by decide +kernel
theorem dX0_basic_49 : decode cX0_basic 49 = .ok (.iload_n 2, 1) := by decide +kernel
theorem dX0_basic_50 : decode cX0_basic 50 = .ok (.bipush 31, 2) := by decide +kernel
theorem dX0_basic_52 : decode cX0_basic 52 = .ok (.iand, 1) := by decide +kernel
theorem dX0_basic_53 : decode cX0_basic 53 = .ok (.ishl, 1) := by decide +kernel
theorem dX0_basic_54 : decode cX0_basic 54 = .ok (.ireturn, 1) := by decide +kernel
theorem dX0_basic_55 : decode cX0_basic 55 = .ok (.iload_n 1, 1) := by decide +kernel
theorem dX0_basic_56 : decode cX0_basic 56 = .ok (.iload_n 2, 1) := by decide +kernel
theorem dX0_basic_57 : decode cX0_basic 57 = .ok (.if_icmp .ge 7, 3) := by decide +kernel
theorem dX0_basic_60 : decode cX0_basic 60 = .ok (.iconst 1, 1) := by decide +kernel
theorem dX0_basic_61 : decode cX0_basic 61 = .ok (.goto 4, 3) := by decide +kernel
theorem dX0_basic_64 : decode cX0_basic 64 = .ok (.iconst 0, 1) := by decide +kernel
theorem dX0_basic_65 : decode cX0_basic 65 = .ok (.ireturn, 1) := by decide +kernel
theorem dX0_basic_66 : decode cX0_basic 66 = .ok (.iload_n 1, 1) := by decide +kernel
theorem dX0_basic_67 : decode cX0_basic 67 = .ok (.iload_n 2, 1) := by decide +kernel
theorem dX0_basic_68 : decode cX0_basic 68 = .ok (.invokestatic 11, 3) := by decide +kernel
theorem dX0_basic_71 : decode cX0_basic 71 = .ok (.ifCond .eq 7, 3) := by decide +kernel
theorem dX0_basic_74 : decode cX0_basic 74 = .ok (.iconst 1, 1) := by decide +kernel
theorem dX0_basic_75 : decode cX0_basic 75 = .ok (.goto 4, 3) := by decide +kernel
theorem dX0_basic_78 : decode cX0_basic 78 = .ok (.iconst 0, 1) := by decide +kernel
theorem dX0_basic_79 : decode cX0_basic 79 = .ok (.ireturn, 1) := by decide +kernel
theorem dX0_basic_80 : decode cX0_basic 80 = .ok (.iload_n 1, 1) := by decide +kernel
theorem dX0_basic_81 : decode cX0_basic 81 = .ok (.iload_n 2, 1) := by decide +kernel
theorem dX0_basic_82 : decode cX0_basic 82 = .ok (.ixor, 1) := by decide +kernel
theorem dX0_basic_83 : decode cX0_basic 83 = .ok (.ireturn, 1) := by decide +kernel
theorem dX0_basic_84 : decode cX0_basic 84 = .ok (.iload_n 1, 1) := by decide +kernel
theorem dX0_basic_85 : decode cX0_basic 85 = .ok (.iload_n 2, 1) := by decide +kernel
theorem dX0_basic_86 : decode cX0_basic 86 = .ok (.bipush 31, 2) := by decide +kernel
theorem dX0_basic_88 : decode cX0_basic 88 = .ok (.iand, 1) := by decide +kernel
theorem dX0_basic_89 : decode cX0_basic 89 = .ok (.iushr, 1) := by decide +kernel
theorem dX0_basic_90 : decode cX0_basic 90 = .ok (.ireturn, 1) := by decide +kernel
theorem dX0_basic_91 : decode cX0_basic 91 = .ok (.iload_n 1, 1) := by decide +kernel
theorem dX0_basic_92 : decode cX0_basic 92 = .ok (.iload_n 2, 1) := by decide +kernel
theorem dX0_basic_93 : decode cX0_basic 93 = .ok (.ior, 1) := by decide +kernel
theorem dX0_basic_94 : decode cX0_basic 94 = .ok (.ireturn, 1) := by decide +kernel
theorem dX0_basic_95 : decode cX0_basic 95 = .ok (.iload_n 1, 1) := by decide +kernel
theorem dX0_basic_96 : decode cX0_basic 96 = .ok (.iload_n 2, 1) := by decide +kernel
theorem dX0_basic_97 : decode cX0_basic 97 = .ok (.iand, 1) := by decide +kernel
theorem dX0_basic_98 : decode cX0_basic 98 = .ok (.ireturn, 1) := by decide +kernel
theorem dX4_computeWithRegister_0 : decode cX4_computeWithRegister 0 = .ok (.iload_n 1, 1) := by decide +kernel
theorem dX4_computeWithRegister_1 : decode cX4_computeWithRegister 1 = .ok (.invokestatic 169, 3) := by decide +kernel
theorem dX4_computeWithRegister_4 : decode cX4_computeWithRegister 4 = .ok (.istore_n 2, 1) := by decide +kernel
theorem dX4_computeWithRegister_5 : decode cX4_computeWithRegister 5 = .ok (.iload_n 1, 1) := by decide +kernel
theorem dX4_computeWithRegister_6 : decode cX4_computeWithRegister 6 = .ok (.invokestatic 224, 3) := by decide +kernel
theorem dX4_computeWithRegister_9 : decode cX4_computeWithRegister 9 = .ok (.istore_n 3, 1) := by decide +kernel
theorem dX4_computeWithRegister_10 : decode cX4_computeWithRegister 10 = .ok (.iload_n 3, 1) := by decide +kernel
theorem dX4_computeWithRegister_11 : decode cX4_computeWithRegister 11 = .ok (.ifCond .ne 23, 3) := by decide +kernel
theorem dX4_computeWithRegister_14 : decode cX4_computeWithRegister 14 = .ok (.aload_n 0, 1) := by decide +kernel
theorem dX4_computeWithRegister_15 : decode cX4_computeWithRegister 15 = .ok (.iload_n 1, 1) := by decide +kernel
theorem dX4_computeWithRegister_16 : decode cX4_computeWithRegister 16 = .ok (.iload_n 2, 1) := by decide +kernel
theorem dX4_computeWithRegister_17 : decode cX4_computeWithRegister 17 = .ok (.aload_n 0, 1) := by decide +kernel
theorem dX4_computeWithRegister_18 : decode cX4_computeWithRegister 18 = .ok (.iload_n 1, 1) := by decide +kernel
theorem dX4_computeWithRegister_19 : decode cX4_computeWithRegister 19 = .ok (.invokevirtual 194, 3) := by decide +kernel
theorem dX4_computeWithRegister_22 : decode cX4_computeWithRegister 22 = .ok (.aload_n 0, 1) := by decide +kernel
theorem dX4_computeWithRegister_23 : decode cX4_computeWithRegister 23 = .ok (.iload_n 1, 1) := by decide +kernel
theorem dX4_computeWithRegister_24 : decode cX4_computeWithRegister 24 = .ok (.invokevirtual 200, 3) := by decide +kernel
theorem dX4_computeWithRegister_27 : decode cX4_computeWithRegister 27 = .ok (.invokestatic 227, 3) := by decide +kernel
theorem dX4_computeWithRegister_30 : decode cX4_computeWithRegister 30 = .ok (.invokevirtual 136, 3) := by decide +kernel
theorem dX4_computeWithRegister_33 : decode cX4_computeWithRegister 33 = .ok (.ireturn, 1) := by decide +kernel
theorem dX4_computeWithRegister_34 : decode cX4_computeWithRegister 34 = .ok (.iload_n 3, 1) := by decide +kernel
theorem dX4_computeWithRegister_35 : decode cX4_computeWithRegister 35 = .ok (.iconst 1, 1) := by decide +kernel
theorem dX4_computeWithRegister_36 : decode cX4_computeWithRegister 36 = .ok (.if_icmp .ne 23, 3) := by decide +kernel
theorem dX4_computeWithRegister_39 : decode cX4_computeWithRegister 39 = .ok (.aload_n 0, 1) := by decide +kernel
end
section
theorem dX4_computeWithRegister_40 : decode cX4_computeWithRegister 40 = .ok (.iload_n 1, 1) := by decide +kernel
theorem dX4_computeWithRegister_41 : decode cX4_computeWithRegister 41 = .ok (.iload_n 2, 1) := by decide +kernel
theorem dX4_computeWithRegister_42 : decode cX4_computeWithRegister 42 = .ok (.aload_n 0, 1) := by decide +kernel
theorem dX4_computeWithRegister_43 : decode cX4_computeWithRegister 43 = .ok (.iload_n 1, 1) := by decide +kernel
theorem dX4_computeWithRegister_44 : decode cX4_computeWithRegister 44 = .ok (.invokevirtual 194, 3) := by decide +kernel
theorem dX4_computeWithRegister_47 : decode cX4_computeWithRegister 47 = .ok (.aload_n 0, 1) := by decide +kernel
theorem dX4_computeWithRegister_48 : decode cX4_computeWithRegister 48 = .ok (.iload_n 1, 1) := by decide +kernel
theorem dX4_computeWithRegister_49 : decode cX4_computeWithRegister 49 = .ok (.invokevirtual 200, 3) := by decide +kernel
theorem dX4_computeWithRegister_52 : decode cX4_computeWithRegister 52 = .ok (.invokestatic 231, 3) := by decide +kernel
theorem dX4_computeWithRegister_55 : decode cX4_computeWithRegister 55 = .ok (.invokevirtual 136, 3) := by decide +kernel
theorem dX4_computeWithRegister_58 : decode cX4_computeWithRegister 58 = .ok (.ireturn, 1) := by decide +kernel
theorem dX4_computeWithRegister_59 : decode cX4_computeWithRegister 59 = .ok (.iload_n 3, 1) := by decide +kernel
theorem dX4_computeWithRegister_60 : decode cX4_computeWithRegister 60 = .ok (.bipush 32, 2) := by decide +kernel
theorem dX4_computeWithRegister_62 : decode cX4_computeWithRegister 62 = .ok (.if_icmp .ne 24, 3) := by decide +kernel
theorem dX4_computeWithRegister_65 : decode cX4_computeWithRegister 65 = .ok (.iload_n 2, 1) := by decide +kernel
theorem dX4_computeWithRegister_66 : decode cX4_computeWithRegister 66 = .ok (.ifCond .ne 20, 3) := by decide +kernel
theorem dX4_computeWithRegister_69 : decode cX4_computeWithRegister 69 = .ok (.aload_n 0, 1) := by decide +kernel
theorem dX4_computeWithRegister_70 : decode cX4_computeWithRegister 70 = .ok (.iload_n 1, 1) := by decide +kernel
theorem dX4_computeWithRegister_71 : decode cX4_computeWithRegister 71 = .ok (.aload_n 0, 1) := by decide +kernel
theorem dX4_computeWithRegister_72 : decode cX4_computeWithRegister 72 = .ok (.iload_n 1, 1) := by decide +kernel
theorem dX4_computeWithRegister_73 : decode cX4_computeWithRegister 73 = .ok (.invokevirtual 194, 3) := by decide +kernel
theorem dX4_computeWithRegister_76 : decode cX4_computeWithRegister 76 = .ok (.aload_n 0, 1) := by decide +kernel
theorem dX4_computeWithRegister_77 : decode cX4_computeWithRegister 77 = .ok (.iload_n 1, 1) := by decide +kernel
theorem dX4_computeWithRegister_78 : decode cX4_computeWithRegister 78 = .ok (.invokevirtual 200, 3) := by decide +kernel
theorem dX4_computeWithRegister_81 : decode cX4_computeWithRegister 81 = .ok (.isub, 1) := by decide +kernel
theorem dX4_computeWithRegister_82 : decode cX4_computeWithRegister 82 = .ok (.invokevirtual 136, 3) := by decide +kernel
theorem dX4_computeWithRegister_85 : decode cX4_computeWithRegister 85 = .ok (.ireturn, 1) := by decide +kernel
theorem dX4_computeWithRegister_86 : decode cX4_computeWithRegister 86 = .ok (.iload_n 3, 1) := by decide +kernel
theorem dX4_computeWithRegister_87 : decode cX4_computeWithRegister 87 = .ok (.bipush 32, 2) := by decide +kernel
theorem dX4_computeWithRegister_89 : decode cX4_computeWithRegister 89 = .ok (.if_icmp .ne 28, 3) := by decide +kernel
theorem dX4_computeWithRegister_92 : decode cX4_computeWithRegister 92 = .ok (.iload_n 2, 1) := by decide +kernel
theorem dX4_computeWithRegister_93 : decode cX4_computeWithRegister 93 = .ok (.iconst 5, 1) := by decide +kernel
theorem dX4_computeWithRegister_94 : decode cX4_computeWithRegister 94 = .ok (.if_icmp .ne 23, 3) := by decide +kernel
theorem dX4_computeWithRegister_97 : decode cX4_computeWithRegister 97 = .ok (.aload_n 0, 1) := by decide +kernel
theorem dX4_computeWithRegister_98 : decode cX4_computeWithRegister 98 = .ok (.iload_n 1, 1) := by decide +kernel
theorem dX4_computeWithRegister_99 : decode cX4_computeWithRegister 99 = .ok (.aload_n 0, 1) := by decide +kernel
theorem dX4_computeWithRegister_100 : decode cX4_computeWithRegister 100 = .ok (.iload_n 1, 1) := by decide +kernel
theorem dX4_computeWithRegister_101 : decode cX4_computeWithRegister 101 = .ok (.invokevirtual 194, 3) := by decide +kernel
theorem dX4_computeWithRegister_104 : decode cX4_computeWithRegister 104 = .ok (.aload_n 0, 1) := by decide +kernel
theorem dX4_computeWithRegister_105 : decode cX4_computeWithRegister 105 = .ok (.iload_n 1, 1) := by decide +kernel
theorem dX4_computeWithRegister_106 : decode cX4_computeWithRegister 106 = .ok (.invokevirtual 200, 3) := by decide +kernel
theorem dX4_computeWithRegister_109 : decode cX4_computeWithRegister 109 = .ok (.bipush 31, 2) := by decide +kernel
theorem dX4_computeWithRegister_111 : decode cX4_computeWithRegister 111 = .ok (.iand, 1) := by decide +kernel
theorem dX4_computeWithRegister_112 : decode cX4_computeWithRegister 112 = .ok (.ishr, 1) := by decide +kernel
theorem dX4_computeWithRegister_113 : decode cX4_computeWithRegister 113 = .ok (.invokevirtual 136, 3) := by decide +kernel
theorem dX4_computeWithRegister_116 : decode cX4_computeWithRegister 116 = .ok (.ireturn, 1) := by decide +kernel
theorem dX4_computeWithRegister_117 : decode cX4_computeWithRegister 117 = .ok (.aload_n 0, 1) := by decide +kernel
theorem dX4_computeWithRegister_118 : decode cX4_computeWithRegister 118 = .ok (.iload_n 1, 1) := by decide +kernel
theorem dX4_computeWithRegister_119 : decode cX4_computeWithRegister 119 = .ok (.invokevirtual 178, 3) := by decide +kernel
theorem dX4_computeWithRegister_122 : decode cX4_computeWithRegister 122 = .ok (.ireturn, 1) := by decide +kernel
theorem dX0_productOrQuotient_0 : decode cX0_productOrQuotient 0 = .ok (.iload_n 0, 1) := by decide +kernel
theorem dX0_productOrQuotient_1 : decode cX0_productOrQuotient 1 = .ok (.tableswitch 121 0 6 #[43, 47, 57, 71, 89, 97, 113], 43) := by decide +kernel
theorem dX0_productOrQuotient_44 : decode cX0_productOrQuotient 44 = .ok (.iload_n 1, 1) := by decide +kernel
theorem dX0_productOrQuotient_45 : decode cX0_productOrQuotient 45 = .ok (.iload_n 2, 1) := by decide +kernel
theorem dX0_productOrQuotient_46 : decode cX0_productOrQuotient 46 = .ok (.imul, 1) := by decide +kernel
theorem dX0_productOrQuotient_47 : decode cX0_productOrQuotient 47 = .ok (.ireturn, 1) := by decide +kernel
theorem dX0_productOrQuotient_48 : decode cX0_productOrQuotient 48 = .ok (.iload_n 1, 1) := by decide +kernel
theorem dX0_productOrQuotient_49 : decode cX0_productOrQuotient 49 = .ok (.i2l, 1) := by decide +kernel
theorem dX0_productOrQuotient_50 : decode cX0_productOrQuotient 50 = .ok (.iload_n 2, 1) := by decide +kernel
theorem dX0_productOrQuotient_51 : decode cX0_productOrQuotient 51 = .ok (.i2l, 1) := by decide +kernel
theorem dX0_productOrQuotient_52 : decode cX0_productOrQuotient 52 = .ok (.lmul, 1) := by decide +kernel
theorem dX0_productOrQuotient_53 : decode cX0_productOrQuotient 53 = .ok (.bipush 32, 2) := by decide +kernel
theorem dX0_productOrQuotient_55 : decode cX0_productOrQuotient 55 = .ok (.lshr, 1) := by decide +kernel
theorem dX0_productOrQuotient_56 : decode cX0_productOrQuotient 56 = .ok (.l2i, 1) := by decide +kernel
theorem dX0_productOrQuotient_57 : decode cX0_productOrQuotient 57 = .ok (.ireturn, 1) := by decide +kernel
theorem dX0_productOrQuotient_58 : decode cX0_productOrQuotient 58 = .ok (.iload_n 1, 1) := by decide +kernel
theorem dX0_productOrQuotient_59 : decode cX0_productOrQuotient 59 = .ok (.i2l, 1) := by decide +kernel
theorem dX0_productOrQuotient_60 : decode cX0_productOrQuotient 60 = .ok (.iload_n 2, 1) := by decide +kernel
theorem dX0_productOrQuotient_61 : decode cX0_productOrQuotient 61 = .ok (.i2l, 1) := by decide +kernel
theorem dX0_productOrQuotient_62 : decode cX0_productOrQuotient 62 = .ok (.ldc2_w 9, 3) := by decide +kernel
theorem dX0_productOrQuotient_65 : decode cX0_productOrQuotient 65 = .ok (.land, 1) := by decide +kernel
theorem dX0_productOrQuotient_66 : decode cX0_productOrQuotient 66 = .ok (.lmul, 1) := by decide +kernel
theorem dX0_productOrQuotient_67 : decode cX0_productOrQuotient 67 = .ok (.bipush 32, 2) := by decide +kernel
theorem dX0_productOrQuotient_69 : decode cX0_productOrQuotient 69 = .ok (.lshr, 1) := by decide +kernel
theorem dX0_productOrQuotient_70 : decode cX0_productOrQuotient 70 = .ok (.l2i, 1) := by decide +kernel
theorem dX0_productOrQuotient_71 : decode cX0_productOrQuotient 71 = .ok (.ireturn, 1) := by decide +kernel
theorem dX0_productOrQuotient_72 : decode cX0_productOrQuotient 72 = .ok (.iload_n 1, 1) := by decide +kernel
theorem dX0_productOrQuotient_73 : decode cX0_productOrQuotient 73 = .ok (.i2l, 1) := by decide +kernel
theorem dX0_productOrQuotient_74 : decode cX0_productOrQuotient 74 = .ok (.ldc2_w 9, 3) := by decide +kernel
theorem dX0_productOrQuotient_77 : decode cX0_productOrQuotient 77 = .ok (.land, 1) := by decide +kernel
theorem dX0_productOrQuotient_78 : decode cX0_productOrQuotient 78 = .ok (.iload_n 2, 1) := by decide +kernel
theorem dX0_productOrQuotient_79 : decode cX0_productOrQuotient 79 = .ok (.i2l, 1) := by decide +kernel
theorem dX0_productOrQuotient_80 : decode cX0_productOrQuotient 80 = .ok (.ldc2_w 9, 3) := by decide +kernel
theorem dX0_productOrQuotient_83 : decode cX0_productOrQuotient 83 = .ok (.land, 1) := by decide +kernel
theorem dX0_productOrQuotient_84 : decode cX0_productOrQuotient 84 = .ok (.lmul, 1) := by decide +kernel
theorem dX0_productOrQuotient_85 : decode cX0_productOrQuotient 85 = .ok (.bipush 32, 2) := by decide +kernel
theorem dX0_productOrQuotient_87 : decode cX0_productOrQuotient 87 = .ok (.lushr, 1) := by decide +kernel
theorem dX0_productOrQuotient_88 : decode cX0_productOrQuotient 88 = .ok (.l2i, 1) := by decide +kernel
theorem dX0_productOrQuotient_89 : decode cX0_productOrQuotient 89 = .ok (.ireturn, 1) := by decide +kernel
theorem dX0_productOrQuotient_90 : decode cX0_productOrQuotient 90 = .ok (.iload_n 1, 1) := by decide +kernel
theorem dX0_productOrQuotient_91 : decode cX0_productOrQuotient 91 = .ok (.i2l, 1) := by decide +kernel
theorem dX0_productOrQuotient_92 : decode cX0_productOrQuotient 92 = .ok (.iload_n 2, 1) := by decide +kernel
theorem dX0_productOrQuotient_93 : decode cX0_productOrQuotient 93 = .ok (.i2l, 1) := by decide +kernel
theorem dX0_productOrQuotient_94 : decode cX0_productOrQuotient 94 = .ok (.invokestatic 15, 3) := by decide +kernel
theorem dX0_productOrQuotient_97 : decode cX0_productOrQuotient 97 = .ok (.ireturn, 1) := by decide +kernel
theorem dX0_productOrQuotient_98 : decode cX0_productOrQuotient 98 = .ok (.iload_n 1, 1) := by decide +kernel
theorem dX0_productOrQuotient_99 : decode cX0_productOrQuotient 99 = .ok (.i2l, 1) := by decide +kernel
theorem dX0_productOrQuotient_100 : decode cX0_productOrQuotient 100 = .ok (.ldc2_w 9, 3) := by decide +kernel
theorem dX0_productOrQuotient_103 : decode cX0_productOrQuotient 103 = .ok (.land, 1) := by decide +kernel
theorem dX0_productOrQuotient_104 : decode cX0_productOrQuotient 104 = .ok (.iload_n 2, 1) := by decide +kernel
theorem dX0_productOrQuotient_105 : decode cX0_productOrQuotient 105 = .ok (.i2l, 1) := by decide +kernel
theorem dX0_productOrQuotient_106 : decode cX0_productOrQuotient 106 = .ok (.ldc2_w 9, 3) := by decide +kernel
theorem dX0_productOrQuotient_109 : decode cX0_productOrQuotient 109 = .ok (.land, 1) := by decide +kernel
theorem dX0_productOrQuotient_110 : decode cX0_productOrQuotient 110 = .ok (.invokestatic 15, 3) := by decide +kernel
theorem dX0_productOrQuotient_113 : decode cX0_productOrQuotient 113 = .ok (.ireturn, 1) := by decide +kernel
theorem dX0_productOrQuotient_114 : decode cX0_productOrQuotient 114 = .ok (.iload_n 1, 1) := by decide +kernel
theorem dX0_productOrQuotient_115 : decode cX0_productOrQuotient 115 = .ok (.i2l, 1) := by decide +kernel
theorem dX0_productOrQuotient_116 : decode cX0_productOrQuotient 116 = .ok (.iload_n 2, 1) := by decide +kernel
theorem dX0_productOrQuotient_117 : decode cX0_productOrQuotient 117 = .ok (.i2l, 1) := by decide +kernel
theorem dX0_productOrQuotient_118 : decode cX0_productOrQuotient 118 = .ok (.invokestatic 19, 3) := by decide +kernel
theorem dX0_productOrQuotient_121 : decode cX0_productOrQuotient 121 = .ok (.ireturn, 1) := by decide +kernel
theorem dX0_productOrQuotient_122 : decode cX0_productOrQuotient 122 = .ok (.iload_n 1, 1) := by decide +kernel
theorem dX0_productOrQuotient_123 : decode cX0_productOrQuotient 123 = .ok (.i2l, 1) := by decide +kernel
theorem dX0_productOrQuotient_124 : decode cX0_productOrQuotient 124 = .ok (.ldc2_w 9, 3) := by decide +kernel
theorem dX0_productOrQuotient_127 : decode cX0_productOrQuotient 127 = .ok (.land, 1) := by decide +kernel
theorem dX0_productOrQuotient_128 : decode cX0_productOrQuotient 128 = .ok (.iload_n 2, 1) := by decide +kernel
theorem dX0_productOrQuotient_129 : decode cX0_productOrQuotient 129 = .ok (.i2l, 1) := by decide +kernel
theorem dX0_productOrQuotient_130 : decode cX0_productOrQuotient 130 = .ok (.ldc2_w 9, 3) := by decide +kernel
theorem dX0_productOrQuotient_133 : decode cX0_productOrQuotient 133 = .ok (.land, 1) := by decide +kernel
theorem dX0_productOrQuotient_134 : decode cX0_productOrQuotient 134 = .ok (.invokestatic 19, 3) := by decide +kernel
theorem dX0_productOrQuotient_137 : decode cX0_productOrQuotient 137 = .ok (.ireturn, 1) := by decide +kernel
theorem dX0_quotient_0 : decode cX0_quotient 0 = .ok (.lload_n 2, 1) := by decide +kernel
theorem dX0_quotient_1 : decode cX0_quotient 1 = .ok (.lconst 0, 1) := by decide +kernel
theorem dX0_quotient_2 : decode cX0_quotient 2 = .ok (.lcmp, 1) := by decide +kernel
theorem dX0_quotient_3 : decode cX0_quotient 3 = .ok (.ifCond .ne 7, 3) := by decide +kernel
theorem dX0_quotient_6 : decode cX0_quotient 6 = .ok (.iconst (-1), 1) := by decide +kernel
theorem dX0_quotient_7 : decode cX0_quotient 7 = .ok (.goto 7, 3) := by decide +kernel
theorem dX0_quotient_10 : decode cX0_quotient 10 = .ok (.lload_n 0, 1) := by decide +kernel
theorem dX0_quotient_11 : decode cX0_quotient 11 = .ok (.lload_n 2, 1) := by decide +kernel
theorem dX0_quotient_12 : decode cX0_quotient 12 = .ok (.ldiv, 1) := by decide +kernel
theorem dX0_quotient_13 : decode cX0_quotient 13 = .ok (.l2i, 1) := by decide +kernel
theorem dX0_quotient_14 : decode cX0_quotient 14 = .ok (.ireturn, 1) := by decide +kernel
theorem dX0_rest_0 : decode cX0_rest 0 = .ok (.lload_n 2, 1) := by decide +kernel
theorem dX0_rest_1 : decode cX0_rest 1 = .ok (.lconst 0, 1) := by decide +kernel
theorem dX0_rest_2 : decode cX0_rest 2 = .ok (.lcmp, 1) := by decide +kernel
theorem dX0_rest_3 : decode cX0_rest 3 = .ok (.ifCond .ne 8, 3) := by decide +kernel
theorem dX0_rest_6 : decode cX0_rest 6 = .ok (.lload_n 0, 1) := by decide +kernel
theorem dX0_rest_7 : decode cX0_rest 7 = .ok (.l2i, 1) := by decide +kernel
theorem dX0_rest_8 : decode cX0_rest 8 = .ok (.goto 7, 3) := by decide +kernel
theorem dX0_rest_11 : decode cX0_rest 11 = .ok (.lload_n 0, 1) := by decide +kernel
theorem dX0_rest_12 : decode cX0_rest 12 = .ok (.lload_n 2, 1) := by decide +kernel
theorem dX0_rest_13 : decode cX0_rest 13 = .ok (.lrem, 1) := by decide +kernel
theorem dX0_rest_14 : decode cX0_rest 14 = .ok (.l2i, 1) := by decide +kernel
theorem dX0_rest_15 : decode cX0_rest 15 = .ok (.ireturn, 1) := by decide +kernel
theorem dX4_callSystem_0 : decode cX4_callSystem 0 = .ok (.iload_n 1, 1) := by decide +kernel
theorem dX4_callSystem_1 : decode cX4_callSystem 1 = .ok (.lookupswitch 66 #[(115, 35), (1048691, 43), (807403635, 53)], 35) := by decide +kernel
theorem dX4_callSystem_36 : decode cX4_callSystem 36 = .ok (.aload_n 0, 1) := by decide +kernel
theorem dX4_callSystem_37 : decode cX4_callSystem 37 = .ok (.bipush 11, 2) := by decide +kernel
theorem dX4_callSystem_39 : decode cX4_callSystem 39 = .ok (.iconst 0, 1) := by decide +kernel
theorem dX4_callSystem_40 : decode cX4_callSystem 40 = .ok (.invokevirtual 118, 3) := by decide +kernel
theorem dX4_callSystem_43 : decode cX4_callSystem 43 = .ok (.ireturn, 1) := by decide +kernel
theorem dX4_callSystem_44 : decode cX4_callSystem 44 = .ok (.aload_n 0, 1) := by decide +kernel
theorem dX4_callSystem_45 : decode cX4_callSystem 45 = .ok (.iconst 3, 1) := by decide +kernel
theorem dX4_callSystem_46 : decode cX4_callSystem 46 = .ok (.aload_n 0, 1) := by decide +kernel
theorem dX4_callSystem_47 : decode cX4_callSystem 47 = .ok (.getfield 70, 3) := by decide +kernel
theorem dX4_callSystem_50 : decode cX4_callSystem 50 = .ok (.invokevirtual 118, 3) := by decide +kernel
theorem dX4_callSystem_53 : decode cX4_callSystem 53 = .ok (.ireturn, 1) := by decide +kernel
theorem dX4_callSystem_54 : decode cX4_callSystem 54 = .ok (.aload_n 0, 1) := by decide +kernel
theorem dX4_callSystem_55 : decode cX4_callSystem 55 = .ok (.aload_n 0, 1) := by decide +kernel
theorem dX4_callSystem_56 : decode cX4_callSystem 56 = .ok (.getfield 19, 3) := by decide +kernel
theorem dX4_callSystem_59 : decode cX4_callSystem 59 = .ok (.invokevirtual 234, 3) := by decide +kernel
theorem dX4_callSystem_62 : decode cX4_callSystem 62 = .ok (.putfield 70, 3) := by decide +kernel
theorem dX4_callSystem_65 : decode cX4_callSystem 65 = .ok (.iconst 1, 1) := by decide +kernel
theorem dX4_callSystem_66 : decode cX4_callSystem 66 = .ok (.ireturn, 1) := by decide +kernel
theorem dX4_callSystem_67 : decode cX4_callSystem 67 = .ok (.aload_n 0, 1) := by decide +kernel
theorem dX4_callSystem_68 : decode cX4_callSystem 68 = .ok (.iload_n 1, 1) := by decide +kernel
theorem dX4_callSystem_69 : decode cX4_callSystem 69 = .ok (.invokevirtual 178, 3) := by decide +kernel
theorem dX4_callSystem_72 : decode cX4_callSystem 72 = .ok (.ireturn, 1) := by decide +kernel
theorem dX2_leaveTrap_0 : decode cX2_leaveTrap 0 = .ok (.aload_n 0, 1) := by decide +kernel
theorem dX2_leaveTrap_1 : decode cX2_leaveTrap 1 = .ok (.aload_n 0, 1) := by decide +kernel
theorem dX2_leaveTrap_2 : decode cX2_leaveTrap 2 = .ok (.getfield 13, 3) := by decide +kernel
theorem dX2_leaveTrap_5 : decode cX2_leaveTrap 5 = .ok (.sipush 128, 3) := by decide +kernel
theorem dX2_leaveTrap_8 : decode cX2_leaveTrap 8 = .ok (.iand, 1) := by decide +kernel
theorem dX2_leaveTrap_9 : decode cX2_leaveTrap 9 = .ok (.ifCond .eq 9, 3) := by decide +kernel
theorem dX2_leaveTrap_12 : decode cX2_leaveTrap 12 = .ok (.sipush 136, 3) := by decide +kernel
theorem dX2_leaveTrap_15 : decode cX2_leaveTrap 15 = .ok (.goto 6, 3) := by decide +kernel
theorem dX2_leaveTrap_18 : decode cX2_leaveTrap 18 = .ok (.sipush 128, 3) := by decide +kernel
theorem dX2_leaveTrap_21 : decode cX2_leaveTrap 21 = .ok (.putfield 13, 3) := by decide +kernel
theorem dX2_leaveTrap_24 : decode cX2_leaveTrap 24 = .ok (.aload_n 0, 1) := by decide +kernel
theorem dX2_leaveTrap_25 : decode cX2_leaveTrap 25 = .ok (.getfield 26, 3) := by decide +kernel
theorem dX2_leaveTrap_28 : decode cX2_leaveTrap 28 = .ok (.ireturn, 1) := by decide +kernel
theorem dX4_exchangeControl_0 : decode cX4_exchangeControl 0 = .ok (.iload_n 1, 1) := by decide +kernel
theorem dX4_exchangeControl_1 : decode cX4_exchangeControl 1 = .ok (.invokestatic 169, 3) := by decide +kernel
theorem dX4_exchangeControl_4 : decode cX4_exchangeControl 4 = .ok (.istore_n 2, 1) := by decide +kernel
theorem dX4_exchangeControl_5 : decode cX4_exchangeControl 5 = .ok (.iload_n 1, 1) := by decide +kernel
theorem dX4_exchangeControl_6 : decode cX4_exchangeControl 6 = .ok (.invokestatic 238, 3) := by decide +kernel
theorem dX4_exchangeControl_9 : decode cX4_exchangeControl 9 = .ok (.istore_n 3, 1) := by decide +kernel
theorem dX4_exchangeControl_10 : decode cX4_exchangeControl 10 = .ok (.iload_n 2, 1) := by decide +kernel
theorem dX4_exchangeControl_11 : decode cX4_exchangeControl 11 = .ok (.iconst 3, 1) := by decide +kernel
theorem dX4_exchangeControl_12 : decode cX4_exchangeControl 12 = .ok (.iand, 1) := by decide +kernel
theorem dX4_exchangeControl_13 : decode cX4_exchangeControl 13 = .ok (.iconst 1, 1) := by decide +kernel
theorem dX4_exchangeControl_14 : decode cX4_exchangeControl 14 = .ok (.if_icmp .eq 10, 3) := by decide +kernel
theorem dX4_exchangeControl_17 : decode cX4_exchangeControl 17 = .ok (.iload_n 1, 1) := by decide +kernel
theorem dX4_exchangeControl_18 : decode cX4_exchangeControl 18 = .ok (.invokestatic 181, 3) := by decide +kernel
theorem dX4_exchangeControl_21 : decode cX4_exchangeControl 21 = .ok (.ifCond .eq 7, 3) := by decide +kernel
theorem dX4_exchangeControl_24 : decode cX4_exchangeControl 24 = .ok (.iconst 1, 1) := by decide +kernel
theorem dX4_exchangeControl_25 : decode cX4_exchangeControl 25 = .ok (.goto 4, 3) := by decide +kernel
theorem dX4_exchangeControl_28 : decode cX4_exchangeControl 28 = .ok (.iconst 0, 1) := by decide +kernel
theorem dX4_exchangeControl_29 : decode cX4_exchangeControl 29 = .ok (.istore 4, 2) := by decide +kernel
theorem dX4_exchangeControl_31 : decode cX4_exchangeControl 31 = .ok (.iload 4, 2) := by decide +kernel
theorem dX4_exchangeControl_33 : decode cX4_exchangeControl 33 = .ok (.ifCond .eq 10, 3) := by decide +kernel
theorem dX4_exchangeControl_36 : decode cX4_exchangeControl 36 = .ok (.iload_n 3, 1) := by decide +kernel
theorem dX4_exchangeControl_37 : decode cX4_exchangeControl 37 = .ok (.invokestatic 241, 3) := by decide +kernel
theorem dX4_exchangeControl_40 : decode cX4_exchangeControl 40 = .ok (.goto 7, 3) := by decide +kernel
theorem dX4_exchangeControl_43 : decode cX4_exchangeControl 43 = .ok (.iload_n 3, 1) := by decide +kernel
theorem dX4_exchangeControl_44 : decode cX4_exchangeControl 44 = .ok (.invokestatic 87, 3) := by decide +kernel
theorem dX4_exchangeControl_47 : decode cX4_exchangeControl 47 = .ok (.istore 5, 2) := by decide +kernel
theorem dX4_exchangeControl_49 : decode cX4_exchangeControl 49 = .ok (.iload_n 2, 1) := by decide +kernel
theorem dX4_exchangeControl_50 : decode cX4_exchangeControl 50 = .ok (.iconst 4, 1) := by decide +kernel
theorem dX4_exchangeControl_51 : decode cX4_exchangeControl 51 = .ok (.if_icmp .eq 8, 3) := by decide +kernel
theorem dX4_exchangeControl_54 : decode cX4_exchangeControl 54 = .ok (.iload 5, 2) := by decide +kernel
theorem dX4_exchangeControl_56 : decode cX4_exchangeControl 56 = .ok (.ifCond .ne 9, 3) := by decide +kernel
theorem dX4_exchangeControl_59 : decode cX4_exchangeControl 59 = .ok (.aload_n 0, 1) := by decide +kernel
theorem dX4_exchangeControl_60 : decode cX4_exchangeControl 60 = .ok (.iload_n 1, 1) := by decide +kernel
theorem dX4_exchangeControl_61 : decode cX4_exchangeControl 61 = .ok (.invokevirtual 178, 3) := by decide +kernel
theorem dX4_exchangeControl_64 : decode cX4_exchangeControl 64 = .ok (.ireturn, 1) := by decide +kernel
theorem dX4_exchangeControl_65 : decode cX4_exchangeControl 65 = .ok (.aload_n 0, 1) := by decide +kernel
theorem dX4_exchangeControl_66 : decode cX4_exchangeControl 66 = .ok (.getfield 19, 3) := by decide +kernel
theorem dX4_exchangeControl_69 : decode cX4_exchangeControl 69 = .ok (.iload_n 3, 1) := by decide +kernel
theorem dX4_exchangeControl_70 : decode cX4_exchangeControl 70 = .ok (.invokevirtual 92, 3) := by decide +kernel
theorem dX4_exchangeControl_73 : decode cX4_exchangeControl 73 = .ok (.istore 6, 2) := by decide +kernel
theorem dX4_exchangeControl_75 : decode cX4_exchangeControl 75 = .ok (.iload 4, 2) := by decide +kernel
theorem dX4_exchangeControl_77 : decode cX4_exchangeControl 77 = .ok (.ifCond .eq 40, 3) := by decide +kernel
theorem dX4_exchangeControl_80 : decode cX4_exchangeControl 80 = .ok (.iload_n 2, 1) := by decide +kernel
theorem dX4_exchangeControl_81 : decode cX4_exchangeControl 81 = .ok (.iconst 4, 1) := by decide +kernel
theorem dX4_exchangeControl_82 : decode cX4_exchangeControl 82 = .ok (.if_icmp .le 10, 3) := by decide +kernel
theorem dX4_exchangeControl_85 : decode cX4_exchangeControl 85 = .ok (.iload_n 1, 1) := by decide +kernel
theorem dX4_exchangeControl_86 : decode cX4_exchangeControl 86 = .ok (.invokestatic 181, 3) := by decide +kernel
theorem dX4_exchangeControl_89 : decode cX4_exchangeControl 89 = .ok (.goto 8, 3) := by decide +kernel
theorem dX4_exchangeControl_92 : decode cX4_exchangeControl 92 = .ok (.aload_n 0, 1) := by decide +kernel
theorem dX4_exchangeControl_93 : decode cX4_exchangeControl 93 = .ok (.iload_n 1, 1) := by decide +kernel
theorem dX4_exchangeControl_94 : decode cX4_exchangeControl 94 = .ok (.invokevirtual 194, 3) := by decide +kernel
theorem dX4_exchangeControl_97 : decode cX4_exchangeControl 97 = .ok (.istore 7, 2) := by decide +kernel
theorem dX4_exchangeControl_99 : decode cX4_exchangeControl 99 = .ok (.aload_n 0, 1) := by decide +kernel
theorem dX4_exchangeControl_100 : decode cX4_exchangeControl 100 = .ok (.getfield 19, 3) := by decide +kernel
theorem dX4_exchangeControl_103 : decode cX4_exchangeControl 103 = .ok (.iload_n 3, 1) := by decide +kernel
theorem dX4_exchangeControl_104 : decode cX4_exchangeControl 104 = .ok (.iload_n 2, 1) := by decide +kernel
theorem dX4_exchangeControl_105 : decode cX4_exchangeControl 105 = .ok (.iconst 3, 1) := by decide +kernel
theorem dX4_exchangeControl_106 : decode cX4_exchangeControl 106 = .ok (.iand, 1) := by decide +kernel
theorem dX4_exchangeControl_107 : decode cX4_exchangeControl 107 = .ok (.iload 6, 2) := by decide +kernel
theorem dX4_exchangeControl_109 : decode cX4_exchangeControl 109 = .ok (.iload 7, 2) := by decide +kernel
theorem dX4_exchangeControl_111 : decode cX4_exchangeControl 111 = .ok (.invokestatic 244, 3) := by decide +kernel
theorem dX4_exchangeControl_114 : decode cX4_exchangeControl 114 = .ok (.invokevirtual 247, 3) := by decide +kernel
theorem dX4_exchangeControl_117 : decode cX4_exchangeControl 117 = .ok (.aload_n 0, 1) := by decide +kernel
theorem dX4_exchangeControl_118 : decode cX4_exchangeControl 118 = .ok (.iload_n 1, 1) := by decide +kernel
theorem dX4_exchangeControl_119 : decode cX4_exchangeControl 119 = .ok (.iload 6, 2) := by decide +kernel
theorem dX4_exchangeControl_121 : decode cX4_exchangeControl 121 = .ok (.invokevirtual 136, 3) := by decide +kernel
theorem dX4_exchangeControl_124 : decode cX4_exchangeControl 124 = .ok (.ireturn, 1) := by decide +kernel
theorem dX1_controlNumber_0 : decode cX1_controlNumber 0 = .ok (.iload_n 0, 1) := by decide +kernel
theorem dX1_controlNumber_1 : decode cX1_controlNumber 1 = .ok (.bipush 20, 2) := by decide +kernel
theorem dX1_controlNumber_3 : decode cX1_controlNumber 3 = .ok (.iushr, 1) := by decide +kernel
theorem dX1_controlNumber_4 : decode cX1_controlNumber 4 = .ok (.ireturn, 1) := by decide +kernel
theorem dX2_isWritable_0 : decode cX2_isWritable 0 = .ok (.iload_n 0, 1) := by decide +kernel
theorem dX2_isWritable_1 : decode cX2_isWritable 1 = .ok (.lookupswitch 69 #[(768, 67), (772, 67), (773, 67), (832, 67), (833, 67), (834, 67), (835, 67)], 67) := by decide +kernel
theorem dX2_isWritable_68 : decode cX2_isWritable 68 = .ok (.iconst 1, 1) := by decide +kernel
theorem dX2_isWritable_69 : decode cX2_isWritable 69 = .ok (.ireturn, 1) := by decide +kernel
theorem dX2_isWritable_70 : decode cX2_isWritable 70 = .ok (.iconst 0, 1) := by decide +kernel
theorem dX2_isWritable_71 : decode cX2_isWritable 71 = .ok (.ireturn, 1) := by decide +kernel
theorem dX2_isKnown_0 : decode cX2_isKnown 0 = .ok (.iload_n 0, 1) := by decide +kernel
theorem dX2_isKnown_1 : decode cX2_isKnown 1 = .ok (.invokestatic 7, 3) := by decide +kernel
end
section
theorem dX2_isKnown_4 : decode cX2_isKnown 4 = .ok (.ifCond .ne 17, 3) := by decide +kernel
theorem dX2_isKnown_7 : decode cX2_isKnown 7 = .ok (.iload_n 0, 1) := by decide +kernel
theorem dX2_isKnown_8 : decode cX2_isKnown 8 = .ok (.sipush 836, 3) := by decide +kernel
theorem dX2_isKnown_11 : decode cX2_isKnown 11 = .ok (.if_icmp .eq 10, 3) := by decide +kernel
theorem dX2_isKnown_14 : decode cX2_isKnown 14 = .ok (.iload_n 0, 1) := by decide +kernel
theorem dX2_isKnown_15 : decode cX2_isKnown 15 = .ok (.sipush 2816, 3) := by decide +kernel
theorem dX2_isKnown_18 : decode cX2_isKnown 18 = .ok (.if_icmp .ne 7, 3) := by decide +kernel
theorem dX2_isKnown_21 : decode cX2_isKnown 21 = .ok (.iconst 1, 1) := by decide +kernel
theorem dX2_isKnown_22 : decode cX2_isKnown 22 = .ok (.goto 4, 3) := by decide +kernel
theorem dX2_isKnown_25 : decode cX2_isKnown 25 = .ok (.iconst 0, 1) := by decide +kernel
theorem dX2_isKnown_26 : decode cX2_isKnown 26 = .ok (.ireturn, 1) := by decide +kernel
theorem dX2_read_0 : decode cX2_read 0 = .ok (.iload_n 1, 1) := by decide +kernel
theorem dX2_read_1 : decode cX2_read 1 = .ok (.lookupswitch 125 #[(768, 75), (772, 80), (773, 85), (832, 90), (833, 95), (834, 100), (835, 105), (836, 110)], 75) := by decide +kernel
theorem dX2_read_76 : decode cX2_read 76 = .ok (.aload_n 0, 1) := by decide +kernel
theorem dX2_read_77 : decode cX2_read 77 = .ok (.getfield 13, 3) := by decide +kernel
theorem dX2_read_80 : decode cX2_read 80 = .ok (.ireturn, 1) := by decide +kernel
theorem dX2_read_81 : decode cX2_read 81 = .ok (.aload_n 0, 1) := by decide +kernel
theorem dX2_read_82 : decode cX2_read 82 = .ok (.getfield 17, 3) := by decide +kernel
theorem dX2_read_85 : decode cX2_read 85 = .ok (.ireturn, 1) := by decide +kernel
theorem dX2_read_86 : decode cX2_read 86 = .ok (.aload_n 0, 1) := by decide +kernel
theorem dX2_read_87 : decode cX2_read 87 = .ok (.getfield 20, 3) := by decide +kernel
theorem dX2_read_90 : decode cX2_read 90 = .ok (.ireturn, 1) := by decide +kernel
theorem dX2_read_91 : decode cX2_read 91 = .ok (.aload_n 0, 1) := by decide +kernel
theorem dX2_read_92 : decode cX2_read 92 = .ok (.getfield 23, 3) := by decide +kernel
theorem dX2_read_95 : decode cX2_read 95 = .ok (.ireturn, 1) := by decide +kernel
theorem dX2_read_96 : decode cX2_read 96 = .ok (.aload_n 0, 1) := by decide +kernel
theorem dX2_read_97 : decode cX2_read 97 = .ok (.getfield 26, 3) := by decide +kernel
theorem dX2_read_100 : decode cX2_read 100 = .ok (.ireturn, 1) := by decide +kernel
theorem dX2_read_101 : decode cX2_read 101 = .ok (.aload_n 0, 1) := by decide +kernel
theorem dX2_read_102 : decode cX2_read 102 = .ok (.getfield 29, 3) := by decide +kernel
theorem dX2_read_105 : decode cX2_read 105 = .ok (.ireturn, 1) := by decide +kernel
theorem dX2_read_106 : decode cX2_read 106 = .ok (.aload_n 0, 1) := by decide +kernel
theorem dX2_read_107 : decode cX2_read 107 = .ok (.getfield 32, 3) := by decide +kernel
theorem dX2_read_110 : decode cX2_read 110 = .ok (.ireturn, 1) := by decide +kernel
theorem dX2_read_111 : decode cX2_read 111 = .ok (.aload_n 0, 1) := by decide +kernel
theorem dX2_read_112 : decode cX2_read 112 = .ok (.getfield 35, 3) := by decide +kernel
theorem dX2_read_115 : decode cX2_read 115 = .ok (.ifCond .eq 9, 3) := by decide +kernel
theorem dX2_read_118 : decode cX2_read 118 = .ok (.sipush 2048, 3) := by decide +kernel
theorem dX2_read_121 : decode cX2_read 121 = .ok (.goto 4, 3) := by decide +kernel
theorem dX2_read_124 : decode cX2_read 124 = .ok (.iconst 0, 1) := by decide +kernel
theorem dX2_read_125 : decode cX2_read 125 = .ok (.ireturn, 1) := by decide +kernel
theorem dX2_read_126 : decode cX2_read 126 = .ok (.aload_n 0, 1) := by decide +kernel
theorem dX2_read_127 : decode cX2_read 127 = .ok (.getfield 39, 3) := by decide +kernel
theorem dX2_read_130 : decode cX2_read 130 = .ok (.ireturn, 1) := by decide +kernel
theorem dX0_exchanged_0 : decode cX0_exchanged 0 = .ok (.iload_n 0, 1) := by decide +kernel
theorem dX0_exchanged_1 : decode cX0_exchanged 1 = .ok (.lookupswitch 33 #[(1, 27), (2, 29)], 27) := by decide +kernel
theorem dX0_exchanged_28 : decode cX0_exchanged 28 = .ok (.iload_n 2, 1) := by decide +kernel
theorem dX0_exchanged_29 : decode cX0_exchanged 29 = .ok (.ireturn, 1) := by decide +kernel
theorem dX0_exchanged_30 : decode cX0_exchanged 30 = .ok (.iload_n 1, 1) := by decide +kernel
theorem dX0_exchanged_31 : decode cX0_exchanged 31 = .ok (.iload_n 2, 1) := by decide +kernel
theorem dX0_exchanged_32 : decode cX0_exchanged 32 = .ok (.ior, 1) := by decide +kernel
theorem dX0_exchanged_33 : decode cX0_exchanged 33 = .ok (.ireturn, 1) := by decide +kernel
theorem dX0_exchanged_34 : decode cX0_exchanged 34 = .ok (.iload_n 1, 1) := by decide +kernel
theorem dX0_exchanged_35 : decode cX0_exchanged 35 = .ok (.iload_n 2, 1) := by decide +kernel
theorem dX0_exchanged_36 : decode cX0_exchanged 36 = .ok (.iconst (-1), 1) := by decide +kernel
theorem dX0_exchanged_37 : decode cX0_exchanged 37 = .ok (.ixor, 1) := by decide +kernel
theorem dX0_exchanged_38 : decode cX0_exchanged 38 = .ok (.iand, 1) := by decide +kernel
theorem dX0_exchanged_39 : decode cX0_exchanged 39 = .ok (.ireturn, 1) := by decide +kernel
theorem dX2_write_0 : decode cX2_write 0 = .ok (.iload_n 1, 1) := by decide +kernel
theorem dX2_write_1 : decode cX2_write 1 = .ok (.lookupswitch 137 #[(768, 67), (772, 79), (773, 91), (832, 102), (833, 110), (834, 121), (835, 129)], 67) := by decide +kernel
theorem dX2_write_68 : decode cX2_write 68 = .ok (.aload_n 0, 1) := by decide +kernel
theorem dX2_write_69 : decode cX2_write 69 = .ok (.iload_n 2, 1) := by decide +kernel
theorem dX2_write_70 : decode cX2_write 70 = .ok (.sipush 136, 3) := by decide +kernel
theorem dX2_write_73 : decode cX2_write 73 = .ok (.iand, 1) := by decide +kernel
theorem dX2_write_74 : decode cX2_write 74 = .ok (.putfield 13, 3) := by decide +kernel
theorem dX2_write_77 : decode cX2_write 77 = .ok (.goto 61, 3) := by decide +kernel
theorem dX2_write_80 : decode cX2_write 80 = .ok (.aload_n 0, 1) := by decide +kernel
theorem dX2_write_81 : decode cX2_write 81 = .ok (.iload_n 2, 1) := by decide +kernel
theorem dX2_write_82 : decode cX2_write 82 = .ok (.sipush 2048, 3) := by decide +kernel
theorem dX2_write_85 : decode cX2_write 85 = .ok (.iand, 1) := by decide +kernel
theorem dX2_write_86 : decode cX2_write 86 = .ok (.putfield 17, 3) := by decide +kernel
theorem dX2_write_89 : decode cX2_write 89 = .ok (.goto 49, 3) := by decide +kernel
theorem dX2_write_92 : decode cX2_write 92 = .ok (.aload_n 0, 1) := by decide +kernel
theorem dX2_write_93 : decode cX2_write 93 = .ok (.iload_n 2, 1) := by decide +kernel
theorem dX2_write_94 : decode cX2_write 94 = .ok (.bipush (-4), 2) := by decide +kernel
theorem dX2_write_96 : decode cX2_write 96 = .ok (.iand, 1) := by decide +kernel
theorem dX2_write_97 : decode cX2_write 97 = .ok (.putfield 20, 3) := by decide +kernel
theorem dX2_write_100 : decode cX2_write 100 = .ok (.goto 38, 3) := by decide +kernel
theorem dX2_write_103 : decode cX2_write 103 = .ok (.aload_n 0, 1) := by decide +kernel
theorem dX2_write_104 : decode cX2_write 104 = .ok (.iload_n 2, 1) := by decide +kernel
theorem dX2_write_105 : decode cX2_write 105 = .ok (.putfield 23, 3) := by decide +kernel
theorem dX2_write_108 : decode cX2_write 108 = .ok (.goto 30, 3) := by decide +kernel
theorem dX2_write_111 : decode cX2_write 111 = .ok (.aload_n 0, 1) := by decide +kernel
theorem dX2_write_112 : decode cX2_write 112 = .ok (.iload_n 2, 1) := by decide +kernel
theorem dX2_write_113 : decode cX2_write 113 = .ok (.bipush (-4), 2) := by decide +kernel
theorem dX2_write_115 : decode cX2_write 115 = .ok (.iand, 1) := by decide +kernel
theorem dX2_write_116 : decode cX2_write 116 = .ok (.putfield 26, 3) := by decide +kernel
theorem dX2_write_119 : decode cX2_write 119 = .ok (.goto 19, 3) := by decide +kernel
theorem dX2_write_122 : decode cX2_write 122 = .ok (.aload_n 0, 1) := by decide +kernel
theorem dX2_write_123 : decode cX2_write 123 = .ok (.iload_n 2, 1) := by decide +kernel
theorem dX2_write_124 : decode cX2_write 124 = .ok (.putfield 29, 3) := by decide +kernel
theorem dX2_write_127 : decode cX2_write 127 = .ok (.goto 11, 3) := by decide +kernel
theorem dX2_write_130 : decode cX2_write 130 = .ok (.aload_n 0, 1) := by decide +kernel
theorem dX2_write_131 : decode cX2_write 131 = .ok (.iload_n 2, 1) := by decide +kernel
theorem dX2_write_132 : decode cX2_write 132 = .ok (.putfield 32, 3) := by decide +kernel
theorem dX2_write_135 : decode cX2_write 135 = .ok (.goto 3, 3) := by decide +kernel
theorem dX2_write_138 : decode cX2_write 138 = .ok (.return_, 1) := by decide +kernel
theorem dX4_register_0 : decode cX4_register 0 = .ok (.iload_n 1, 1) := by decide +kernel
theorem dX4_register_1 : decode cX4_register 1 = .ok (.bipush 32, 2) := by decide +kernel
theorem dX4_register_3 : decode cX4_register 3 = .ok (.if_icmp .ne 8, 3) := by decide +kernel
theorem dX4_register_6 : decode cX4_register 6 = .ok (.aload_n 0, 1) := by decide +kernel
theorem dX4_register_7 : decode cX4_register 7 = .ok (.getfield 70, 3) := by decide +kernel
theorem dX4_register_10 : decode cX4_register 10 = .ok (.ireturn, 1) := by decide +kernel
theorem dX4_register_11 : decode cX4_register 11 = .ok (.iload_n 1, 1) := by decide +kernel
theorem dX4_register_12 : decode cX4_register 12 = .ok (.ifCond .lt 9, 3) := by decide +kernel
theorem dX4_register_15 : decode cX4_register 15 = .ok (.iload_n 1, 1) := by decide +kernel
theorem dX4_register_16 : decode cX4_register 16 = .ok (.bipush 32, 2) := by decide +kernel
theorem dX4_register_18 : decode cX4_register 18 = .ok (.if_icmp .lt 13, 3) := by decide +kernel
theorem dX4_register_21 : decode cX4_register 21 = .ok (.new 78, 3) := by decide +kernel
theorem dX4_register_24 : decode cX4_register 24 = .ok (.dup, 1) := by decide +kernel
theorem dX4_register_25 : decode cX4_register 25 = .ok (.ldc 80, 2) := by decide +kernel
theorem dX4_register_27 : decode cX4_register 27 = .ok (.invokespecial 82, 3) := by decide +kernel
theorem dX4_register_30 : decode cX4_register 30 = .ok (.athrow, 1) := by decide +kernel
theorem dX4_register_31 : decode cX4_register 31 = .ok (.aload_n 0, 1) := by decide +kernel
theorem dX4_register_32 : decode cX4_register 32 = .ok (.iload_n 1, 1) := by decide +kernel
theorem dX4_register_33 : decode cX4_register 33 = .ok (.invokevirtual 83, 3) := by decide +kernel
theorem dX4_register_36 : decode cX4_register 36 = .ok (.ireturn, 1) := by decide +kernel
theorem dX4_control_0 : decode cX4_control 0 = .ok (.iload_n 1, 1) := by decide +kernel
theorem dX4_control_1 : decode cX4_control 1 = .ok (.invokestatic 87, 3) := by decide +kernel
theorem dX4_control_4 : decode cX4_control 4 = .ok (.ifCond .ne 13, 3) := by decide +kernel
theorem dX4_control_7 : decode cX4_control 7 = .ok (.new 78, 3) := by decide +kernel
theorem dX4_control_10 : decode cX4_control 10 = .ok (.dup, 1) := by decide +kernel
theorem dX4_control_11 : decode cX4_control 11 = .ok (.ldc 90, 2) := by decide +kernel
theorem dX4_control_13 : decode cX4_control 13 = .ok (.invokespecial 82, 3) := by decide +kernel
theorem dX4_control_16 : decode cX4_control 16 = .ok (.athrow, 1) := by decide +kernel
theorem dX4_control_17 : decode cX4_control 17 = .ok (.aload_n 0, 1) := by decide +kernel
theorem dX4_control_18 : decode cX4_control 18 = .ok (.getfield 19, 3) := by decide +kernel
theorem dX4_control_21 : decode cX4_control 21 = .ok (.iload_n 1, 1) := by decide +kernel
theorem dX4_control_22 : decode cX4_control 22 = .ok (.invokevirtual 92, 3) := by decide +kernel
theorem dX4_control_25 : decode cX4_control 25 = .ok (.ireturn, 1) := by decide +kernel
theorem dX4_word_0 : decode cX4_word 0 = .ok (.iload_n 1, 1) := by decide +kernel
theorem dX4_word_1 : decode cX4_word 1 = .ok (.invokestatic 27, 3) := by decide +kernel
theorem dX4_word_4 : decode cX4_word 4 = .ok (.ifCond .ne 13, 3) := by decide +kernel
theorem dX4_word_7 : decode cX4_word 7 = .ok (.new 78, 3) := by decide +kernel
theorem dX4_word_10 : decode cX4_word 10 = .ok (.dup, 1) := by decide +kernel
theorem dX4_word_11 : decode cX4_word 11 = .ok (.ldc 95, 2) := by decide +kernel
theorem dX4_word_13 : decode cX4_word 13 = .ok (.invokespecial 82, 3) := by decide +kernel
theorem dX4_word_16 : decode cX4_word 16 = .ok (.athrow, 1) := by decide +kernel
theorem dX4_word_17 : decode cX4_word 17 = .ok (.aload_n 0, 1) := by decide +kernel
theorem dX4_word_18 : decode cX4_word 18 = .ok (.getfield 10, 3) := by decide +kernel
theorem dX4_word_21 : decode cX4_word 21 = .ok (.iload_n 1, 1) := by decide +kernel
theorem dX4_word_22 : decode cX4_word 22 = .ok (.invokevirtual 97, 3) := by decide +kernel
theorem dX4_word_25 : decode cX4_word 25 = .ok (.ireturn, 1) := by decide +kernel
end
section
/-! numbers -/
def bi : Bool → Int32
  | true => 1
  | false => 0
theorem bi_nar (b : Bool) : narrow .boolean (.int (bi b)) = .int (bi b) := by cases b <;> rfl
theorem bi_fit (b : Bool) : fits .boolean (.int (bi b)) = true := by cases b <;> rfl
def ush (x y : Int32) : Int32 := (x.toUInt32 >>> (y.toUInt32 &&& Int32.toUInt32 31)).toInt32
def lshlf (x : Int64) (y : Int32) : Int64 := x <<< (y.toInt64 &&& 63)
def lshrf (x : Int64) (y : Int32) : Int64 := x >>> (y.toInt64 &&& 63)
def lushf (x : Int64) (y : Int32) : Int64 := (x.toUInt64 >>> (y.toInt64.toUInt64 &&& Int64.toUInt64 63)).toInt64
theorem ush2_nat (a : Int32) : (ush a 2).toBitVec.toNat = a.toBitVec.toNat / 2 ^ 2 := pk_ushr a 2 2 (by decide)
theorem in_reg {k : Int32} (h1 : ¬ k < 1) (h2 : ¬ (32 : Int32) ≤ k) : vp_in k 32 := by
  rw [vp_in_iff]
  rw [Int32.lt_iff_toInt_lt] at h1
  rw [Int32.le_iff_toInt_le] at h2
  have e1 : (1 : Int32).toInt = 1 := by decide
  have e2 : (32 : Int32).toInt = 32 := by decide
  omega
theorem in_mem {a : Int32} (h2 : ¬ (1024 : Int32) ≤ ush a 2) : vp_in (ush a 2) 1024 := by
  rw [vp_in_iff]
  rw [Int32.le_iff_toInt_le] at h2
  have e2 : (1024 : Int32).toInt = 1024 := by decide
  have hn := ush2_nat a
  have hl : a.toBitVec.toNat < 2 ^ 32 := a.toBitVec.isLt
  have hi : (ush a 2).toInt = ((ush a 2).toBitVec.toNat : Int) := BitVec.toInt_eq_toNat_of_lt (by omega)
  omega
theorem hpT {D : va_G} {cl : List vw_C} {w : va_W} {H : Heap} {t : State} (ht : t.heap = H) (hP : va_P D cl w H) : va_P D cl w t.heap := by rw [ht]; exact hP
/-! calls that leave the heap as it is -/
def QcReadL (r : Int64) : Array Value → State → Outcome → State → Prop := fun _ st o t => o = .returned (some (.long r)) ∧ t.heap = st.heap
section KB
variable {p : Program} {l : Launch} {e : Env} {R : Room} {s : State} {m : MethodId} {args : Array Value} {below : List Frame} {meth : Method} {c : Code} {H : Heap} {locs : List Loc} {cells slots : Nat} {Q : State → Prop}
variable {pc : Nat} {ls : Array Slot} {rest st0 : List Value} {a : Array Value}
theorem k_ri {r : Int32} (hr : va_Run p l e R s m args below meth c H locs cells slots 0 0 (F0 m pc ls st0) rest (QcRead r a) (fun _ => False)) (kk : W p l e R s m args below meth c H locs cells slots Q (F0 m (pc + 3) ls (.int r :: rest))) : W p l e R s m args below meth c H locs cells slots Q (F0 m pc ls st0) := W.callR (va_Run.run hr) kk
theorem k_rl {r : Int64} (hr : va_Run p l e R s m args below meth c H locs cells slots 0 0 (F0 m pc ls st0) rest (QcReadL r a) (fun _ => False)) (kk : W p l e R s m args below meth c H locs cells slots Q (F0 m (pc + 3) ls (.long r :: rest))) : W p l e R s m args below meth c H locs cells slots Q (F0 m pc ls st0) := by
  intro T hT X
  obtain ⟨v, st₀, t, T', L, h0, X', hL, e1, e2, ⟨hv, hh⟩, st⟩ := hr T hT X
  cases hv
  obtain ⟨t2, a1, b1⟩ := kk T' (by rw [e1, hh, h0]) (Stand.forget X' (fun q h => (hL q h).elim))
  exact ⟨t2, st t2 a1, b1⟩
/-! calls that change a world of fixed addresses -/
theorem kd_at {w w' : va_W} (h : w.map Prod.fst = w'.map Prod.fst) {k : Nat} {q : Nat × va_E} (hq : w'[k]? = some q) : ∃ q0, w[k]? = some q0 ∧ q0.1 = q.1 := by
  have h1 : (w.map Prod.fst)[k]? = some q.1 := by rw [h, List.getElem?_map, hq]; rfl
  rw [List.getElem?_map] at h1
  cases hw : w[k]? with
  | none => rw [hw] at h1; cases h1
  | some q0 => rw [hw] at h1; exact ⟨q0, rfl, Option.some.inj h1⟩
theorem kd_same {A : Nat → Prop} {w w' : va_W} (h : w.map Prod.fst = w'.map Prod.fst) (hD : va_D A w) : va_D A w' :=
  ⟨fun i j p q hp hq e => by
    obtain ⟨p0, a1, a2⟩ := kd_at h hp
    obtain ⟨q0, b1, b2⟩ := kd_at h hq
    exact hD.1 i j p0 q0 a1 b1 (by rw [a2, b2, e]), fun k q hq => by
    obtain ⟨q0, b1, b2⟩ := kd_at h hq
    rw [← b2]; exact hD.2 k q0 b1⟩
theorem k_free {A0 : Nat → Prop} {w : va_W} {H0 : Heap} (hD : va_D A0 w) (hS : va_S A0 H0 H locs) (hA : ∀ q, H0.size ≤ q → A0 q) : ∀ q, va_A w H.size q → A0 q := fun q h => by
  rcases h with ⟨k, e, h⟩ | h
  · exact hD.2 k _ h
  · exact hA q (Nat.le_trans hS.1 h)
theorem k_mi {S : Type} {w : S → va_W} (hw : ∀ x u, (w x).map Prod.fst = (w u).map Prod.fst) {D : va_G} {cl : List vw_C} {x : S} {post : Int32 → S → Prop} {A0 : Nat → Prop} {H0 : Heap}
    (hr : va_Run p l e R s m args below meth c H locs cells slots 0 0 (F0 m pc ls st0) rest (va_Qi post (fun u t => va_P D cl (w u) t.heap) (va_A (w x) H.size) a) (va_A (w x) H.size)) (hD : va_D A0 (w x)) (hS : va_S A0 H0 H locs) (hA : ∀ q, H0.size ≤ q → A0 q)
    (kk : ∀ (r : Int32) (u : S) (H1 : Heap) (locs1 : List Loc), post r u → va_P D cl (w u) H1 → va_D A0 (w u) → va_S A0 H0 H1 locs1 → W p l e R s m args below meth c H1 locs1 cells slots Q (F0 m (pc + 3) ls (.int r :: rest))) : W p l e R s m args below meth c H locs cells slots Q (F0 m pc ls st0) :=
  va_calli hr hS (fun q _ h => k_free hD hS hA q h) (k_free hD hS hA) (fun r u t H1 locs1 ht _ hp hB _ _ hS1 => kk r u H1 locs1 hp (by rw [← ht]; exact hB) (kd_same (hw x u) hD) hS1)
theorem k_mv {S : Type} {w : S → va_W} (hw : ∀ x u, (w x).map Prod.fst = (w u).map Prod.fst) {D : va_G} {cl : List vw_C} {x : S} {post : S → Prop} {A0 : Nat → Prop} {H0 : Heap}
    (hr : va_Run p l e R s m args below meth c H locs cells slots 0 0 (F0 m pc ls st0) rest (va_Qv post (fun u t => va_P D cl (w u) t.heap) (va_A (w x) H.size) a) (va_A (w x) H.size)) (hD : va_D A0 (w x)) (hS : va_S A0 H0 H locs) (hA : ∀ q, H0.size ≤ q → A0 q)
    (kk : ∀ (u : S) (H1 : Heap) (locs1 : List Loc), post u → va_P D cl (w u) H1 → va_D A0 (w u) → va_S A0 H0 H1 locs1 → W p l e R s m args below meth c H1 locs1 cells slots Q (F0 m (pc + 3) ls rest)) : W p l e R s m args below meth c H locs cells slots Q (F0 m pc ls st0) :=
  va_callv hr hS (fun q _ h => k_free hD hS hA q h) (k_free hD hS hA) (fun u t H1 locs1 ht _ hp hB _ _ hS1 => kk u H1 locs1 hp (by rw [← ht]; exact hB) (kd_same (hw x u) hD) hS1)
end KB
/-! a method's start: the world, the tables' words on it, the nest's words -/
def kP (D : va_G) (tys : List (ClassId × FieldType)) (N : State → Prop) (w : va_W) (U : State) : Prop := va_P D vwCl w U.heap ∧ va_K D vwCl tys U ∧ N U
def kM (D : va_G) (tys : List (ClassId × FieldType)) (N : State → Prop) (w : va_W) (sz : Nat) (U : State) : Prop := U.heap.size = sz ∧ va_D (fun _ => True) w ∧ va_P D vwCl w U.heap ∧ va_K D vwCl tys U ∧ N U
section KP
variable {D : va_G} {tys : List (ClassId × FieldType)} {N : State → Prop} {w : va_W} {av : List Value} {s : State} {H : Heap}
theorem kP_blind (hN : ∀ (U : State) (g : JFrame) (mk : MethodId) (a : Array Value), N U → N (U.calling g mk a)) : FrameBlind (va_Pc av (kP D tys N w)) := fun a U g mk q =>
  ⟨q.1, q.2.1, va_K.moved (u := U) (U := U.calling g mk a) (Vm.Alike.refl U.vm) q.2.2.1, hN U g mk a q.2.2.2⟩
theorem kM_blind (hN : ∀ (U : State) (g : JFrame) (mk : MethodId) (a : Array Value), N U → N (U.calling g mk a)) {sz : Nat} : FrameBlind (va_Pc av (kM D tys N w sz)) := fun a U g mk q =>
  ⟨q.1, q.2.1, q.2.2.1, q.2.2.2.1, va_K.moved (u := U) (U := U.calling g mk a) (Vm.Alike.refl U.vm) q.2.2.2.2.1, hN U g mk a q.2.2.2.2.2⟩
theorem kP_pre (hW : ∀ (U : State), s.WarmedH U.vm → N s → N U) (hP : va_P D vwCl w H) (hK : va_K D vwCl tys s) (hN : N s) : ∀ U : State, U.heap = H → s.WarmedH U.vm → va_Pc av (kP D tys N w) av.toArray U :=
  fun U hU hw => ⟨rfl, by rw [hU]; exact hP, va_K.moved hw.alike hK, hW U hw hN⟩
theorem kM_pre {A : Nat → Prop} (hW : ∀ (U : State), s.WarmedH U.vm → N s → N U) (hP : va_P D vwCl w H) (hK : va_K D vwCl tys s) (hD : va_D A w) (hN : N s) : ∀ U : State, U.heap = H → s.WarmedH U.vm → va_Pc av (kM D tys N w H.size) av.toArray U :=
  fun U hU hw => ⟨rfl, by rw [hU], hD.weaken (fun _ _ _ _ => trivial), by rw [hU]; exact hP, va_K.moved hw.alike hK, hW U hw hN⟩
end KP
/-! the nest's words -/
def isNest : Cond → Bool
  | .methodLinkNest .. => true
  | .fieldLinkNest .. => true
  | _ => false
theorem nw_one {w : Cond} (h : isNest w = true) {s U : State} (hW : s.WarmedH U.vm) (hZ : va_Nw w s) : va_Nw w U := by
  cases w <;> first | exact va_Nw.warmM hW hZ | exact va_Nw.warmF hW hZ | exact (Bool.false_ne_true h).elim
/-- the desk's state: pc, stop, steps, traps, mem, reg, status, enabled, vector, scratch, back, cause, value, done, line -/
abbrev St : Type := Int32 × Bool × Int32 × Int32 × (Nat → Int32) × (Nat → Int32) × Int32 × Int32 × Int32 × Int32 × Int32 × Int32 × Int32 × Int32 × Bool
abbrev g_pc (x : St) : Int32 := x.1
abbrev g_stop (x : St) : Bool := x.2.1
abbrev g_steps (x : St) : Int32 := x.2.2.1
abbrev g_traps (x : St) : Int32 := x.2.2.2.1
abbrev g_mem (x : St) : Nat → Int32 := x.2.2.2.2.1
abbrev g_reg (x : St) : Nat → Int32 := x.2.2.2.2.2.1
abbrev g_status (x : St) : Int32 := x.2.2.2.2.2.2.1
abbrev g_enabled (x : St) : Int32 := x.2.2.2.2.2.2.2.1
abbrev g_vector (x : St) : Int32 := x.2.2.2.2.2.2.2.2.1
abbrev g_scratch (x : St) : Int32 := x.2.2.2.2.2.2.2.2.2.1
abbrev g_back (x : St) : Int32 := x.2.2.2.2.2.2.2.2.2.2.1
abbrev g_cause (x : St) : Int32 := x.2.2.2.2.2.2.2.2.2.2.2.1
abbrev g_value (x : St) : Int32 := x.2.2.2.2.2.2.2.2.2.2.2.2.1
abbrev g_done (x : St) : Int32 := x.2.2.2.2.2.2.2.2.2.2.2.2.2.1
abbrev g_line (x : St) : Bool := x.2.2.2.2.2.2.2.2.2.2.2.2.2.2
abbrev s_pc (x : St) (v : Int32) : St := (v, x.2)
abbrev s_stop (x : St) (v : Bool) : St := (x.1, v, x.2.2)
abbrev s_steps (x : St) (v : Int32) : St := (x.1, x.2.1, v, x.2.2.2)
abbrev s_traps (x : St) (v : Int32) : St := (x.1, x.2.1, x.2.2.1, v, x.2.2.2.2)
abbrev s_mem (x : St) (v : Nat → Int32) : St := (x.1, x.2.1, x.2.2.1, x.2.2.2.1, v, x.2.2.2.2.2)
abbrev s_reg (x : St) (v : Nat → Int32) : St := (x.1, x.2.1, x.2.2.1, x.2.2.2.1, x.2.2.2.2.1, v, x.2.2.2.2.2.2)
abbrev s_status (x : St) (v : Int32) : St := (x.1, x.2.1, x.2.2.1, x.2.2.2.1, x.2.2.2.2.1, x.2.2.2.2.2.1, v, x.2.2.2.2.2.2.2)
abbrev s_enabled (x : St) (v : Int32) : St := (x.1, x.2.1, x.2.2.1, x.2.2.2.1, x.2.2.2.2.1, x.2.2.2.2.2.1, x.2.2.2.2.2.2.1, v, x.2.2.2.2.2.2.2.2)
abbrev s_vector (x : St) (v : Int32) : St := (x.1, x.2.1, x.2.2.1, x.2.2.2.1, x.2.2.2.2.1, x.2.2.2.2.2.1, x.2.2.2.2.2.2.1, x.2.2.2.2.2.2.2.1, v, x.2.2.2.2.2.2.2.2.2)
abbrev s_scratch (x : St) (v : Int32) : St := (x.1, x.2.1, x.2.2.1, x.2.2.2.1, x.2.2.2.2.1, x.2.2.2.2.2.1, x.2.2.2.2.2.2.1, x.2.2.2.2.2.2.2.1, x.2.2.2.2.2.2.2.2.1, v, x.2.2.2.2.2.2.2.2.2.2)
abbrev s_back (x : St) (v : Int32) : St := (x.1, x.2.1, x.2.2.1, x.2.2.2.1, x.2.2.2.2.1, x.2.2.2.2.2.1, x.2.2.2.2.2.2.1, x.2.2.2.2.2.2.2.1, x.2.2.2.2.2.2.2.2.1, x.2.2.2.2.2.2.2.2.2.1, v, x.2.2.2.2.2.2.2.2.2.2.2)
abbrev s_cause (x : St) (v : Int32) : St := (x.1, x.2.1, x.2.2.1, x.2.2.2.1, x.2.2.2.2.1, x.2.2.2.2.2.1, x.2.2.2.2.2.2.1, x.2.2.2.2.2.2.2.1, x.2.2.2.2.2.2.2.2.1, x.2.2.2.2.2.2.2.2.2.1, x.2.2.2.2.2.2.2.2.2.2.1, v, x.2.2.2.2.2.2.2.2.2.2.2.2)
abbrev s_value (x : St) (v : Int32) : St := (x.1, x.2.1, x.2.2.1, x.2.2.2.1, x.2.2.2.2.1, x.2.2.2.2.2.1, x.2.2.2.2.2.2.1, x.2.2.2.2.2.2.2.1, x.2.2.2.2.2.2.2.2.1, x.2.2.2.2.2.2.2.2.2.1, x.2.2.2.2.2.2.2.2.2.2.1, x.2.2.2.2.2.2.2.2.2.2.2.1, v, x.2.2.2.2.2.2.2.2.2.2.2.2.2)
abbrev s_done (x : St) (v : Int32) : St := (x.1, x.2.1, x.2.2.1, x.2.2.2.1, x.2.2.2.2.1, x.2.2.2.2.2.1, x.2.2.2.2.2.2.1, x.2.2.2.2.2.2.2.1, x.2.2.2.2.2.2.2.2.1, x.2.2.2.2.2.2.2.2.2.1, x.2.2.2.2.2.2.2.2.2.2.1, x.2.2.2.2.2.2.2.2.2.2.2.1, x.2.2.2.2.2.2.2.2.2.2.2.2.1, v, x.2.2.2.2.2.2.2.2.2.2.2.2.2.2)
abbrev s_line (x : St) (v : Bool) : St := (x.1, x.2.1, x.2.2.1, x.2.2.2.1, x.2.2.2.2.1, x.2.2.2.2.2.1, x.2.2.2.2.2.2.1, x.2.2.2.2.2.2.2.1, x.2.2.2.2.2.2.2.2.1, x.2.2.2.2.2.2.2.2.2.1, x.2.2.2.2.2.2.2.2.2.2.1, x.2.2.2.2.2.2.2.2.2.2.2.1, x.2.2.2.2.2.2.2.2.2.2.2.2.1, x.2.2.2.2.2.2.2.2.2.2.2.2.2.1, v)
/-- the desk's five cells -/
abbrev wD (aH aM aW aC aR iW iR : Nat) (x : St) : va_W := [(aH, .inr (2, [.ref aM, .ref aC, .ref aR, .int (g_pc x), .int (bi (g_stop x)), .int (g_steps x), .int (g_traps x)])), (aM, .inr (1, [.ref aW])), (aW, .inl (iW, 1024, .inl (g_mem x))), (aC, .inr (0, [.int (g_status x), .int (g_enabled x), .int (g_vector x), .int (g_scratch x), .int (g_back x), .int (g_cause x), .int (g_value x), .int (g_done x), .int (bi (g_line x))])), (aR, .inl (iR, 32, .inl (g_reg x)))]
theorem wD_ad {aH aM aW aC aR iW iR : Nat} : ∀ x u : St, (wD aH aM aW aC aR iW iR x).map Prod.fst = (wD aH aM aW aC aR iW iR u).map Prod.fst := fun _ _ => rfl
/-! the nest's words that the desk's methods use -/
def nestWs : List Cond := [.methodLinkNest RX4 181 yX1_a RX4, .methodLinkNest RX4 184 yX1_b RX4, .methodLinkNest RX4 139 yX1_d RX4, .methodLinkNest RX4 187 yX2_enterTrap RX4, .fieldLinkNest RX4 191 "HartDesk$Controls" "vector" "I" RX4, .methodLinkNest RX4 169 yX1_f RX4, .methodLinkNest RX4 197 yX1_numberI RX4, .methodLinkNest RX4 203 yX0_holds RX4, .methodLinkNest RX4 208 yX1_numberB RX4, .methodLinkNest RX4 27 yX3_isWordAddress RX4, .methodLinkNest RX4 31 yX3_writeWord RX4, .fieldLinkNest RX4 41 "HartDesk$Controls" "lineUp" "Z" RX4, .fieldLinkNest RX4 103 "HartDesk$Controls" "done" "I" RX4, .methodLinkNest RX4 67 yX2_clear RX4, .methodLinkNest RX4 77 yX3_clear RX4, .methodLinkNest RX4 211 yX3_isBy RX4, .methodLinkNest RX4 122 yX3_holds RX4, .methodLinkNest RX4 214 yX3_readPart RX4, .methodLinkNest RX4 218 yX1_numberS RX4, .methodLinkNest RX4 221 yX3_writePart RX4, .methodLinkNest RX4 234 yX2_leaveTrap RX4, .methodLinkNest RX4 224 yX1_s RX4, .methodLinkNest RX4 227 yX0_basic RX4, .methodLinkNest RX4 231 yX0_productOrQuotient RX4, .methodLinkNest RX4 238 yX1_controlNumber RX4, .methodLinkNest RX4 241 yX2_isWritable RX4, .methodLinkNest RX4 92 yX2_read RX4, .methodLinkNest RX4 244 yX0_exchanged RX4, .methodLinkNest RX4 247 yX2_write RX4, .methodLinkNest RX4 87 yX2_isKnown RX4, .methodLinkNest RX4 128 yX1_op RX4, .methodLinkNest RX4 133 yX1_numberU RX4, .methodLinkNest RX4 142 yX1_numberJ RX4, .methodLinkNest RX4 113 yX2_isInterrupted RX4, .methodLinkNest RX4 97 yX3_readWord RX4]
def NW (U : State) : Prop := ∀ w ∈ nestWs, va_Nw w U
theorem nest_is : ∀ w ∈ nestWs, isNest w = true := by decide +kernel
theorem nest_tab : ∀ w ∈ nestWs, w.onTables = true := by decide +kernel
theorem NW_blind : ∀ (U : State) (g : JFrame) (mk : MethodId) (a : Array Value), NW U → NW (U.calling g mk a) := fun U g mk a h w hw => va_Nw.same (u := U) (U := U.calling g mk a) (nest_tab w hw) rfl (h w hw)
theorem NW_warm {s : State} : ∀ (U : State), s.WarmedH U.vm → NW s → NW U := fun U hW h w hw => nw_one (nest_is w hw) hW (h w hw)
theorem lg_ne {y : Int64} (h : ¬ lg_cmp y 0 = 0) : ¬ y = 0 := fun q => h (by rw [q]; decide)
end
section
/-! java.util.Arrays.fill(int[], int) -/
def fillf (n : Nat) (v : Int32) (f : Nat → Int32) : Nat → Int32 := fun j => if j < n then v else f j
theorem fillf_0 (v : Int32) (f : Nat → Int32) : fillf 0 v f = f := by
  funext j
  unfold fillf
  rw [if_neg (Nat.not_lt_zero j)]
theorem fillf_s (i : Nat) (v : Int32) (f : Nat → Int32) : upd (fillf i v f) i v = fillf (i + 1) v f := by
  funext j
  unfold upd fillf
  by_cases h : j = i
  · rw [if_pos h, if_pos (by omega)]
  · rw [if_neg h]
    by_cases h2 : j < i
    · rw [if_pos h2, if_pos (by omega)]
    · rw [if_neg h2, if_neg (by omega)]
theorem set_at {w : va_W} {q : Nat} {e0 : Nat × va_E} (h : w[q]? = some e0) (e : Nat × va_E) : (w.set q e)[q]? = some e := by
  have hq : q < w.length := (List.getElem?_eq_some_iff.mp h).1
  simp [hq]
theorem set_back {w : va_W} {q : Nat} {e0 : Nat × va_E} (h : w[q]? = some e0) : w.set q e0 = w := by
  obtain ⟨hq, h⟩ := List.getElem?_eq_some_iff.mp h
  subst h
  exact List.set_getElem_self hq
set_option maxHeartbeats 4000000 in
set_option maxRecDepth 100000 in
theorem fill_loop {p : Program} {l : Launch} {e : Env} {R : Room} {s : State} {m : MethodId} {args : Array Value} {below : List Frame} {meth : Method} {c : Code} {cells slots : Nat} {Q : State → Prop} (hx : p.tables.exec = Jvm.exec) (hb : c.code = cJ7_fill)
    {dC : Nat → ClassId} {dI : Nat → Nat → Nat} {w : va_W} {tys : List (ClassId × FieldType)} {q0 t0 a cA n : Nat} {f : Nat → Int32} {v : Int32} {A : Nat → Prop} {H0 : Heap} (hK : va_K (dC, dI) vwCl tys s) (he : w[q0]? = some (a, .inl (cA, n, .inl f))) (ht : tys[t0]? = some (cA, .int)) (hn : n < 2 ^ 31)
    (kx : ∀ (H : Heap) (locs : List Loc) (ls : Array Slot), va_P (dC, dI) vwCl (w.set q0 (a, .inl (cA, n, .inl (fillf n v f)))) H → va_D A (w.set q0 (a, .inl (cA, n, .inl (fillf n v f)))) → va_S A H0 H locs → W p l e R s m args below meth c H locs cells slots Q (F0 m 20 ls [])) :
    ∀ (k i : Nat), i + k = n → ∀ (H : Heap) (locs : List Loc) (ls : Array Slot), va_P (dC, dI) vwCl (w.set q0 (a, .inl (cA, n, .inl (fillf i v f)))) H → va_D A (w.set q0 (a, .inl (cA, n, .inl (fillf i v f)))) → va_S A H0 H locs → lv_has ls 4 [(0, .ref a), (1, .int v), (2, .int (nI i)), (3, .int (nI n))] →
      W p l e R s m args below meth c H locs cells slots Q (F0 m 5 ls []) := by
  intro k
  induction k with
  | zero =>
    intro i hi H locs ls hP hD hS hl
    obtain rfl : i = n := by omega
    refine lv_iload_n hx hb dJ7_fill_5 rfl (lv_at hl 2 rfl) ?_
    refine lv_iload_n hx hb dJ7_fill_6 rfl (lv_at hl 3 rfl) ?_
    refine lv_icmp_ge (tgt := 20) hx hb dJ7_fill_7 (by decide) (fun _ => ?_) (fun h9 => absurd (nI_le (Nat.le_refl _) hn) h9)
    exact kx H locs ls hP hD hS
  | succ k ih =>
    intro i hi H locs ls hP hD hS hl
    have hlt : i < n := by omega
    refine lv_iload_n hx hb dJ7_fill_5 rfl (lv_at hl 2 rfl) ?_
    refine lv_iload_n hx hb dJ7_fill_6 rfl (lv_at hl 3 rfl) ?_
    refine lv_icmp_ge (tgt := 20) hx hb dJ7_fill_7 (by decide) (fun h9 => absurd h9 (nI_ge hlt hn)) (fun _ => ?_)
    refine lv_aload_n hx hb dJ7_fill_10 rfl (lv_at hl 0 rfl) ?_
    refine lv_iload_n hx hb dJ7_fill_11 rfl (lv_at hl 2 rfl) ?_
    refine lv_iload_n hx hb dJ7_fill_12 rfl (lv_at hl 1 rfl) ?_
    refine va_iast hx hb hK hP hD hS q0 t0 (set_at he _) ht (vp_in_nI hlt hn) dJ7_fill_13 (fun H locs hP hD hS => ?_)
    rw [List.set_set, nI_clamp (by omega), fillf_s] at hP hD
    refine lv_iinc (v := nI (i + 1)) (lv' := [(2, .int (nI (i + 1))), (0, .ref a), (1, .int v), (3, .int (nI n))]) hx hb dJ7_fill_14 hl (k := 2) rfl (nI_1 i) (by decide) rfl (fun ls hl => ?_)
    refine lv_goto (tgt := 5) hx hb dJ7_fill_17 (by decide) ?_
    exact ih (i + 1) (by omega) H locs ls hP hD hS (lv_sub hl [1, 2, 0, 3] rfl)
set_option maxHeartbeats 4000000 in
set_option maxRecDepth 100000 in
/-- Arrays.fill: the array at place q0 of a world holds v everywhere, all else stays -/
theorem m_fill (l : Launch) (dC : Nat → ClassId) (dI : Nat → Nat → Nat) (w : va_W) (tys : List (ClassId × FieldType)) (q0 t0 a cA n : Nat) (f : Nat → Int32) (v : Int32) (sz : Nat) (he : w[q0]? = some (a, .inl (cA, n, .inl f))) (ht : tys[t0]? = some (cA, .int)) (hn : n < 2 ^ 31) :
    Met l yJ7_fill wsJ7_fill ({ frames := 0, cells := 0, slots := 0, locals := 0 }) (va_Pc [.ref a, .int v] (kM (dC, dI) tys NW w sz)) (va_Qv (fun u : Nat → Int32 => u = fillf n v f) (fun u t => va_P (dC, dI) vwCl (w.set q0 (a, .inl (cA, n, .inl u))) t.heap) (va_A w sz)) 0 0 (va_A w sz) := by
  refine Met.ofW (cc := cJ7_fill) (maxL := 4) (ret := none) (by decide) rfl ?_
  intro p e s m args below meth c s₁ B hml hv
  obtain ⟨rfl, hsz, hD0, hP, hK, hN⟩ := hv
  have hx := B.exec
  have hb := B.bytes
  have hr := B.returns
  have hlocks := B.notSynchronized
  subst hsz
  have hD := hD0.self (sz := s.heap.size)
  generalize hAe : va_A w s.heap.size = A at hD ⊢
  have hS : va_S A s.heap s.heap [] := va_S.rf
  have hl := lv_entry ([.ref a, .int v]) (n := 4) (Nat.le_of_ble_eq_true rfl)
  rw [lg_entry_eq]
  generalize (lg_sl ([.ref a, .int v]) ++ List.replicate (4 - (lg_sl ([.ref a, .int v])).length) Slot.unset).toArray = ls at hl ⊢
  have hl : lv_has ls 4 [(0, .ref a), (1, .int v)] := hl
  refine lv_iconst (v := 0) hx hb dJ7_fill_0 (by decide) ?_
  refine lv_istore_n (lv' := [(2, .int 0), (0, .ref a), (1, .int v)]) hx hb dJ7_fill_1 rfl hl (by decide) rfl (fun ls hl => ?_)
  refine lv_aload_n hx hb dJ7_fill_2 rfl (lv_at hl 1 rfl) ?_
  refine va_alen (v := nI n) hx hb hK hP q0 t0 he ht rfl dJ7_fill_3 ?_
  refine lv_istore_n (lv' := [(3, .int (nI n)), (2, .int 0), (0, .ref a), (1, .int v)]) hx hb dJ7_fill_4 rfl hl (by decide) rfl (fun ls hl => ?_)
  have hl : lv_has ls 4 [(3, .int (nI n)), (2, .int (nI 0)), (0, .ref a), (1, .int v)] := by rw [nI_0]; exact hl
  refine fill_loop hx hb hK he ht hn (fun H locs ls hP hD hS => ?_) n 0 (Nat.zero_add n) s.heap [] ls ?_ ?_ hS (lv_sub hl [2, 3, 1, 0] rfl)
  · exact W.vret hx hb hr (fun t ht hW => ⟨⟨fillf n v f, rfl, rfl, hpT ht hP⟩, hS.F ht⟩) hS.2.2 dJ7_fill_20
  · rw [fillf_0, set_back he]; exact hP
  · rw [fillf_0, set_back he]; exact hD
end
section
def fX1_op (p0 : Int32) : Int32 := p0 &&& (127 : Int32)
set_option maxHeartbeats 4000000 in
set_option maxRecDepth 100000 in
theorem mX1_op (l : Launch) (p0 : Int32) : Met l yX1_op wsX1_op ({ frames := 0, cells := 0, slots := 0, locals := 0 }) (va_Pc [.int p0] (fun _ => True)) (QcRead ((fX1_op p0))) 0 0 (fun _ => False) := by
  refine Met.ofW (cc := cX1_op) (maxL := 1) (ret := (some .int)) (by decide) rfl ?_
  intro p e s m args below meth c s₁ B hml hv
  obtain ⟨rfl, -⟩ := hv
  have hx := B.exec
  have hb := B.bytes
  have hr := B.returns
  have hB := fun (w : Cond) (h : w ∈ BIG) => atoms_spec (ws := wsX1_op) B.pre w (List.mem_cons_of_mem _ h)
  have hown : s.vm.findClass RX1 = some m.cls := findClass_of_methodNamed B.named
  have hlocks := B.notSynchronized
  have hl := lv_entry ([.int p0]) (n := 1) (Nat.le_of_ble_eq_true rfl)
  rw [lg_entry_eq]
  generalize (lg_sl ([.int p0]) ++ List.replicate (1 - (lg_sl ([.int p0])).length) Slot.unset).toArray = ls at hl ⊢
  have hl : lv_has ls 1 [(0, .int p0)] := hl
  refine lv_iload_n hx hb dX1_op_0 rfl (lv_at hl 0 rfl) ?_
  refine lv_bipush (v := 127) hx hb dX1_op_1 (by decide) ?_
  refine lv_iand hx hb dX1_op_3 ?_
  exact W.iret (v := p0 &&& (127 : Int32)) hx hb hr (fun t ht hW => ⟨congrArg (fun z => Outcome.returned (some (Value.int z))) rfl, ht⟩) (fun q h => nomatch h) dX1_op_4
def fX1_d (p0 : Int32) : Int32 := (ush p0 (7 : Int32)) &&& (31 : Int32)
set_option maxHeartbeats 4000000 in
set_option maxRecDepth 100000 in
theorem mX1_d (l : Launch) (p0 : Int32) : Met l yX1_d wsX1_d ({ frames := 0, cells := 0, slots := 0, locals := 0 }) (va_Pc [.int p0] (fun _ => True)) (QcRead ((fX1_d p0))) 0 0 (fun _ => False) := by
  refine Met.ofW (cc := cX1_d) (maxL := 1) (ret := (some .int)) (by decide) rfl ?_
  intro p e s m args below meth c s₁ B hml hv
  obtain ⟨rfl, -⟩ := hv
  have hx := B.exec
  have hb := B.bytes
  have hr := B.returns
  have hB := fun (w : Cond) (h : w ∈ BIG) => atoms_spec (ws := wsX1_d) B.pre w (List.mem_cons_of_mem _ h)
  have hown : s.vm.findClass RX1 = some m.cls := findClass_of_methodNamed B.named
  have hlocks := B.notSynchronized
  have hl := lv_entry ([.int p0]) (n := 1) (Nat.le_of_ble_eq_true rfl)
  rw [lg_entry_eq]
  generalize (lg_sl ([.int p0]) ++ List.replicate (1 - (lg_sl ([.int p0])).length) Slot.unset).toArray = ls at hl ⊢
  have hl : lv_has ls 1 [(0, .int p0)] := hl
  refine lv_iload_n hx hb dX1_d_0 rfl (lv_at hl 0 rfl) ?_
  refine lv_bipush (v := 7) hx hb dX1_d_1 (by decide) ?_
  refine lv_iushr (v := ush p0 (7 : Int32)) hx hb dX1_d_3 rfl ?_
  refine lv_bipush (v := 31) hx hb dX1_d_4 (by decide) ?_
  refine lv_iand hx hb dX1_d_6 ?_
  exact W.iret (v := (ush p0 (7 : Int32)) &&& (31 : Int32)) hx hb hr (fun t ht hW => ⟨congrArg (fun z => Outcome.returned (some (Value.int z))) rfl, ht⟩) (fun q h => nomatch h) dX1_d_7
def fX1_f (p0 : Int32) : Int32 := (ush p0 (12 : Int32)) &&& (7 : Int32)
set_option maxHeartbeats 4000000 in
set_option maxRecDepth 100000 in
theorem mX1_f (l : Launch) (p0 : Int32) : Met l yX1_f wsX1_f ({ frames := 0, cells := 0, slots := 0, locals := 0 }) (va_Pc [.int p0] (fun _ => True)) (QcRead ((fX1_f p0))) 0 0 (fun _ => False) := by
  refine Met.ofW (cc := cX1_f) (maxL := 1) (ret := (some .int)) (by decide) rfl ?_
  intro p e s m args below meth c s₁ B hml hv
  obtain ⟨rfl, -⟩ := hv
  have hx := B.exec
  have hb := B.bytes
  have hr := B.returns
  have hB := fun (w : Cond) (h : w ∈ BIG) => atoms_spec (ws := wsX1_f) B.pre w (List.mem_cons_of_mem _ h)
  have hown : s.vm.findClass RX1 = some m.cls := findClass_of_methodNamed B.named
  have hlocks := B.notSynchronized
  have hl := lv_entry ([.int p0]) (n := 1) (Nat.le_of_ble_eq_true rfl)
  rw [lg_entry_eq]
  generalize (lg_sl ([.int p0]) ++ List.replicate (1 - (lg_sl ([.int p0])).length) Slot.unset).toArray = ls at hl ⊢
  have hl : lv_has ls 1 [(0, .int p0)] := hl
  refine lv_iload_n hx hb dX1_f_0 rfl (lv_at hl 0 rfl) ?_
  refine lv_bipush (v := 12) hx hb dX1_f_1 (by decide) ?_
  refine lv_iushr (v := ush p0 (12 : Int32)) hx hb dX1_f_3 rfl ?_
  refine lv_bipush (v := 7) hx hb dX1_f_4 (by decide) ?_
  refine lv_iand hx hb dX1_f_6 ?_
  exact W.iret (v := (ush p0 (12 : Int32)) &&& (7 : Int32)) hx hb hr (fun t ht hW => ⟨congrArg (fun z => Outcome.returned (some (Value.int z))) rfl, ht⟩) (fun q h => nomatch h) dX1_f_7
def fX1_a (p0 : Int32) : Int32 := (ush p0 (15 : Int32)) &&& (31 : Int32)
set_option maxHeartbeats 4000000 in
set_option maxRecDepth 100000 in
theorem mX1_a (l : Launch) (p0 : Int32) : Met l yX1_a wsX1_a ({ frames := 0, cells := 0, slots := 0, locals := 0 }) (va_Pc [.int p0] (fun _ => True)) (QcRead ((fX1_a p0))) 0 0 (fun _ => False) := by
  refine Met.ofW (cc := cX1_a) (maxL := 1) (ret := (some .int)) (by decide) rfl ?_
  intro p e s m args below meth c s₁ B hml hv
  obtain ⟨rfl, -⟩ := hv
  have hx := B.exec
  have hb := B.bytes
  have hr := B.returns
  have hB := fun (w : Cond) (h : w ∈ BIG) => atoms_spec (ws := wsX1_a) B.pre w (List.mem_cons_of_mem _ h)
  have hown : s.vm.findClass RX1 = some m.cls := findClass_of_methodNamed B.named
  have hlocks := B.notSynchronized
  have hl := lv_entry ([.int p0]) (n := 1) (Nat.le_of_ble_eq_true rfl)
  rw [lg_entry_eq]
  generalize (lg_sl ([.int p0]) ++ List.replicate (1 - (lg_sl ([.int p0])).length) Slot.unset).toArray = ls at hl ⊢
  have hl : lv_has ls 1 [(0, .int p0)] := hl
  refine lv_iload_n hx hb dX1_a_0 rfl (lv_at hl 0 rfl) ?_
  refine lv_bipush (v := 15) hx hb dX1_a_1 (by decide) ?_
  refine lv_iushr (v := ush p0 (15 : Int32)) hx hb dX1_a_3 rfl ?_
  refine lv_bipush (v := 31) hx hb dX1_a_4 (by decide) ?_
  refine lv_iand hx hb dX1_a_6 ?_
  exact W.iret (v := (ush p0 (15 : Int32)) &&& (31 : Int32)) hx hb hr (fun t ht hW => ⟨congrArg (fun z => Outcome.returned (some (Value.int z))) rfl, ht⟩) (fun q h => nomatch h) dX1_a_7
def fX1_b (p0 : Int32) : Int32 := (ush p0 (20 : Int32)) &&& (31 : Int32)
set_option maxHeartbeats 4000000 in
set_option maxRecDepth 100000 in
theorem mX1_b (l : Launch) (p0 : Int32) : Met l yX1_b wsX1_b ({ frames := 0, cells := 0, slots := 0, locals := 0 }) (va_Pc [.int p0] (fun _ => True)) (QcRead ((fX1_b p0))) 0 0 (fun _ => False) := by
  refine Met.ofW (cc := cX1_b) (maxL := 1) (ret := (some .int)) (by decide) rfl ?_
  intro p e s m args below meth c s₁ B hml hv
  obtain ⟨rfl, -⟩ := hv
  have hx := B.exec
  have hb := B.bytes
  have hr := B.returns
  have hB := fun (w : Cond) (h : w ∈ BIG) => atoms_spec (ws := wsX1_b) B.pre w (List.mem_cons_of_mem _ h)
  have hown : s.vm.findClass RX1 = some m.cls := findClass_of_methodNamed B.named
  have hlocks := B.notSynchronized
  have hl := lv_entry ([.int p0]) (n := 1) (Nat.le_of_ble_eq_true rfl)
  rw [lg_entry_eq]
  generalize (lg_sl ([.int p0]) ++ List.replicate (1 - (lg_sl ([.int p0])).length) Slot.unset).toArray = ls at hl ⊢
  have hl : lv_has ls 1 [(0, .int p0)] := hl
  refine lv_iload_n hx hb dX1_b_0 rfl (lv_at hl 0 rfl) ?_
  refine lv_bipush (v := 20) hx hb dX1_b_1 (by decide) ?_
  refine lv_iushr (v := ush p0 (20 : Int32)) hx hb dX1_b_3 rfl ?_
  refine lv_bipush (v := 31) hx hb dX1_b_4 (by decide) ?_
  refine lv_iand hx hb dX1_b_6 ?_
  exact W.iret (v := (ush p0 (20 : Int32)) &&& (31 : Int32)) hx hb hr (fun t ht hW => ⟨congrArg (fun z => Outcome.returned (some (Value.int z))) rfl, ht⟩) (fun q h => nomatch h) dX1_b_7
def fX1_s (p0 : Int32) : Int32 := ush p0 (25 : Int32)
set_option maxHeartbeats 4000000 in
set_option maxRecDepth 100000 in
theorem mX1_s (l : Launch) (p0 : Int32) : Met l yX1_s wsX1_s ({ frames := 0, cells := 0, slots := 0, locals := 0 }) (va_Pc [.int p0] (fun _ => True)) (QcRead ((fX1_s p0))) 0 0 (fun _ => False) := by
  refine Met.ofW (cc := cX1_s) (maxL := 1) (ret := (some .int)) (by decide) rfl ?_
  intro p e s m args below meth c s₁ B hml hv
  obtain ⟨rfl, -⟩ := hv
  have hx := B.exec
  have hb := B.bytes
  have hr := B.returns
  have hB := fun (w : Cond) (h : w ∈ BIG) => atoms_spec (ws := wsX1_s) B.pre w (List.mem_cons_of_mem _ h)
  have hown : s.vm.findClass RX1 = some m.cls := findClass_of_methodNamed B.named
  have hlocks := B.notSynchronized
  have hl := lv_entry ([.int p0]) (n := 1) (Nat.le_of_ble_eq_true rfl)
  rw [lg_entry_eq]
  generalize (lg_sl ([.int p0]) ++ List.replicate (1 - (lg_sl ([.int p0])).length) Slot.unset).toArray = ls at hl ⊢
  have hl : lv_has ls 1 [(0, .int p0)] := hl
  refine lv_iload_n hx hb dX1_s_0 rfl (lv_at hl 0 rfl) ?_
  refine lv_bipush (v := 25) hx hb dX1_s_1 (by decide) ?_
  refine lv_iushr (v := ush p0 (25 : Int32)) hx hb dX1_s_3 rfl ?_
  exact W.iret (v := ush p0 (25 : Int32)) hx hb hr (fun t ht hW => ⟨congrArg (fun z => Outcome.returned (some (Value.int z))) rfl, ht⟩) (fun q h => nomatch h) dX1_s_4
def fX1_controlNumber (p0 : Int32) : Int32 := ush p0 (20 : Int32)
set_option maxHeartbeats 4000000 in
set_option maxRecDepth 100000 in
theorem mX1_controlNumber (l : Launch) (p0 : Int32) : Met l yX1_controlNumber wsX1_controlNumber ({ frames := 0, cells := 0, slots := 0, locals := 0 }) (va_Pc [.int p0] (fun _ => True)) (QcRead ((fX1_controlNumber p0))) 0 0 (fun _ => False) := by
  refine Met.ofW (cc := cX1_controlNumber) (maxL := 1) (ret := (some .int)) (by decide) rfl ?_
  intro p e s m args below meth c s₁ B hml hv
  obtain ⟨rfl, -⟩ := hv
  have hx := B.exec
  have hb := B.bytes
  have hr := B.returns
  have hB := fun (w : Cond) (h : w ∈ BIG) => atoms_spec (ws := wsX1_controlNumber) B.pre w (List.mem_cons_of_mem _ h)
  have hown : s.vm.findClass RX1 = some m.cls := findClass_of_methodNamed B.named
  have hlocks := B.notSynchronized
  have hl := lv_entry ([.int p0]) (n := 1) (Nat.le_of_ble_eq_true rfl)
  rw [lg_entry_eq]
  generalize (lg_sl ([.int p0]) ++ List.replicate (1 - (lg_sl ([.int p0])).length) Slot.unset).toArray = ls at hl ⊢
  have hl : lv_has ls 1 [(0, .int p0)] := hl
  refine lv_iload_n hx hb dX1_controlNumber_0 rfl (lv_at hl 0 rfl) ?_
  refine lv_bipush (v := 20) hx hb dX1_controlNumber_1 (by decide) ?_
  refine lv_iushr (v := ush p0 (20 : Int32)) hx hb dX1_controlNumber_3 rfl ?_
  exact W.iret (v := ush p0 (20 : Int32)) hx hb hr (fun t ht hW => ⟨congrArg (fun z => Outcome.returned (some (Value.int z))) rfl, ht⟩) (fun q h => nomatch h) dX1_controlNumber_4
def fX1_numberI (p0 : Int32) : Int32 := p0 >>> ((20 : Int32) &&& 31)
set_option maxHeartbeats 4000000 in
set_option maxRecDepth 100000 in
theorem mX1_numberI (l : Launch) (p0 : Int32) : Met l yX1_numberI wsX1_numberI ({ frames := 0, cells := 0, slots := 0, locals := 0 }) (va_Pc [.int p0] (fun _ => True)) (QcRead ((fX1_numberI p0))) 0 0 (fun _ => False) := by
  refine Met.ofW (cc := cX1_numberI) (maxL := 1) (ret := (some .int)) (by decide) rfl ?_
  intro p e s m args below meth c s₁ B hml hv
  obtain ⟨rfl, -⟩ := hv
  have hx := B.exec
  have hb := B.bytes
  have hr := B.returns
  have hB := fun (w : Cond) (h : w ∈ BIG) => atoms_spec (ws := wsX1_numberI) B.pre w (List.mem_cons_of_mem _ h)
  have hown : s.vm.findClass RX1 = some m.cls := findClass_of_methodNamed B.named
  have hlocks := B.notSynchronized
  have hl := lv_entry ([.int p0]) (n := 1) (Nat.le_of_ble_eq_true rfl)
  rw [lg_entry_eq]
  generalize (lg_sl ([.int p0]) ++ List.replicate (1 - (lg_sl ([.int p0])).length) Slot.unset).toArray = ls at hl ⊢
  have hl : lv_has ls 1 [(0, .int p0)] := hl
  refine lv_iload_n hx hb dX1_numberI_0 rfl (lv_at hl 0 rfl) ?_
  refine lv_bipush (v := 20) hx hb dX1_numberI_1 (by decide) ?_
  refine lv_ishr hx hb dX1_numberI_3 ?_
  exact W.iret (v := p0 >>> ((20 : Int32) &&& 31)) hx hb hr (fun t ht hW => ⟨congrArg (fun z => Outcome.returned (some (Value.int z))) rfl, ht⟩) (fun q h => nomatch h) dX1_numberI_4
def fX1_numberS (p0 : Int32) : Int32 := ((p0 >>> ((25 : Int32) &&& 31)) <<< ((5 : Int32) &&& 31)) ||| (fX1_d p0)
set_option maxHeartbeats 4000000 in
set_option maxRecDepth 100000 in
theorem mX1_numberS (l : Launch) (p0 : Int32) : Met l yX1_numberS wsX1_numberS ({ frames := 1, cells := 0, slots := 0, locals := 20 }) (va_Pc [.int p0] (fun _ => True)) (QcRead ((fX1_numberS p0))) 0 0 (fun _ => False) := by
  refine Met.ofW (cc := cX1_numberS) (maxL := 1) (ret := (some .int)) (by decide) rfl ?_
  intro p e s m args below meth c s₁ B hml hv
  obtain ⟨rfl, -⟩ := hv
  have hx := B.exec
  have hb := B.bytes
  have hr := B.returns
  have hB := fun (w : Cond) (h : w ∈ BIG) => atoms_spec (ws := wsX1_numberS) B.pre w (List.mem_cons_of_mem _ h)
  have hown : s.vm.findClass RX1 = some m.cls := findClass_of_methodNamed B.named
  have hlocks := B.notSynchronized
  have hl := lv_entry ([.int p0]) (n := 1) (Nat.le_of_ble_eq_true rfl)
  rw [lg_entry_eq]
  generalize (lg_sl ([.int p0]) ++ List.replicate (1 - (lg_sl ([.int p0])).length) Slot.unset).toArray = ls at hl ⊢
  have hl : lv_has ls 1 [(0, .int p0)] := hl
  refine lv_iload_n hx hb dX1_numberS_0 rfl (lv_at hl 0 rfl) ?_
  refine lv_bipush (v := 25) hx hb dX1_numberS_1 (by decide) ?_
  refine lv_ishr hx hb dX1_numberS_3 ?_
  refine lv_iconst (v := 5) hx hb dX1_numberS_4 (by decide) ?_
  refine lv_ishl hx hb dX1_numberS_5 ?_
  refine lv_iload_n hx hb dX1_numberS_6 rfl (lv_at hl 0 rfl) ?_
  refine k_ri (va_runS (As := [.int p0]) (rest := [.int ((p0 >>> ((25 : Int32) &&& 31)) <<< ((5 : Int32) &&& 31))]) ⟨hx, hb, hml, hown, hB⟩ (mX1_d l p0) (va_cwS 1 hB (gS q_t2_120 q_t2_38 q_t1_10 wX1_d) rfl rfl rfl hX1_d.2 ⟨Nat.le_of_ble_eq_true rfl, Nat.le_of_ble_eq_true rfl⟩) ⟨fun _ _ _ _ q => q, fun U _ _ => ⟨rfl, trivial⟩⟩ rfl rfl hl.1 rfl (lv_room (Nat.le_of_ble_eq_true rfl)) dX1_numberS_7 ⟨Nat.zero_le _, Nat.zero_le _⟩) ?_
  refine lv_ior hx hb dX1_numberS_10 ?_
  exact W.iret (v := ((p0 >>> ((25 : Int32) &&& 31)) <<< ((5 : Int32) &&& 31)) ||| (fX1_d p0)) hx hb hr (fun t ht hW => ⟨congrArg (fun z => Outcome.returned (some (Value.int z))) rfl, ht⟩) (fun q h => nomatch h) dX1_numberS_11
def fX1_numberB (p0 : Int32) : Int32 := ((((p0 >>> ((31 : Int32) &&& 31)) <<< ((12 : Int32) &&& 31)) ||| (((ush p0 (7 : Int32)) &&& (1 : Int32)) <<< ((11 : Int32) &&& 31))) ||| (((ush p0 (25 : Int32)) &&& (63 : Int32)) <<< ((5 : Int32) &&& 31))) ||| (((ush p0 (8 : Int32)) &&& (15 : Int32)) <<< ((1 : Int32) &&& 31))
set_option maxHeartbeats 4000000 in
set_option maxRecDepth 100000 in
theorem mX1_numberB (l : Launch) (p0 : Int32) : Met l yX1_numberB wsX1_numberB ({ frames := 0, cells := 0, slots := 0, locals := 0 }) (va_Pc [.int p0] (fun _ => True)) (QcRead ((fX1_numberB p0))) 0 0 (fun _ => False) := by
  refine Met.ofW (cc := cX1_numberB) (maxL := 1) (ret := (some .int)) (by decide) rfl ?_
  intro p e s m args below meth c s₁ B hml hv
  obtain ⟨rfl, -⟩ := hv
  have hx := B.exec
  have hb := B.bytes
  have hr := B.returns
  have hB := fun (w : Cond) (h : w ∈ BIG) => atoms_spec (ws := wsX1_numberB) B.pre w (List.mem_cons_of_mem _ h)
  have hown : s.vm.findClass RX1 = some m.cls := findClass_of_methodNamed B.named
  have hlocks := B.notSynchronized
  have hl := lv_entry ([.int p0]) (n := 1) (Nat.le_of_ble_eq_true rfl)
  rw [lg_entry_eq]
  generalize (lg_sl ([.int p0]) ++ List.replicate (1 - (lg_sl ([.int p0])).length) Slot.unset).toArray = ls at hl ⊢
  have hl : lv_has ls 1 [(0, .int p0)] := hl
  refine lv_iload_n hx hb dX1_numberB_0 rfl (lv_at hl 0 rfl) ?_
  refine lv_bipush (v := 31) hx hb dX1_numberB_1 (by decide) ?_
  refine lv_ishr hx hb dX1_numberB_3 ?_
  refine lv_bipush (v := 12) hx hb dX1_numberB_4 (by decide) ?_
  refine lv_ishl hx hb dX1_numberB_6 ?_
  refine lv_iload_n hx hb dX1_numberB_7 rfl (lv_at hl 0 rfl) ?_
  refine lv_bipush (v := 7) hx hb dX1_numberB_8 (by decide) ?_
  refine lv_iushr (v := ush p0 (7 : Int32)) hx hb dX1_numberB_10 rfl ?_
  refine lv_iconst (v := 1) hx hb dX1_numberB_11 (by decide) ?_
  refine lv_iand hx hb dX1_numberB_12 ?_
  refine lv_bipush (v := 11) hx hb dX1_numberB_13 (by decide) ?_
  refine lv_ishl hx hb dX1_numberB_15 ?_
  refine lv_ior hx hb dX1_numberB_16 ?_
  refine lv_iload_n hx hb dX1_numberB_17 rfl (lv_at hl 0 rfl) ?_
  refine lv_bipush (v := 25) hx hb dX1_numberB_18 (by decide) ?_
  refine lv_iushr (v := ush p0 (25 : Int32)) hx hb dX1_numberB_20 rfl ?_
  refine lv_bipush (v := 63) hx hb dX1_numberB_21 (by decide) ?_
  refine lv_iand hx hb dX1_numberB_23 ?_
  refine lv_iconst (v := 5) hx hb dX1_numberB_24 (by decide) ?_
  refine lv_ishl hx hb dX1_numberB_25 ?_
  refine lv_ior hx hb dX1_numberB_26 ?_
  refine lv_iload_n hx hb dX1_numberB_27 rfl (lv_at hl 0 rfl) ?_
  refine lv_bipush (v := 8) hx hb dX1_numberB_28 (by decide) ?_
  refine lv_iushr (v := ush p0 (8 : Int32)) hx hb dX1_numberB_30 rfl ?_
  refine lv_bipush (v := 15) hx hb dX1_numberB_31 (by decide) ?_
  refine lv_iand hx hb dX1_numberB_33 ?_
  refine lv_iconst (v := 1) hx hb dX1_numberB_34 (by decide) ?_
  refine lv_ishl hx hb dX1_numberB_35 ?_
  refine lv_ior hx hb dX1_numberB_36 ?_
  exact W.iret (v := ((((p0 >>> ((31 : Int32) &&& 31)) <<< ((12 : Int32) &&& 31)) ||| (((ush p0 (7 : Int32)) &&& (1 : Int32)) <<< ((11 : Int32) &&& 31))) ||| (((ush p0 (25 : Int32)) &&& (63 : Int32)) <<< ((5 : Int32) &&& 31))) ||| (((ush p0 (8 : Int32)) &&& (15 : Int32)) <<< ((1 : Int32) &&& 31))) hx hb hr (fun t ht hW => ⟨congrArg (fun z => Outcome.returned (some (Value.int z))) rfl, ht⟩) (fun q h => nomatch h) dX1_numberB_37
def fX1_numberJ (p0 : Int32) : Int32 := ((((p0 >>> ((31 : Int32) &&& 31)) <<< ((20 : Int32) &&& 31)) ||| (((ush p0 (12 : Int32)) &&& (255 : Int32)) <<< ((12 : Int32) &&& 31))) ||| (((ush p0 (20 : Int32)) &&& (1 : Int32)) <<< ((11 : Int32) &&& 31))) ||| (((ush p0 (21 : Int32)) &&& (1023 : Int32)) <<< ((1 : Int32) &&& 31))
set_option maxHeartbeats 4000000 in
set_option maxRecDepth 100000 in
theorem mX1_numberJ (l : Launch) (p0 : Int32) : Met l yX1_numberJ wsX1_numberJ ({ frames := 0, cells := 0, slots := 0, locals := 0 }) (va_Pc [.int p0] (fun _ => True)) (QcRead ((fX1_numberJ p0))) 0 0 (fun _ => False) := by
  refine Met.ofW (cc := cX1_numberJ) (maxL := 1) (ret := (some .int)) (by decide) rfl ?_
  intro p e s m args below meth c s₁ B hml hv
  obtain ⟨rfl, -⟩ := hv
  have hx := B.exec
  have hb := B.bytes
  have hr := B.returns
  have hB := fun (w : Cond) (h : w ∈ BIG) => atoms_spec (ws := wsX1_numberJ) B.pre w (List.mem_cons_of_mem _ h)
  have hown : s.vm.findClass RX1 = some m.cls := findClass_of_methodNamed B.named
  have hlocks := B.notSynchronized
  have hl := lv_entry ([.int p0]) (n := 1) (Nat.le_of_ble_eq_true rfl)
  rw [lg_entry_eq]
  generalize (lg_sl ([.int p0]) ++ List.replicate (1 - (lg_sl ([.int p0])).length) Slot.unset).toArray = ls at hl ⊢
  have hl : lv_has ls 1 [(0, .int p0)] := hl
  refine lv_iload_n hx hb dX1_numberJ_0 rfl (lv_at hl 0 rfl) ?_
  refine lv_bipush (v := 31) hx hb dX1_numberJ_1 (by decide) ?_
  refine lv_ishr hx hb dX1_numberJ_3 ?_
  refine lv_bipush (v := 20) hx hb dX1_numberJ_4 (by decide) ?_
  refine lv_ishl hx hb dX1_numberJ_6 ?_
  refine lv_iload_n hx hb dX1_numberJ_7 rfl (lv_at hl 0 rfl) ?_
  refine lv_bipush (v := 12) hx hb dX1_numberJ_8 (by decide) ?_
  refine lv_iushr (v := ush p0 (12 : Int32)) hx hb dX1_numberJ_10 rfl ?_
  refine lv_sipush (v := 255) hx hb dX1_numberJ_11 (by decide) ?_
  refine lv_iand hx hb dX1_numberJ_14 ?_
  refine lv_bipush (v := 12) hx hb dX1_numberJ_15 (by decide) ?_
  refine lv_ishl hx hb dX1_numberJ_17 ?_
  refine lv_ior hx hb dX1_numberJ_18 ?_
  refine lv_iload_n hx hb dX1_numberJ_19 rfl (lv_at hl 0 rfl) ?_
  refine lv_bipush (v := 20) hx hb dX1_numberJ_20 (by decide) ?_
  refine lv_iushr (v := ush p0 (20 : Int32)) hx hb dX1_numberJ_22 rfl ?_
  refine lv_iconst (v := 1) hx hb dX1_numberJ_23 (by decide) ?_
  refine lv_iand hx hb dX1_numberJ_24 ?_
  refine lv_bipush (v := 11) hx hb dX1_numberJ_25 (by decide) ?_
  refine lv_ishl hx hb dX1_numberJ_27 ?_
  refine lv_ior hx hb dX1_numberJ_28 ?_
  refine lv_iload_n hx hb dX1_numberJ_29 rfl (lv_at hl 0 rfl) ?_
  refine lv_bipush (v := 21) hx hb dX1_numberJ_30 (by decide) ?_
  refine lv_iushr (v := ush p0 (21 : Int32)) hx hb dX1_numberJ_32 rfl ?_
  refine lv_sipush (v := 1023) hx hb dX1_numberJ_33 (by decide) ?_
  refine lv_iand hx hb dX1_numberJ_36 ?_
  refine lv_iconst (v := 1) hx hb dX1_numberJ_37 (by decide) ?_
  refine lv_ishl hx hb dX1_numberJ_38 ?_
  refine lv_ior hx hb dX1_numberJ_39 ?_
  exact W.iret (v := ((((p0 >>> ((31 : Int32) &&& 31)) <<< ((20 : Int32) &&& 31)) ||| (((ush p0 (12 : Int32)) &&& (255 : Int32)) <<< ((12 : Int32) &&& 31))) ||| (((ush p0 (20 : Int32)) &&& (1 : Int32)) <<< ((11 : Int32) &&& 31))) ||| (((ush p0 (21 : Int32)) &&& (1023 : Int32)) <<< ((1 : Int32) &&& 31))) hx hb hr (fun t ht hW => ⟨congrArg (fun z => Outcome.returned (some (Value.int z))) rfl, ht⟩) (fun q h => nomatch h) dX1_numberJ_40
def fX1_numberU (p0 : Int32) : Int32 := p0 &&& (-4096 : Int32)
set_option maxHeartbeats 4000000 in
set_option maxRecDepth 100000 in
theorem mX1_numberU (l : Launch) (p0 : Int32) : Met l yX1_numberU wsX1_numberU ({ frames := 0, cells := 0, slots := 0, locals := 0 }) (va_Pc [.int p0] (fun _ => True)) (QcRead ((fX1_numberU p0))) 0 0 (fun _ => False) := by
  refine Met.ofW (cc := cX1_numberU) (maxL := 1) (ret := (some .int)) (by decide) rfl ?_
  intro p e s m args below meth c s₁ B hml hv
  obtain ⟨rfl, -⟩ := hv
  have hx := B.exec
  have hb := B.bytes
  have hr := B.returns
  have hB := fun (w : Cond) (h : w ∈ BIG) => atoms_spec (ws := wsX1_numberU) B.pre w (List.mem_cons_of_mem _ h)
  have hown : s.vm.findClass RX1 = some m.cls := findClass_of_methodNamed B.named
  have hlocks := B.notSynchronized
  have hl := lv_entry ([.int p0]) (n := 1) (Nat.le_of_ble_eq_true rfl)
  rw [lg_entry_eq]
  generalize (lg_sl ([.int p0]) ++ List.replicate (1 - (lg_sl ([.int p0])).length) Slot.unset).toArray = ls at hl ⊢
  have hl : lv_has ls 1 [(0, .int p0)] := hl
  refine lv_iload_n hx hb dX1_numberU_0 rfl (lv_at hl 0 rfl) ?_
  refine lv_sipush (v := -4096) hx hb dX1_numberU_1 (by decide) ?_
  refine lv_iand hx hb dX1_numberU_4 ?_
  exact W.iret (v := p0 &&& (-4096 : Int32)) hx hb hr (fun t ht hW => ⟨congrArg (fun z => Outcome.returned (some (Value.int z))) rfl, ht⟩) (fun q h => nomatch h) dX1_numberU_5
def fX3_holds (p0 : Int32) : Bool := if p0 < 0 then
    false
  else
    if (4096 : Int32) ≤ p0 then
      false
    else
      true
set_option maxHeartbeats 4000000 in
set_option maxRecDepth 100000 in
theorem mX3_holds (l : Launch) (p0 : Int32) : Met l yX3_holds wsX3_holds ({ frames := 0, cells := 0, slots := 0, locals := 0 }) (va_Pc [.int p0] (fun _ => True)) (QcRead (bi (fX3_holds p0))) 0 0 (fun _ => False) := by
  refine Met.ofW (cc := cX3_holds) (maxL := 1) (ret := (some .boolean)) (by decide) rfl ?_
  intro p e s m args below meth c s₁ B hml hv
  obtain ⟨rfl, -⟩ := hv
  have hx := B.exec
  have hb := B.bytes
  have hr := B.returns
  have hB := fun (w : Cond) (h : w ∈ BIG) => atoms_spec (ws := wsX3_holds) B.pre w (List.mem_cons_of_mem _ h)
  have hown : s.vm.findClass RX3 = some m.cls := findClass_of_methodNamed B.named
  have hlocks := B.notSynchronized
  have hl := lv_entry ([.int p0]) (n := 1) (Nat.le_of_ble_eq_true rfl)
  rw [lg_entry_eq]
  generalize (lg_sl ([.int p0]) ++ List.replicate (1 - (lg_sl ([.int p0])).length) Slot.unset).toArray = ls at hl ⊢
  have hl : lv_has ls 1 [(0, .int p0)] := hl
  refine lv_iload_n hx hb dX3_holds_0 rfl (lv_at hl 0 rfl) ?_
  refine lv_if_lt (tgt := 15) hx hb dX3_holds_1 (by decide) (fun c_1 => ?_) (fun c_1 => ?_)
  · refine lv_iconst (v := 0) hx hb dX3_holds_15 (by decide) ?_
    exact W.zret (v := 0) hx hb hr rfl (fun t ht hW => ⟨congrArg (fun z => Outcome.returned (some (Value.int z))) (by unfold fX3_holds; rw [if_pos c_1] <;> rfl), ht⟩) (fun q h => nomatch h) dX3_holds_16
  · refine lv_iload_n hx hb dX3_holds_4 rfl (lv_at hl 0 rfl) ?_
    refine lv_sipush (v := 4096) hx hb dX3_holds_5 (by decide) ?_
    refine lv_icmp_ge (tgt := 15) hx hb dX3_holds_8 (by decide) (fun c_8 => ?_) (fun c_8 => ?_)
    · refine lv_iconst (v := 0) hx hb dX3_holds_15 (by decide) ?_
      exact W.zret (v := 0) hx hb hr rfl (fun t ht hW => ⟨congrArg (fun z => Outcome.returned (some (Value.int z))) (by unfold fX3_holds; rw [if_neg c_1, if_pos c_8] <;> rfl), ht⟩) (fun q h => nomatch h) dX3_holds_16
    · refine lv_iconst (v := 1) hx hb dX3_holds_11 (by decide) ?_
      refine lv_goto (tgt := 16) hx hb dX3_holds_12 (by decide) ?_
      exact W.zret (v := 1) hx hb hr rfl (fun t ht hW => ⟨congrArg (fun z => Outcome.returned (some (Value.int z))) (by unfold fX3_holds; rw [if_neg c_1, if_neg c_8] <;> rfl), ht⟩) (fun q h => nomatch h) dX3_holds_16
def fX3_isWordAddress (p0 : Int32) : Bool := if (bi (fX3_holds p0)) = 0 then
    false
  else
    if (p0 &&& (3 : Int32)) = 0 then
      true
    else
      false
set_option maxHeartbeats 4000000 in
set_option maxRecDepth 100000 in
theorem mX3_isWordAddress (l : Launch) (p0 : Int32) : Met l yX3_isWordAddress wsX3_isWordAddress ({ frames := 1, cells := 0, slots := 0, locals := 20 }) (va_Pc [.int p0] (fun _ => True)) (QcRead (bi (fX3_isWordAddress p0))) 0 0 (fun _ => False) := by
  refine Met.ofW (cc := cX3_isWordAddress) (maxL := 1) (ret := (some .boolean)) (by decide) rfl ?_
  intro p e s m args below meth c s₁ B hml hv
  obtain ⟨rfl, -⟩ := hv
  have hx := B.exec
  have hb := B.bytes
  have hr := B.returns
  have hB := fun (w : Cond) (h : w ∈ BIG) => atoms_spec (ws := wsX3_isWordAddress) B.pre w (List.mem_cons_of_mem _ h)
  have hown : s.vm.findClass RX3 = some m.cls := findClass_of_methodNamed B.named
  have hlocks := B.notSynchronized
  have hl := lv_entry ([.int p0]) (n := 1) (Nat.le_of_ble_eq_true rfl)
  rw [lg_entry_eq]
  generalize (lg_sl ([.int p0]) ++ List.replicate (1 - (lg_sl ([.int p0])).length) Slot.unset).toArray = ls at hl ⊢
  have hl : lv_has ls 1 [(0, .int p0)] := hl
  refine lv_iload_n hx hb dX3_isWordAddress_0 rfl (lv_at hl 0 rfl) ?_
  refine k_ri (va_runS (As := [.int p0]) (rest := []) ⟨hx, hb, hml, hown, hB⟩ (mX3_holds l p0) (va_cwS 1 hB (gS q_t1_99 q_t1_100 q_t1_2 wX3_holds) rfl rfl rfl hX3_holds.2 ⟨Nat.le_of_ble_eq_true rfl, Nat.le_of_ble_eq_true rfl⟩) ⟨fun _ _ _ _ q => q, fun U _ _ => ⟨rfl, trivial⟩⟩ rfl rfl hl.1 rfl (lv_room (Nat.le_of_ble_eq_true rfl)) dX3_isWordAddress_1 ⟨Nat.zero_le _, Nat.zero_le _⟩) ?_
  refine lv_if_eq (tgt := 17) hx hb dX3_isWordAddress_4 (by decide) (fun c_4 => ?_) (fun c_4 => ?_)
  · refine lv_iconst (v := 0) hx hb dX3_isWordAddress_17 (by decide) ?_
    exact W.zret (v := 0) hx hb hr rfl (fun t ht hW => ⟨congrArg (fun z => Outcome.returned (some (Value.int z))) (by unfold fX3_isWordAddress; rw [if_pos c_4] <;> rfl), ht⟩) (fun q h => nomatch h) dX3_isWordAddress_18
  · refine lv_iload_n hx hb dX3_isWordAddress_7 rfl (lv_at hl 0 rfl) ?_
    refine lv_iconst (v := 3) hx hb dX3_isWordAddress_8 (by decide) ?_
    refine lv_iand hx hb dX3_isWordAddress_9 ?_
    refine lv_if_ne (tgt := 17) hx hb dX3_isWordAddress_10 (by decide) (fun c_10 => ?_) (fun c_10 => ?_)
    · refine lv_iconst (v := 0) hx hb dX3_isWordAddress_17 (by decide) ?_
      exact W.zret (v := 0) hx hb hr rfl (fun t ht hW => ⟨congrArg (fun z => Outcome.returned (some (Value.int z))) (by unfold fX3_isWordAddress; rw [if_neg c_4, if_neg c_10] <;> rfl), ht⟩) (fun q h => nomatch h) dX3_isWordAddress_18
    · refine lv_iconst (v := 1) hx hb dX3_isWordAddress_13 (by decide) ?_
      refine lv_goto (tgt := 18) hx hb dX3_isWordAddress_14 (by decide) ?_
      exact W.zret (v := 1) hx hb hr rfl (fun t ht hW => ⟨congrArg (fun z => Outcome.returned (some (Value.int z))) (by unfold fX3_isWordAddress; rw [if_neg c_4, if_pos c_10] <;> rfl), ht⟩) (fun q h => nomatch h) dX3_isWordAddress_18
def fX3_isBy (p0 : Int32) (p1 : Int32) : Bool := if (p0 &&& (((1 : Int32) <<< (p1 &&& 31)) - (1 : Int32))) = 0 then
    true
  else
    false
set_option maxHeartbeats 4000000 in
set_option maxRecDepth 100000 in
theorem mX3_isBy (l : Launch) (p0 : Int32) (p1 : Int32) : Met l yX3_isBy wsX3_isBy ({ frames := 0, cells := 0, slots := 0, locals := 0 }) (va_Pc [.int p0, .int p1] (fun _ => True)) (QcRead (bi (fX3_isBy p0 p1))) 0 0 (fun _ => False) := by
  refine Met.ofW (cc := cX3_isBy) (maxL := 2) (ret := (some .boolean)) (by decide) rfl ?_
  intro p e s m args below meth c s₁ B hml hv
  obtain ⟨rfl, -⟩ := hv
  have hx := B.exec
  have hb := B.bytes
  have hr := B.returns
  have hB := fun (w : Cond) (h : w ∈ BIG) => atoms_spec (ws := wsX3_isBy) B.pre w (List.mem_cons_of_mem _ h)
  have hown : s.vm.findClass RX3 = some m.cls := findClass_of_methodNamed B.named
  have hlocks := B.notSynchronized
  have hl := lv_entry ([.int p0, .int p1]) (n := 2) (Nat.le_of_ble_eq_true rfl)
  rw [lg_entry_eq]
  generalize (lg_sl ([.int p0, .int p1]) ++ List.replicate (2 - (lg_sl ([.int p0, .int p1])).length) Slot.unset).toArray = ls at hl ⊢
  have hl : lv_has ls 2 [(0, .int p0), (1, .int p1)] := hl
  refine lv_iload_n hx hb dX3_isBy_0 rfl (lv_at hl 0 rfl) ?_
  refine lv_iconst (v := 1) hx hb dX3_isBy_1 (by decide) ?_
  refine lv_iload_n hx hb dX3_isBy_2 rfl (lv_at hl 1 rfl) ?_
  refine lv_ishl hx hb dX3_isBy_3 ?_
  refine lv_iconst (v := 1) hx hb dX3_isBy_4 (by decide) ?_
  refine lv_isub hx hb dX3_isBy_5 ?_
  refine lv_iand hx hb dX3_isBy_6 ?_
  refine lv_if_ne (tgt := 14) hx hb dX3_isBy_7 (by decide) (fun c_7 => ?_) (fun c_7 => ?_)
  · refine lv_iconst (v := 0) hx hb dX3_isBy_14 (by decide) ?_
    exact W.zret (v := 0) hx hb hr rfl (fun t ht hW => ⟨congrArg (fun z => Outcome.returned (some (Value.int z))) (by unfold fX3_isBy; rw [if_neg c_7] <;> rfl), ht⟩) (fun q h => nomatch h) dX3_isBy_15
  · refine lv_iconst (v := 1) hx hb dX3_isBy_10 (by decide) ?_
    refine lv_goto (tgt := 15) hx hb dX3_isBy_11 (by decide) ?_
    exact W.zret (v := 1) hx hb hr rfl (fun t ht hW => ⟨congrArg (fun z => Outcome.returned (some (Value.int z))) (by unfold fX3_isBy; rw [if_pos c_7] <;> rfl), ht⟩) (fun q h => nomatch h) dX3_isBy_15
def fX3_shift (p0 : Int32) : Int32 := (p0 &&& (3 : Int32)) * (8 : Int32)
set_option maxHeartbeats 4000000 in
set_option maxRecDepth 100000 in
theorem mX3_shift (l : Launch) (p0 : Int32) : Met l yX3_shift wsX3_shift ({ frames := 0, cells := 0, slots := 0, locals := 0 }) (va_Pc [.int p0] (fun _ => True)) (QcRead ((fX3_shift p0))) 0 0 (fun _ => False) := by
  refine Met.ofW (cc := cX3_shift) (maxL := 1) (ret := (some .int)) (by decide) rfl ?_
  intro p e s m args below meth c s₁ B hml hv
  obtain ⟨rfl, -⟩ := hv
  have hx := B.exec
  have hb := B.bytes
  have hr := B.returns
  have hB := fun (w : Cond) (h : w ∈ BIG) => atoms_spec (ws := wsX3_shift) B.pre w (List.mem_cons_of_mem _ h)
  have hown : s.vm.findClass RX3 = some m.cls := findClass_of_methodNamed B.named
  have hlocks := B.notSynchronized
  have hl := lv_entry ([.int p0]) (n := 1) (Nat.le_of_ble_eq_true rfl)
  rw [lg_entry_eq]
  generalize (lg_sl ([.int p0]) ++ List.replicate (1 - (lg_sl ([.int p0])).length) Slot.unset).toArray = ls at hl ⊢
  have hl : lv_has ls 1 [(0, .int p0)] := hl
  refine lv_iload_n hx hb dX3_shift_0 rfl (lv_at hl 0 rfl) ?_
  refine lv_iconst (v := 3) hx hb dX3_shift_1 (by decide) ?_
  refine lv_iand hx hb dX3_shift_2 ?_
  refine lv_bipush (v := 8) hx hb dX3_shift_3 (by decide) ?_
  refine lv_imul hx hb dX3_shift_5 ?_
  exact W.iret (v := (p0 &&& (3 : Int32)) * (8 : Int32)) hx hb hr (fun t ht hW => ⟨congrArg (fun z => Outcome.returned (some (Value.int z))) rfl, ht⟩) (fun q h => nomatch h) dX3_shift_6
def fX3_partMask (p0 : Int32) : Int32 := if p0 = (0 : Int32) then
    (255 : Int32)
  else
    if p0 = (1 : Int32) then
      (65535 : Int32)
    else
      (-1 : Int32)
set_option maxHeartbeats 4000000 in
set_option maxRecDepth 100000 in
theorem mX3_partMask (l : Launch) (p0 : Int32) : Met l yX3_partMask wsX3_partMask ({ frames := 0, cells := 0, slots := 0, locals := 0 }) (va_Pc [.int p0] (fun _ => True)) (QcRead ((fX3_partMask p0))) 0 0 (fun _ => False) := by
  refine Met.ofW (cc := cX3_partMask) (maxL := 1) (ret := (some .int)) (by decide) rfl ?_
  intro p e s m args below meth c s₁ B hml hv
  obtain ⟨rfl, -⟩ := hv
  have hx := B.exec
  have hb := B.bytes
  have hr := B.returns
  have hB := fun (w : Cond) (h : w ∈ BIG) => atoms_spec (ws := wsX3_partMask) B.pre w (List.mem_cons_of_mem _ h)
  have hown : s.vm.findClass RX3 = some m.cls := findClass_of_methodNamed B.named
  have hlocks := B.notSynchronized
  have hl := lv_entry ([.int p0]) (n := 1) (Nat.le_of_ble_eq_true rfl)
  rw [lg_entry_eq]
  generalize (lg_sl ([.int p0]) ++ List.replicate (1 - (lg_sl ([.int p0])).length) Slot.unset).toArray = ls at hl ⊢
  have hl : lv_has ls 1 [(0, .int p0)] := hl
  refine lv_iload_n hx hb dX3_partMask_0 rfl (lv_at hl 0 rfl) ?_
  by_cases c_1_0 : p0 = (0 : Int32)
  · refine lv_lookup (off := 27) (tgt := 28) hx hb dX3_partMask_1 (by decide) (by rw [c_1_0]; decide) (by decide) ?_
    refine lv_sipush (v := 255) hx hb dX3_partMask_28 (by decide) ?_
    exact W.iret (v := (255 : Int32)) hx hb hr (fun t ht hW => ⟨congrArg (fun z => Outcome.returned (some (Value.int z))) (by unfold fX3_partMask; rw [if_pos c_1_0] <;> rfl), ht⟩) (fun q h => nomatch h) dX3_partMask_31
  by_cases c_1_1 : p0 = (1 : Int32)
  · refine lv_lookup (off := 31) (tgt := 32) hx hb dX3_partMask_1 (by decide) (by rw [c_1_1]; decide) (by decide) ?_
    refine lv_ldc (v := 65535) hx hb hown (hB _ q_t2_112) dX3_partMask_32 ?_
    exact W.iret (v := (65535 : Int32)) hx hb hr (fun t ht hW => ⟨congrArg (fun z => Outcome.returned (some (Value.int z))) (by unfold fX3_partMask; rw [if_neg c_1_0, if_pos c_1_1] <;> rfl), ht⟩) (fun q h => nomatch h) dX3_partMask_34
  refine lv_lookup (off := 34) (tgt := 35) hx hb dX3_partMask_1 (by decide) ((lv_osw c_1_0 (by decide)).trans ((lv_osw c_1_1 (by decide)).trans rfl)) (by decide) ?_
  refine lv_iconst (v := -1) hx hb dX3_partMask_35 (by decide) ?_
  exact W.iret (v := (-1 : Int32)) hx hb hr (fun t ht hW => ⟨congrArg (fun z => Outcome.returned (some (Value.int z))) (by unfold fX3_partMask; rw [if_neg c_1_0, if_neg c_1_1] <;> rfl), ht⟩) (fun q h => nomatch h) dX3_partMask_36
def fX2_isWritable (p0 : Int32) : Bool := if p0 = (768 : Int32) then
    true
  else
    if p0 = (772 : Int32) then
      true
    else
      if p0 = (773 : Int32) then
        true
      else
        if p0 = (832 : Int32) then
          true
        else
          if p0 = (833 : Int32) then
            true
          else
            if p0 = (834 : Int32) then
              true
            else
              if p0 = (835 : Int32) then
                true
              else
                false
set_option maxHeartbeats 4000000 in
set_option maxRecDepth 100000 in
theorem mX2_isWritable (l : Launch) (p0 : Int32) : Met l yX2_isWritable wsX2_isWritable ({ frames := 0, cells := 0, slots := 0, locals := 0 }) (va_Pc [.int p0] (fun _ => True)) (QcRead (bi (fX2_isWritable p0))) 0 0 (fun _ => False) := by
  refine Met.ofW (cc := cX2_isWritable) (maxL := 1) (ret := (some .boolean)) (by decide) rfl ?_
  intro p e s m args below meth c s₁ B hml hv
  obtain ⟨rfl, -⟩ := hv
  have hx := B.exec
  have hb := B.bytes
  have hr := B.returns
  have hB := fun (w : Cond) (h : w ∈ BIG) => atoms_spec (ws := wsX2_isWritable) B.pre w (List.mem_cons_of_mem _ h)
  have hown : s.vm.findClass RX2 = some m.cls := findClass_of_methodNamed B.named
  have hlocks := B.notSynchronized
  have hl := lv_entry ([.int p0]) (n := 1) (Nat.le_of_ble_eq_true rfl)
  rw [lg_entry_eq]
  generalize (lg_sl ([.int p0]) ++ List.replicate (1 - (lg_sl ([.int p0])).length) Slot.unset).toArray = ls at hl ⊢
  have hl : lv_has ls 1 [(0, .int p0)] := hl
  refine lv_iload_n hx hb dX2_isWritable_0 rfl (lv_at hl 0 rfl) ?_
  by_cases c_1_768 : p0 = (768 : Int32)
  · refine lv_lookup (off := 67) (tgt := 68) hx hb dX2_isWritable_1 (by decide) (by rw [c_1_768]; decide) (by decide) ?_
    refine lv_iconst (v := 1) hx hb dX2_isWritable_68 (by decide) ?_
    exact W.zret (v := 1) hx hb hr rfl (fun t ht hW => ⟨congrArg (fun z => Outcome.returned (some (Value.int z))) (by unfold fX2_isWritable; rw [if_pos c_1_768] <;> rfl), ht⟩) (fun q h => nomatch h) dX2_isWritable_69
  by_cases c_1_772 : p0 = (772 : Int32)
  · refine lv_lookup (off := 67) (tgt := 68) hx hb dX2_isWritable_1 (by decide) (by rw [c_1_772]; decide) (by decide) ?_
    refine lv_iconst (v := 1) hx hb dX2_isWritable_68 (by decide) ?_
    exact W.zret (v := 1) hx hb hr rfl (fun t ht hW => ⟨congrArg (fun z => Outcome.returned (some (Value.int z))) (by unfold fX2_isWritable; rw [if_neg c_1_768, if_pos c_1_772] <;> rfl), ht⟩) (fun q h => nomatch h) dX2_isWritable_69
  by_cases c_1_773 : p0 = (773 : Int32)
  · refine lv_lookup (off := 67) (tgt := 68) hx hb dX2_isWritable_1 (by decide) (by rw [c_1_773]; decide) (by decide) ?_
    refine lv_iconst (v := 1) hx hb dX2_isWritable_68 (by decide) ?_
    exact W.zret (v := 1) hx hb hr rfl (fun t ht hW => ⟨congrArg (fun z => Outcome.returned (some (Value.int z))) (by unfold fX2_isWritable; rw [if_neg c_1_768, if_neg c_1_772, if_pos c_1_773] <;> rfl), ht⟩) (fun q h => nomatch h) dX2_isWritable_69
  by_cases c_1_832 : p0 = (832 : Int32)
  · refine lv_lookup (off := 67) (tgt := 68) hx hb dX2_isWritable_1 (by decide) (by rw [c_1_832]; decide) (by decide) ?_
    refine lv_iconst (v := 1) hx hb dX2_isWritable_68 (by decide) ?_
    exact W.zret (v := 1) hx hb hr rfl (fun t ht hW => ⟨congrArg (fun z => Outcome.returned (some (Value.int z))) (by unfold fX2_isWritable; rw [if_neg c_1_768, if_neg c_1_772, if_neg c_1_773, if_pos c_1_832] <;> rfl), ht⟩) (fun q h => nomatch h) dX2_isWritable_69
  by_cases c_1_833 : p0 = (833 : Int32)
  · refine lv_lookup (off := 67) (tgt := 68) hx hb dX2_isWritable_1 (by decide) (by rw [c_1_833]; decide) (by decide) ?_
    refine lv_iconst (v := 1) hx hb dX2_isWritable_68 (by decide) ?_
    exact W.zret (v := 1) hx hb hr rfl (fun t ht hW => ⟨congrArg (fun z => Outcome.returned (some (Value.int z))) (by unfold fX2_isWritable; rw [if_neg c_1_768, if_neg c_1_772, if_neg c_1_773, if_neg c_1_832, if_pos c_1_833] <;> rfl), ht⟩) (fun q h => nomatch h) dX2_isWritable_69
  by_cases c_1_834 : p0 = (834 : Int32)
  · refine lv_lookup (off := 67) (tgt := 68) hx hb dX2_isWritable_1 (by decide) (by rw [c_1_834]; decide) (by decide) ?_
    refine lv_iconst (v := 1) hx hb dX2_isWritable_68 (by decide) ?_
    exact W.zret (v := 1) hx hb hr rfl (fun t ht hW => ⟨congrArg (fun z => Outcome.returned (some (Value.int z))) (by unfold fX2_isWritable; rw [if_neg c_1_768, if_neg c_1_772, if_neg c_1_773, if_neg c_1_832, if_neg c_1_833, if_pos c_1_834] <;> rfl), ht⟩) (fun q h => nomatch h) dX2_isWritable_69
  by_cases c_1_835 : p0 = (835 : Int32)
  · refine lv_lookup (off := 67) (tgt := 68) hx hb dX2_isWritable_1 (by decide) (by rw [c_1_835]; decide) (by decide) ?_
    refine lv_iconst (v := 1) hx hb dX2_isWritable_68 (by decide) ?_
    exact W.zret (v := 1) hx hb hr rfl (fun t ht hW => ⟨congrArg (fun z => Outcome.returned (some (Value.int z))) (by unfold fX2_isWritable; rw [if_neg c_1_768, if_neg c_1_772, if_neg c_1_773, if_neg c_1_832, if_neg c_1_833, if_neg c_1_834, if_pos c_1_835] <;> rfl), ht⟩) (fun q h => nomatch h) dX2_isWritable_69
  refine lv_lookup (off := 69) (tgt := 70) hx hb dX2_isWritable_1 (by decide) ((lv_osw c_1_768 (by decide)).trans ((lv_osw c_1_772 (by decide)).trans ((lv_osw c_1_773 (by decide)).trans ((lv_osw c_1_832 (by decide)).trans ((lv_osw c_1_833 (by decide)).trans ((lv_osw c_1_834 (by decide)).trans ((lv_osw c_1_835 (by decide)).trans rfl))))))) (by decide) ?_
  refine lv_iconst (v := 0) hx hb dX2_isWritable_70 (by decide) ?_
  exact W.zret (v := 0) hx hb hr rfl (fun t ht hW => ⟨congrArg (fun z => Outcome.returned (some (Value.int z))) (by unfold fX2_isWritable; rw [if_neg c_1_768, if_neg c_1_772, if_neg c_1_773, if_neg c_1_832, if_neg c_1_833, if_neg c_1_834, if_neg c_1_835] <;> rfl), ht⟩) (fun q h => nomatch h) dX2_isWritable_71
def fX2_isKnown (p0 : Int32) : Bool := if (bi (fX2_isWritable p0)) = 0 then
    if p0 = (836 : Int32) then
      true
    else
      if p0 = (2816 : Int32) then
        true
      else
        false
  else
    true
set_option maxHeartbeats 4000000 in
set_option maxRecDepth 100000 in
theorem mX2_isKnown (l : Launch) (p0 : Int32) : Met l yX2_isKnown wsX2_isKnown ({ frames := 1, cells := 0, slots := 0, locals := 20 }) (va_Pc [.int p0] (fun _ => True)) (QcRead (bi (fX2_isKnown p0))) 0 0 (fun _ => False) := by
  refine Met.ofW (cc := cX2_isKnown) (maxL := 1) (ret := (some .boolean)) (by decide) rfl ?_
  intro p e s m args below meth c s₁ B hml hv
  obtain ⟨rfl, -⟩ := hv
  have hx := B.exec
  have hb := B.bytes
  have hr := B.returns
  have hB := fun (w : Cond) (h : w ∈ BIG) => atoms_spec (ws := wsX2_isKnown) B.pre w (List.mem_cons_of_mem _ h)
  have hown : s.vm.findClass RX2 = some m.cls := findClass_of_methodNamed B.named
  have hlocks := B.notSynchronized
  have hl := lv_entry ([.int p0]) (n := 1) (Nat.le_of_ble_eq_true rfl)
  rw [lg_entry_eq]
  generalize (lg_sl ([.int p0]) ++ List.replicate (1 - (lg_sl ([.int p0])).length) Slot.unset).toArray = ls at hl ⊢
  have hl : lv_has ls 1 [(0, .int p0)] := hl
  refine lv_iload_n hx hb dX2_isKnown_0 rfl (lv_at hl 0 rfl) ?_
  refine k_ri (va_runS (As := [.int p0]) (rest := []) ⟨hx, hb, hml, hown, hB⟩ (mX2_isWritable l p0) (va_cwS 1 hB (gS q_t2_173 q_t2_168 q_t1_3 wX2_isWritable) rfl rfl rfl hX2_isWritable.2 ⟨Nat.le_of_ble_eq_true rfl, Nat.le_of_ble_eq_true rfl⟩) ⟨fun _ _ _ _ q => q, fun U _ _ => ⟨rfl, trivial⟩⟩ rfl rfl hl.1 rfl (lv_room (Nat.le_of_ble_eq_true rfl)) dX2_isKnown_1 ⟨Nat.zero_le _, Nat.zero_le _⟩) ?_
  refine lv_if_ne (tgt := 21) hx hb dX2_isKnown_4 (by decide) (fun c_4 => ?_) (fun c_4 => ?_)
  · refine lv_iconst (v := 1) hx hb dX2_isKnown_21 (by decide) ?_
    refine lv_goto (tgt := 26) hx hb dX2_isKnown_22 (by decide) ?_
    exact W.zret (v := 1) hx hb hr rfl (fun t ht hW => ⟨congrArg (fun z => Outcome.returned (some (Value.int z))) (by unfold fX2_isKnown; rw [if_neg c_4] <;> rfl), ht⟩) (fun q h => nomatch h) dX2_isKnown_26
  · refine lv_iload_n hx hb dX2_isKnown_7 rfl (lv_at hl 0 rfl) ?_
    refine lv_sipush (v := 836) hx hb dX2_isKnown_8 (by decide) ?_
    refine lv_icmp_eq (tgt := 21) hx hb dX2_isKnown_11 (by decide) (fun c_11 => ?_) (fun c_11 => ?_)
    · refine lv_iconst (v := 1) hx hb dX2_isKnown_21 (by decide) ?_
      refine lv_goto (tgt := 26) hx hb dX2_isKnown_22 (by decide) ?_
      exact W.zret (v := 1) hx hb hr rfl (fun t ht hW => ⟨congrArg (fun z => Outcome.returned (some (Value.int z))) (by unfold fX2_isKnown; rw [if_pos c_4, if_pos c_11] <;> rfl), ht⟩) (fun q h => nomatch h) dX2_isKnown_26
    · refine lv_iload_n hx hb dX2_isKnown_14 rfl (lv_at hl 0 rfl) ?_
      refine lv_sipush (v := 2816) hx hb dX2_isKnown_15 (by decide) ?_
      refine lv_icmp_ne (tgt := 25) hx hb dX2_isKnown_18 (by decide) (fun c_18 => ?_) (fun c_18 => ?_)
      · refine lv_iconst (v := 0) hx hb dX2_isKnown_25 (by decide) ?_
        exact W.zret (v := 0) hx hb hr rfl (fun t ht hW => ⟨congrArg (fun z => Outcome.returned (some (Value.int z))) (by unfold fX2_isKnown; rw [if_pos c_4, if_neg c_11, if_neg c_18] <;> rfl), ht⟩) (fun q h => nomatch h) dX2_isKnown_26
      · refine lv_iconst (v := 1) hx hb dX2_isKnown_21 (by decide) ?_
        refine lv_goto (tgt := 26) hx hb dX2_isKnown_22 (by decide) ?_
        exact W.zret (v := 1) hx hb hr rfl (fun t ht hW => ⟨congrArg (fun z => Outcome.returned (some (Value.int z))) (by unfold fX2_isKnown; rw [if_pos c_4, if_neg c_11, if_pos c_18] <;> rfl), ht⟩) (fun q h => nomatch h) dX2_isKnown_26
end
section
def fX0_isBelow (p0 : Int32) (p1 : Int32) : Bool := if 0 ≤ (lg_cmp (p0.toInt64 &&& (4294967295 : Int64)) (p1.toInt64 &&& (4294967295 : Int64))) then
    false
  else
    true
set_option maxHeartbeats 4000000 in
set_option maxRecDepth 100000 in
theorem mX0_isBelow (l : Launch) (p0 : Int32) (p1 : Int32) : Met l yX0_isBelow wsX0_isBelow ({ frames := 0, cells := 0, slots := 0, locals := 0 }) (va_Pc [.int p0, .int p1] (fun _ => True)) (QcRead (bi (fX0_isBelow p0 p1))) 0 0 (fun _ => False) := by
  refine Met.ofW (cc := cX0_isBelow) (maxL := 2) (ret := (some .boolean)) (by decide) rfl ?_
  intro p e s m args below meth c s₁ B hml hv
  obtain ⟨rfl, -⟩ := hv
  have hx := B.exec
  have hb := B.bytes
  have hr := B.returns
  have hB := fun (w : Cond) (h : w ∈ BIG) => atoms_spec (ws := wsX0_isBelow) B.pre w (List.mem_cons_of_mem _ h)
  have hown : s.vm.findClass RX0 = some m.cls := findClass_of_methodNamed B.named
  have hlocks := B.notSynchronized
  have hl := lv_entry ([.int p0, .int p1]) (n := 2) (Nat.le_of_ble_eq_true rfl)
  rw [lg_entry_eq]
  generalize (lg_sl ([.int p0, .int p1]) ++ List.replicate (2 - (lg_sl ([.int p0, .int p1])).length) Slot.unset).toArray = ls at hl ⊢
  have hl : lv_has ls 2 [(0, .int p0), (1, .int p1)] := hl
  refine lv_iload_n hx hb dX0_isBelow_0 rfl (lv_at hl 0 rfl) ?_
  refine lv_i2l (v := p0.toInt64) hx hb dX0_isBelow_1 rfl ?_
  refine lv_ldc2 (v := 4294967295) hx hb hown (hB _ q_t2_93) dX0_isBelow_2 ?_
  refine lv_land hx hb dX0_isBelow_5 ?_
  refine lv_iload_n hx hb dX0_isBelow_6 rfl (lv_at hl 1 rfl) ?_
  refine lv_i2l (v := p1.toInt64) hx hb dX0_isBelow_7 rfl ?_
  refine lv_ldc2 (v := 4294967295) hx hb hown (hB _ q_t2_93) dX0_isBelow_8 ?_
  refine lv_land hx hb dX0_isBelow_11 ?_
  refine W.lcmp hx hb dX0_isBelow_12 ?_
  refine lv_if_ge (tgt := 20) hx hb dX0_isBelow_13 (by decide) (fun c_13 => ?_) (fun c_13 => ?_)
  · refine lv_iconst (v := 0) hx hb dX0_isBelow_20 (by decide) ?_
    exact W.zret (v := 0) hx hb hr rfl (fun t ht hW => ⟨congrArg (fun z => Outcome.returned (some (Value.int z))) (by unfold fX0_isBelow; rw [if_pos c_13] <;> rfl), ht⟩) (fun q h => nomatch h) dX0_isBelow_21
  · refine lv_iconst (v := 1) hx hb dX0_isBelow_16 (by decide) ?_
    refine lv_goto (tgt := 21) hx hb dX0_isBelow_17 (by decide) ?_
    exact W.zret (v := 1) hx hb hr rfl (fun t ht hW => ⟨congrArg (fun z => Outcome.returned (some (Value.int z))) (by unfold fX0_isBelow; rw [if_neg c_13] <;> rfl), ht⟩) (fun q h => nomatch h) dX0_isBelow_21
def fX0_holds (p0 : Int32) (p1 : Int32) (p2 : Int32) : Bool := if p0 = (0 : Int32) then
    if p1 = p2 then
      true
    else
      false
  else
    if p0 = (1 : Int32) then
      if p1 = p2 then
        false
      else
        true
    else
      if p0 = (2 : Int32) then
        if (bi (fX0_isBelow p1 p2)) = 0 then
          true
        else
          false
      else
        if p0 = (3 : Int32) then
          if (bi (fX0_isBelow p1 p2)) = 0 then
            true
          else
            false
        else
          if p0 = (4 : Int32) then
            if p2 ≤ p1 then
              false
            else
              true
          else
            if p0 = (5 : Int32) then
              if p1 < p2 then
                false
              else
                true
            else
              if p0 = (6 : Int32) then
                fX0_isBelow p1 p2
              else
                if (bi (fX0_isBelow p1 p2)) = 0 then
                  true
                else
                  false
set_option maxHeartbeats 4000000 in
set_option maxRecDepth 100000 in
theorem mX0_holds (l : Launch) (p0 : Int32) (p1 : Int32) (p2 : Int32) : Met l yX0_holds wsX0_holds ({ frames := 1, cells := 0, slots := 0, locals := 21 }) (va_Pc [.int p0, .int p1, .int p2] (fun _ => True)) (QcRead (bi (fX0_holds p0 p1 p2))) 0 0 (fun _ => False) := by
  refine Met.ofW (cc := cX0_holds) (maxL := 3) (ret := (some .boolean)) (by decide) rfl ?_
  intro p e s m args below meth c s₁ B hml hv
  obtain ⟨rfl, -⟩ := hv
  have hx := B.exec
  have hb := B.bytes
  have hr := B.returns
  have hB := fun (w : Cond) (h : w ∈ BIG) => atoms_spec (ws := wsX0_holds) B.pre w (List.mem_cons_of_mem _ h)
  have hown : s.vm.findClass RX0 = some m.cls := findClass_of_methodNamed B.named
  have hlocks := B.notSynchronized
  have hl := lv_entry ([.int p0, .int p1, .int p2]) (n := 3) (Nat.le_of_ble_eq_true rfl)
  rw [lg_entry_eq]
  generalize (lg_sl ([.int p0, .int p1, .int p2]) ++ List.replicate (3 - (lg_sl ([.int p0, .int p1, .int p2])).length) Slot.unset).toArray = ls at hl ⊢
  have hl : lv_has ls 3 [(0, .int p0), (1, .int p1), (2, .int p2)] := hl
  refine lv_iload_n hx hb dX0_holds_0 rfl (lv_at hl 0 rfl) ?_
  by_cases c_1_0 : p0 = (0 : Int32)
  · refine lv_tableIn (off := 43) (tgt := 44) hx hb dX0_holds_1 (by rw [c_1_0]; decide) (by rw [c_1_0]; decide) (by rw [c_1_0]; rfl) (by decide) ?_
    refine lv_iload_n hx hb dX0_holds_44 rfl (lv_at hl 1 rfl) ?_
    refine lv_iload_n hx hb dX0_holds_45 rfl (lv_at hl 2 rfl) ?_
    refine lv_icmp_ne (tgt := 53) hx hb dX0_holds_46 (by decide) (fun c_46 => ?_) (fun c_46 => ?_)
    · refine lv_iconst (v := 0) hx hb dX0_holds_53 (by decide) ?_
      exact W.zret (v := 0) hx hb hr rfl (fun t ht hW => ⟨congrArg (fun z => Outcome.returned (some (Value.int z))) (by unfold fX0_holds; rw [if_pos c_1_0, if_neg c_46] <;> rfl), ht⟩) (fun q h => nomatch h) dX0_holds_54
    · refine lv_iconst (v := 1) hx hb dX0_holds_49 (by decide) ?_
      refine lv_goto (tgt := 54) hx hb dX0_holds_50 (by decide) ?_
      exact W.zret (v := 1) hx hb hr rfl (fun t ht hW => ⟨congrArg (fun z => Outcome.returned (some (Value.int z))) (by unfold fX0_holds; rw [if_pos c_1_0, if_pos c_46] <;> rfl), ht⟩) (fun q h => nomatch h) dX0_holds_54
  by_cases c_1_1 : p0 = (1 : Int32)
  · refine lv_tableIn (off := 54) (tgt := 55) hx hb dX0_holds_1 (by rw [c_1_1]; decide) (by rw [c_1_1]; decide) (by rw [c_1_1]; rfl) (by decide) ?_
    refine lv_iload_n hx hb dX0_holds_55 rfl (lv_at hl 1 rfl) ?_
    refine lv_iload_n hx hb dX0_holds_56 rfl (lv_at hl 2 rfl) ?_
    refine lv_icmp_eq (tgt := 64) hx hb dX0_holds_57 (by decide) (fun c_57 => ?_) (fun c_57 => ?_)
    · refine lv_iconst (v := 0) hx hb dX0_holds_64 (by decide) ?_
      exact W.zret (v := 0) hx hb hr rfl (fun t ht hW => ⟨congrArg (fun z => Outcome.returned (some (Value.int z))) (by unfold fX0_holds; rw [if_neg c_1_0, if_pos c_1_1, if_pos c_57] <;> rfl), ht⟩) (fun q h => nomatch h) dX0_holds_65
    · refine lv_iconst (v := 1) hx hb dX0_holds_60 (by decide) ?_
      refine lv_goto (tgt := 65) hx hb dX0_holds_61 (by decide) ?_
      exact W.zret (v := 1) hx hb hr rfl (fun t ht hW => ⟨congrArg (fun z => Outcome.returned (some (Value.int z))) (by unfold fX0_holds; rw [if_neg c_1_0, if_pos c_1_1, if_neg c_57] <;> rfl), ht⟩) (fun q h => nomatch h) dX0_holds_65
  by_cases c_1_2 : p0 = (2 : Int32)
  · refine lv_tableIn (off := 93) (tgt := 94) hx hb dX0_holds_1 (by rw [c_1_2]; decide) (by rw [c_1_2]; decide) (by rw [c_1_2]; rfl) (by decide) ?_
    refine lv_iload_n hx hb dX0_holds_94 rfl (lv_at hl 1 rfl) ?_
    refine lv_iload_n hx hb dX0_holds_95 rfl (lv_at hl 2 rfl) ?_
    refine k_ri (va_runS (As := [.int p1, .int p2]) (rest := []) ⟨hx, hb, hml, hown, hB⟩ (mX0_isBelow l p1 p2) (va_cwS 2 hB (gS q_t2_90 q_t2_91 q_t1_11 wX0_isBelow) rfl rfl rfl hX0_isBelow.2 ⟨Nat.le_of_ble_eq_true rfl, Nat.le_of_ble_eq_true rfl⟩) ⟨fun _ _ _ _ q => q, fun U _ _ => ⟨rfl, trivial⟩⟩ rfl rfl hl.1 rfl (lv_room (Nat.le_of_ble_eq_true rfl)) dX0_holds_96 ⟨Nat.zero_le _, Nat.zero_le _⟩) ?_
    refine lv_if_ne (tgt := 106) hx hb dX0_holds_99 (by decide) (fun c_99 => ?_) (fun c_99 => ?_)
    · refine lv_iconst (v := 0) hx hb dX0_holds_106 (by decide) ?_
      exact W.zret (v := 0) hx hb hr rfl (fun t ht hW => ⟨congrArg (fun z => Outcome.returned (some (Value.int z))) (by unfold fX0_holds; rw [if_neg c_1_0, if_neg c_1_1, if_pos c_1_2, if_neg c_99] <;> rfl), ht⟩) (fun q h => nomatch h) dX0_holds_107
    · refine lv_iconst (v := 1) hx hb dX0_holds_102 (by decide) ?_
      refine lv_goto (tgt := 107) hx hb dX0_holds_103 (by decide) ?_
      exact W.zret (v := 1) hx hb hr rfl (fun t ht hW => ⟨congrArg (fun z => Outcome.returned (some (Value.int z))) (by unfold fX0_holds; rw [if_neg c_1_0, if_neg c_1_1, if_pos c_1_2, if_pos c_99] <;> rfl), ht⟩) (fun q h => nomatch h) dX0_holds_107
  by_cases c_1_3 : p0 = (3 : Int32)
  · refine lv_tableIn (off := 93) (tgt := 94) hx hb dX0_holds_1 (by rw [c_1_3]; decide) (by rw [c_1_3]; decide) (by rw [c_1_3]; rfl) (by decide) ?_
    refine lv_iload_n hx hb dX0_holds_94 rfl (lv_at hl 1 rfl) ?_
    refine lv_iload_n hx hb dX0_holds_95 rfl (lv_at hl 2 rfl) ?_
    refine k_ri (va_runS (As := [.int p1, .int p2]) (rest := []) ⟨hx, hb, hml, hown, hB⟩ (mX0_isBelow l p1 p2) (va_cwS 2 hB (gS q_t2_90 q_t2_91 q_t1_11 wX0_isBelow) rfl rfl rfl hX0_isBelow.2 ⟨Nat.le_of_ble_eq_true rfl, Nat.le_of_ble_eq_true rfl⟩) ⟨fun _ _ _ _ q => q, fun U _ _ => ⟨rfl, trivial⟩⟩ rfl rfl hl.1 rfl (lv_room (Nat.le_of_ble_eq_true rfl)) dX0_holds_96 ⟨Nat.zero_le _, Nat.zero_le _⟩) ?_
    refine lv_if_ne (tgt := 106) hx hb dX0_holds_99 (by decide) (fun c_99 => ?_) (fun c_99 => ?_)
    · refine lv_iconst (v := 0) hx hb dX0_holds_106 (by decide) ?_
      exact W.zret (v := 0) hx hb hr rfl (fun t ht hW => ⟨congrArg (fun z => Outcome.returned (some (Value.int z))) (by unfold fX0_holds; rw [if_neg c_1_0, if_neg c_1_1, if_neg c_1_2, if_pos c_1_3, if_neg c_99] <;> rfl), ht⟩) (fun q h => nomatch h) dX0_holds_107
    · refine lv_iconst (v := 1) hx hb dX0_holds_102 (by decide) ?_
      refine lv_goto (tgt := 107) hx hb dX0_holds_103 (by decide) ?_
      exact W.zret (v := 1) hx hb hr rfl (fun t ht hW => ⟨congrArg (fun z => Outcome.returned (some (Value.int z))) (by unfold fX0_holds; rw [if_neg c_1_0, if_neg c_1_1, if_neg c_1_2, if_pos c_1_3, if_pos c_99] <;> rfl), ht⟩) (fun q h => nomatch h) dX0_holds_107
  by_cases c_1_4 : p0 = (4 : Int32)
  · refine lv_tableIn (off := 65) (tgt := 66) hx hb dX0_holds_1 (by rw [c_1_4]; decide) (by rw [c_1_4]; decide) (by rw [c_1_4]; rfl) (by decide) ?_
    refine lv_iload_n hx hb dX0_holds_66 rfl (lv_at hl 1 rfl) ?_
    refine lv_iload_n hx hb dX0_holds_67 rfl (lv_at hl 2 rfl) ?_
    refine lv_icmp_ge (tgt := 75) hx hb dX0_holds_68 (by decide) (fun c_68 => ?_) (fun c_68 => ?_)
    · refine lv_iconst (v := 0) hx hb dX0_holds_75 (by decide) ?_
      exact W.zret (v := 0) hx hb hr rfl (fun t ht hW => ⟨congrArg (fun z => Outcome.returned (some (Value.int z))) (by unfold fX0_holds; rw [if_neg c_1_0, if_neg c_1_1, if_neg c_1_2, if_neg c_1_3, if_pos c_1_4, if_pos c_68] <;> rfl), ht⟩) (fun q h => nomatch h) dX0_holds_76
    · refine lv_iconst (v := 1) hx hb dX0_holds_71 (by decide) ?_
      refine lv_goto (tgt := 76) hx hb dX0_holds_72 (by decide) ?_
      exact W.zret (v := 1) hx hb hr rfl (fun t ht hW => ⟨congrArg (fun z => Outcome.returned (some (Value.int z))) (by unfold fX0_holds; rw [if_neg c_1_0, if_neg c_1_1, if_neg c_1_2, if_neg c_1_3, if_pos c_1_4, if_neg c_68] <;> rfl), ht⟩) (fun q h => nomatch h) dX0_holds_76
  by_cases c_1_5 : p0 = (5 : Int32)
  · refine lv_tableIn (off := 76) (tgt := 77) hx hb dX0_holds_1 (by rw [c_1_5]; decide) (by rw [c_1_5]; decide) (by rw [c_1_5]; rfl) (by decide) ?_
    refine lv_iload_n hx hb dX0_holds_77 rfl (lv_at hl 1 rfl) ?_
    refine lv_iload_n hx hb dX0_holds_78 rfl (lv_at hl 2 rfl) ?_
    refine lv_icmp_lt (tgt := 86) hx hb dX0_holds_79 (by decide) (fun c_79 => ?_) (fun c_79 => ?_)
    · refine lv_iconst (v := 0) hx hb dX0_holds_86 (by decide) ?_
      exact W.zret (v := 0) hx hb hr rfl (fun t ht hW => ⟨congrArg (fun z => Outcome.returned (some (Value.int z))) (by unfold fX0_holds; rw [if_neg c_1_0, if_neg c_1_1, if_neg c_1_2, if_neg c_1_3, if_neg c_1_4, if_pos c_1_5, if_pos c_79] <;> rfl), ht⟩) (fun q h => nomatch h) dX0_holds_87
    · refine lv_iconst (v := 1) hx hb dX0_holds_82 (by decide) ?_
      refine lv_goto (tgt := 87) hx hb dX0_holds_83 (by decide) ?_
      exact W.zret (v := 1) hx hb hr rfl (fun t ht hW => ⟨congrArg (fun z => Outcome.returned (some (Value.int z))) (by unfold fX0_holds; rw [if_neg c_1_0, if_neg c_1_1, if_neg c_1_2, if_neg c_1_3, if_neg c_1_4, if_pos c_1_5, if_neg c_79] <;> rfl), ht⟩) (fun q h => nomatch h) dX0_holds_87
  by_cases c_1_6 : p0 = (6 : Int32)
  · refine lv_tableIn (off := 87) (tgt := 88) hx hb dX0_holds_1 (by rw [c_1_6]; decide) (by rw [c_1_6]; decide) (by rw [c_1_6]; rfl) (by decide) ?_
    refine lv_iload_n hx hb dX0_holds_88 rfl (lv_at hl 1 rfl) ?_
    refine lv_iload_n hx hb dX0_holds_89 rfl (lv_at hl 2 rfl) ?_
    refine k_ri (va_runS (As := [.int p1, .int p2]) (rest := []) ⟨hx, hb, hml, hown, hB⟩ (mX0_isBelow l p1 p2) (va_cwS 2 hB (gS q_t2_90 q_t2_91 q_t1_11 wX0_isBelow) rfl rfl rfl hX0_isBelow.2 ⟨Nat.le_of_ble_eq_true rfl, Nat.le_of_ble_eq_true rfl⟩) ⟨fun _ _ _ _ q => q, fun U _ _ => ⟨rfl, trivial⟩⟩ rfl rfl hl.1 rfl (lv_room (Nat.le_of_ble_eq_true rfl)) dX0_holds_90 ⟨Nat.zero_le _, Nat.zero_le _⟩) ?_
    exact W.zret (v := bi (fX0_isBelow p1 p2)) hx hb hr (bi_nar _) (fun t ht hW => ⟨congrArg (fun z => Outcome.returned (some (Value.int z))) (by unfold fX0_holds; rw [if_neg c_1_0, if_neg c_1_1, if_neg c_1_2, if_neg c_1_3, if_neg c_1_4, if_neg c_1_5, if_pos c_1_6] <;> rfl), ht⟩) (fun q h => nomatch h) dX0_holds_93
  refine lv_tableOut (tgt := 94) hx hb dX0_holds_1 (by have h0 := lv_neT (a := 0) c_1_0 (by decide); have h1 := lv_neT (a := 1) c_1_1 (by decide); have h2 := lv_neT (a := 2) c_1_2 (by decide); have h3 := lv_neT (a := 3) c_1_3 (by decide); have h4 := lv_neT (a := 4) c_1_4 (by decide); have h5 := lv_neT (a := 5) c_1_5 (by decide); have h6 := lv_neT (a := 6) c_1_6 (by decide); omega) (by decide) ?_
  refine lv_iload_n hx hb dX0_holds_94 rfl (lv_at hl 1 rfl) ?_
  refine lv_iload_n hx hb dX0_holds_95 rfl (lv_at hl 2 rfl) ?_
  refine k_ri (va_runS (As := [.int p1, .int p2]) (rest := []) ⟨hx, hb, hml, hown, hB⟩ (mX0_isBelow l p1 p2) (va_cwS 2 hB (gS q_t2_90 q_t2_91 q_t1_11 wX0_isBelow) rfl rfl rfl hX0_isBelow.2 ⟨Nat.le_of_ble_eq_true rfl, Nat.le_of_ble_eq_true rfl⟩) ⟨fun _ _ _ _ q => q, fun U _ _ => ⟨rfl, trivial⟩⟩ rfl rfl hl.1 rfl (lv_room (Nat.le_of_ble_eq_true rfl)) dX0_holds_96 ⟨Nat.zero_le _, Nat.zero_le _⟩) ?_
  refine lv_if_ne (tgt := 106) hx hb dX0_holds_99 (by decide) (fun c_99 => ?_) (fun c_99 => ?_)
  · refine lv_iconst (v := 0) hx hb dX0_holds_106 (by decide) ?_
    exact W.zret (v := 0) hx hb hr rfl (fun t ht hW => ⟨congrArg (fun z => Outcome.returned (some (Value.int z))) (by unfold fX0_holds; rw [if_neg c_1_0, if_neg c_1_1, if_neg c_1_2, if_neg c_1_3, if_neg c_1_4, if_neg c_1_5, if_neg c_1_6, if_neg c_99] <;> rfl), ht⟩) (fun q h => nomatch h) dX0_holds_107
  · refine lv_iconst (v := 1) hx hb dX0_holds_102 (by decide) ?_
    refine lv_goto (tgt := 107) hx hb dX0_holds_103 (by decide) ?_
    exact W.zret (v := 1) hx hb hr rfl (fun t ht hW => ⟨congrArg (fun z => Outcome.returned (some (Value.int z))) (by unfold fX0_holds; rw [if_neg c_1_0, if_neg c_1_1, if_neg c_1_2, if_neg c_1_3, if_neg c_1_4, if_neg c_1_5, if_neg c_1_6, if_pos c_99] <;> rfl), ht⟩) (fun q h => nomatch h) dX0_holds_107
def fX0_basic (p0 : Int32) (p1 : Int32) (p2 : Int32) : Int32 := if p0 = (0 : Int32) then
    p1 + p2
  else
    if p0 = (1 : Int32) then
      p1 <<< ((p2 &&& (31 : Int32)) &&& 31)
    else
      if p0 = (2 : Int32) then
        if p2 ≤ p1 then
          (0 : Int32)
        else
          (1 : Int32)
      else
        if p0 = (3 : Int32) then
          if (bi (fX0_isBelow p1 p2)) = 0 then
            (0 : Int32)
          else
            (1 : Int32)
        else
          if p0 = (4 : Int32) then
            p1 ^^^ p2
          else
            if p0 = (5 : Int32) then
              ush p1 (p2 &&& (31 : Int32))
            else
              if p0 = (6 : Int32) then
                p1 ||| p2
              else
                p1 &&& p2
set_option maxHeartbeats 4000000 in
set_option maxRecDepth 100000 in
theorem mX0_basic (l : Launch) (p0 : Int32) (p1 : Int32) (p2 : Int32) : Met l yX0_basic wsX0_basic ({ frames := 1, cells := 0, slots := 0, locals := 21 }) (va_Pc [.int p0, .int p1, .int p2] (fun _ => True)) (QcRead ((fX0_basic p0 p1 p2))) 0 0 (fun _ => False) := by
  refine Met.ofW (cc := cX0_basic) (maxL := 3) (ret := (some .int)) (by decide) rfl ?_
  intro p e s m args below meth c s₁ B hml hv
  obtain ⟨rfl, -⟩ := hv
  have hx := B.exec
  have hb := B.bytes
  have hr := B.returns
  have hB := fun (w : Cond) (h : w ∈ BIG) => atoms_spec (ws := wsX0_basic) B.pre w (List.mem_cons_of_mem _ h)
  have hown : s.vm.findClass RX0 = some m.cls := findClass_of_methodNamed B.named
  have hlocks := B.notSynchronized
  have hl := lv_entry ([.int p0, .int p1, .int p2]) (n := 3) (Nat.le_of_ble_eq_true rfl)
  rw [lg_entry_eq]
  generalize (lg_sl ([.int p0, .int p1, .int p2]) ++ List.replicate (3 - (lg_sl ([.int p0, .int p1, .int p2])).length) Slot.unset).toArray = ls at hl ⊢
  have hl : lv_has ls 3 [(0, .int p0), (1, .int p1), (2, .int p2)] := hl
  refine lv_iload_n hx hb dX0_basic_0 rfl (lv_at hl 0 rfl) ?_
  by_cases c_1_0 : p0 = (0 : Int32)
  · refine lv_tableIn (off := 43) (tgt := 44) hx hb dX0_basic_1 (by rw [c_1_0]; decide) (by rw [c_1_0]; decide) (by rw [c_1_0]; rfl) (by decide) ?_
    refine lv_iload_n hx hb dX0_basic_44 rfl (lv_at hl 1 rfl) ?_
    refine lv_iload_n hx hb dX0_basic_45 rfl (lv_at hl 2 rfl) ?_
    refine lv_iadd hx hb dX0_basic_46 ?_
    exact W.iret (v := p1 + p2) hx hb hr (fun t ht hW => ⟨congrArg (fun z => Outcome.returned (some (Value.int z))) (by unfold fX0_basic; rw [if_pos c_1_0] <;> rfl), ht⟩) (fun q h => nomatch h) dX0_basic_47
  by_cases c_1_1 : p0 = (1 : Int32)
  · refine lv_tableIn (off := 47) (tgt := 48) hx hb dX0_basic_1 (by rw [c_1_1]; decide) (by rw [c_1_1]; decide) (by rw [c_1_1]; rfl) (by decide) ?_
    refine lv_iload_n hx hb dX0_basic_48 rfl (lv_at hl 1 rfl) ?_
    refine lv_iload_n hx hb dX0_basic_49 rfl (lv_at hl 2 rfl) ?_
    refine lv_bipush (v := 31) hx hb dX0_basic_50 (by decide) ?_
    refine lv_iand hx hb dX0_basic_52 ?_
    refine lv_ishl hx hb dX0_basic_53 ?_
    exact W.iret (v := p1 <<< ((p2 &&& (31 : Int32)) &&& 31)) hx hb hr (fun t ht hW => ⟨congrArg (fun z => Outcome.returned (some (Value.int z))) (by unfold fX0_basic; rw [if_neg c_1_0, if_pos c_1_1] <;> rfl), ht⟩) (fun q h => nomatch h) dX0_basic_54
  by_cases c_1_2 : p0 = (2 : Int32)
  · refine lv_tableIn (off := 54) (tgt := 55) hx hb dX0_basic_1 (by rw [c_1_2]; decide) (by rw [c_1_2]; decide) (by rw [c_1_2]; rfl) (by decide) ?_
    refine lv_iload_n hx hb dX0_basic_55 rfl (lv_at hl 1 rfl) ?_
    refine lv_iload_n hx hb dX0_basic_56 rfl (lv_at hl 2 rfl) ?_
    refine lv_icmp_ge (tgt := 64) hx hb dX0_basic_57 (by decide) (fun c_57 => ?_) (fun c_57 => ?_)
    · refine lv_iconst (v := 0) hx hb dX0_basic_64 (by decide) ?_
      exact W.iret (v := (0 : Int32)) hx hb hr (fun t ht hW => ⟨congrArg (fun z => Outcome.returned (some (Value.int z))) (by unfold fX0_basic; rw [if_neg c_1_0, if_neg c_1_1, if_pos c_1_2, if_pos c_57] <;> rfl), ht⟩) (fun q h => nomatch h) dX0_basic_65
    · refine lv_iconst (v := 1) hx hb dX0_basic_60 (by decide) ?_
      refine lv_goto (tgt := 65) hx hb dX0_basic_61 (by decide) ?_
      exact W.iret (v := (1 : Int32)) hx hb hr (fun t ht hW => ⟨congrArg (fun z => Outcome.returned (some (Value.int z))) (by unfold fX0_basic; rw [if_neg c_1_0, if_neg c_1_1, if_pos c_1_2, if_neg c_57] <;> rfl), ht⟩) (fun q h => nomatch h) dX0_basic_65
  by_cases c_1_3 : p0 = (3 : Int32)
  · refine lv_tableIn (off := 65) (tgt := 66) hx hb dX0_basic_1 (by rw [c_1_3]; decide) (by rw [c_1_3]; decide) (by rw [c_1_3]; rfl) (by decide) ?_
    refine lv_iload_n hx hb dX0_basic_66 rfl (lv_at hl 1 rfl) ?_
    refine lv_iload_n hx hb dX0_basic_67 rfl (lv_at hl 2 rfl) ?_
    refine k_ri (va_runS (As := [.int p1, .int p2]) (rest := []) ⟨hx, hb, hml, hown, hB⟩ (mX0_isBelow l p1 p2) (va_cwS 2 hB (gS q_t2_90 q_t2_91 q_t1_11 wX0_isBelow) rfl rfl rfl hX0_isBelow.2 ⟨Nat.le_of_ble_eq_true rfl, Nat.le_of_ble_eq_true rfl⟩) ⟨fun _ _ _ _ q => q, fun U _ _ => ⟨rfl, trivial⟩⟩ rfl rfl hl.1 rfl (lv_room (Nat.le_of_ble_eq_true rfl)) dX0_basic_68 ⟨Nat.zero_le _, Nat.zero_le _⟩) ?_
    refine lv_if_eq (tgt := 78) hx hb dX0_basic_71 (by decide) (fun c_71 => ?_) (fun c_71 => ?_)
    · refine lv_iconst (v := 0) hx hb dX0_basic_78 (by decide) ?_
      exact W.iret (v := (0 : Int32)) hx hb hr (fun t ht hW => ⟨congrArg (fun z => Outcome.returned (some (Value.int z))) (by unfold fX0_basic; rw [if_neg c_1_0, if_neg c_1_1, if_neg c_1_2, if_pos c_1_3, if_pos c_71] <;> rfl), ht⟩) (fun q h => nomatch h) dX0_basic_79
    · refine lv_iconst (v := 1) hx hb dX0_basic_74 (by decide) ?_
      refine lv_goto (tgt := 79) hx hb dX0_basic_75 (by decide) ?_
      exact W.iret (v := (1 : Int32)) hx hb hr (fun t ht hW => ⟨congrArg (fun z => Outcome.returned (some (Value.int z))) (by unfold fX0_basic; rw [if_neg c_1_0, if_neg c_1_1, if_neg c_1_2, if_pos c_1_3, if_neg c_71] <;> rfl), ht⟩) (fun q h => nomatch h) dX0_basic_79
  by_cases c_1_4 : p0 = (4 : Int32)
  · refine lv_tableIn (off := 79) (tgt := 80) hx hb dX0_basic_1 (by rw [c_1_4]; decide) (by rw [c_1_4]; decide) (by rw [c_1_4]; rfl) (by decide) ?_
    refine lv_iload_n hx hb dX0_basic_80 rfl (lv_at hl 1 rfl) ?_
    refine lv_iload_n hx hb dX0_basic_81 rfl (lv_at hl 2 rfl) ?_
    refine lv_ixor hx hb dX0_basic_82 ?_
    exact W.iret (v := p1 ^^^ p2) hx hb hr (fun t ht hW => ⟨congrArg (fun z => Outcome.returned (some (Value.int z))) (by unfold fX0_basic; rw [if_neg c_1_0, if_neg c_1_1, if_neg c_1_2, if_neg c_1_3, if_pos c_1_4] <;> rfl), ht⟩) (fun q h => nomatch h) dX0_basic_83
  by_cases c_1_5 : p0 = (5 : Int32)
  · refine lv_tableIn (off := 83) (tgt := 84) hx hb dX0_basic_1 (by rw [c_1_5]; decide) (by rw [c_1_5]; decide) (by rw [c_1_5]; rfl) (by decide) ?_
    refine lv_iload_n hx hb dX0_basic_84 rfl (lv_at hl 1 rfl) ?_
    refine lv_iload_n hx hb dX0_basic_85 rfl (lv_at hl 2 rfl) ?_
    refine lv_bipush (v := 31) hx hb dX0_basic_86 (by decide) ?_
    refine lv_iand hx hb dX0_basic_88 ?_
    refine lv_iushr (v := ush p1 (p2 &&& (31 : Int32))) hx hb dX0_basic_89 rfl ?_
    exact W.iret (v := ush p1 (p2 &&& (31 : Int32))) hx hb hr (fun t ht hW => ⟨congrArg (fun z => Outcome.returned (some (Value.int z))) (by unfold fX0_basic; rw [if_neg c_1_0, if_neg c_1_1, if_neg c_1_2, if_neg c_1_3, if_neg c_1_4, if_pos c_1_5] <;> rfl), ht⟩) (fun q h => nomatch h) dX0_basic_90
  by_cases c_1_6 : p0 = (6 : Int32)
  · refine lv_tableIn (off := 90) (tgt := 91) hx hb dX0_basic_1 (by rw [c_1_6]; decide) (by rw [c_1_6]; decide) (by rw [c_1_6]; rfl) (by decide) ?_
    refine lv_iload_n hx hb dX0_basic_91 rfl (lv_at hl 1 rfl) ?_
    refine lv_iload_n hx hb dX0_basic_92 rfl (lv_at hl 2 rfl) ?_
    refine lv_ior hx hb dX0_basic_93 ?_
    exact W.iret (v := p1 ||| p2) hx hb hr (fun t ht hW => ⟨congrArg (fun z => Outcome.returned (some (Value.int z))) (by unfold fX0_basic; rw [if_neg c_1_0, if_neg c_1_1, if_neg c_1_2, if_neg c_1_3, if_neg c_1_4, if_neg c_1_5, if_pos c_1_6] <;> rfl), ht⟩) (fun q h => nomatch h) dX0_basic_94
  refine lv_tableOut (tgt := 95) hx hb dX0_basic_1 (by have h0 := lv_neT (a := 0) c_1_0 (by decide); have h1 := lv_neT (a := 1) c_1_1 (by decide); have h2 := lv_neT (a := 2) c_1_2 (by decide); have h3 := lv_neT (a := 3) c_1_3 (by decide); have h4 := lv_neT (a := 4) c_1_4 (by decide); have h5 := lv_neT (a := 5) c_1_5 (by decide); have h6 := lv_neT (a := 6) c_1_6 (by decide); omega) (by decide) ?_
  refine lv_iload_n hx hb dX0_basic_95 rfl (lv_at hl 1 rfl) ?_
  refine lv_iload_n hx hb dX0_basic_96 rfl (lv_at hl 2 rfl) ?_
  refine lv_iand hx hb dX0_basic_97 ?_
  exact W.iret (v := p1 &&& p2) hx hb hr (fun t ht hW => ⟨congrArg (fun z => Outcome.returned (some (Value.int z))) (by unfold fX0_basic; rw [if_neg c_1_0, if_neg c_1_1, if_neg c_1_2, if_neg c_1_3, if_neg c_1_4, if_neg c_1_5, if_neg c_1_6] <;> rfl), ht⟩) (fun q h => nomatch h) dX0_basic_98
def fX0_quotient (p0 : Int64) (p1 : Int64) : Int32 := if (lg_cmp p1 (0 : Int64)) = 0 then
    (-1 : Int32)
  else
    (p0 / p1).toInt32
set_option maxHeartbeats 4000000 in
set_option maxRecDepth 100000 in
theorem mX0_quotient (l : Launch) (p0 : Int64) (p1 : Int64) : Met l yX0_quotient wsX0_quotient ({ frames := 0, cells := 0, slots := 0, locals := 0 }) (va_Pc [.long p0, .long p1] (fun _ => True)) (QcRead ((fX0_quotient p0 p1))) 0 0 (fun _ => False) := by
  refine Met.ofW (cc := cX0_quotient) (maxL := 4) (ret := (some .int)) (by decide) rfl ?_
  intro p e s m args below meth c s₁ B hml hv
  obtain ⟨rfl, -⟩ := hv
  have hx := B.exec
  have hb := B.bytes
  have hr := B.returns
  have hB := fun (w : Cond) (h : w ∈ BIG) => atoms_spec (ws := wsX0_quotient) B.pre w (List.mem_cons_of_mem _ h)
  have hown : s.vm.findClass RX0 = some m.cls := findClass_of_methodNamed B.named
  have hlocks := B.notSynchronized
  have hl := lv_entry ([.long p0, .long p1]) (n := 4) (Nat.le_of_ble_eq_true rfl)
  rw [lg_entry_eq]
  generalize (lg_sl ([.long p0, .long p1]) ++ List.replicate (4 - (lg_sl ([.long p0, .long p1])).length) Slot.unset).toArray = ls at hl ⊢
  have hl : lv_has ls 4 [(0, .long p0), (2, .long p1)] := hl
  refine lv_lload_n hx hb dX0_quotient_0 rfl (lv_at hl 1 rfl) ?_
  refine lv_lconst (v := 0) hx hb dX0_quotient_1 (by decide) ?_
  refine W.lcmp hx hb dX0_quotient_2 ?_
  refine lv_if_ne (tgt := 10) hx hb dX0_quotient_3 (by decide) (fun c_3 => ?_) (fun c_3 => ?_)
  · refine lv_lload_n hx hb dX0_quotient_10 rfl (lv_at hl 0 rfl) ?_
    refine lv_lload_n hx hb dX0_quotient_11 rfl (lv_at hl 1 rfl) ?_
    refine lv_ldiv hx hb dX0_quotient_12 (lg_ne c_3) ?_
    refine lv_l2i (v := (p0 / p1).toInt32) hx hb dX0_quotient_13 rfl ?_
    exact W.iret (v := (p0 / p1).toInt32) hx hb hr (fun t ht hW => ⟨congrArg (fun z => Outcome.returned (some (Value.int z))) (by unfold fX0_quotient; rw [if_neg c_3] <;> rfl), ht⟩) (fun q h => nomatch h) dX0_quotient_14
  · refine lv_iconst (v := -1) hx hb dX0_quotient_6 (by decide) ?_
    refine lv_goto (tgt := 14) hx hb dX0_quotient_7 (by decide) ?_
    exact W.iret (v := (-1 : Int32)) hx hb hr (fun t ht hW => ⟨congrArg (fun z => Outcome.returned (some (Value.int z))) (by unfold fX0_quotient; rw [if_pos c_3] <;> rfl), ht⟩) (fun q h => nomatch h) dX0_quotient_14
def fX0_rest (p0 : Int64) (p1 : Int64) : Int32 := if (lg_cmp p1 (0 : Int64)) = 0 then
    p0.toInt32
  else
    (p0 - p0 / p1 * p1).toInt32
set_option maxHeartbeats 4000000 in
set_option maxRecDepth 100000 in
theorem mX0_rest (l : Launch) (p0 : Int64) (p1 : Int64) : Met l yX0_rest wsX0_rest ({ frames := 0, cells := 0, slots := 0, locals := 0 }) (va_Pc [.long p0, .long p1] (fun _ => True)) (QcRead ((fX0_rest p0 p1))) 0 0 (fun _ => False) := by
  refine Met.ofW (cc := cX0_rest) (maxL := 4) (ret := (some .int)) (by decide) rfl ?_
  intro p e s m args below meth c s₁ B hml hv
  obtain ⟨rfl, -⟩ := hv
  have hx := B.exec
  have hb := B.bytes
  have hr := B.returns
  have hB := fun (w : Cond) (h : w ∈ BIG) => atoms_spec (ws := wsX0_rest) B.pre w (List.mem_cons_of_mem _ h)
  have hown : s.vm.findClass RX0 = some m.cls := findClass_of_methodNamed B.named
  have hlocks := B.notSynchronized
  have hl := lv_entry ([.long p0, .long p1]) (n := 4) (Nat.le_of_ble_eq_true rfl)
  rw [lg_entry_eq]
  generalize (lg_sl ([.long p0, .long p1]) ++ List.replicate (4 - (lg_sl ([.long p0, .long p1])).length) Slot.unset).toArray = ls at hl ⊢
  have hl : lv_has ls 4 [(0, .long p0), (2, .long p1)] := hl
  refine lv_lload_n hx hb dX0_rest_0 rfl (lv_at hl 1 rfl) ?_
  refine lv_lconst (v := 0) hx hb dX0_rest_1 (by decide) ?_
  refine W.lcmp hx hb dX0_rest_2 ?_
  refine lv_if_ne (tgt := 11) hx hb dX0_rest_3 (by decide) (fun c_3 => ?_) (fun c_3 => ?_)
  · refine lv_lload_n hx hb dX0_rest_11 rfl (lv_at hl 0 rfl) ?_
    refine lv_lload_n hx hb dX0_rest_12 rfl (lv_at hl 1 rfl) ?_
    refine lv_lrem hx hb dX0_rest_13 (lg_ne c_3) ?_
    refine lv_l2i (v := (p0 - p0 / p1 * p1).toInt32) hx hb dX0_rest_14 rfl ?_
    exact W.iret (v := (p0 - p0 / p1 * p1).toInt32) hx hb hr (fun t ht hW => ⟨congrArg (fun z => Outcome.returned (some (Value.int z))) (by unfold fX0_rest; rw [if_neg c_3] <;> rfl), ht⟩) (fun q h => nomatch h) dX0_rest_15
  · refine lv_lload_n hx hb dX0_rest_6 rfl (lv_at hl 0 rfl) ?_
    refine lv_l2i (v := p0.toInt32) hx hb dX0_rest_7 rfl ?_
    refine lv_goto (tgt := 15) hx hb dX0_rest_8 (by decide) ?_
    exact W.iret (v := p0.toInt32) hx hb hr (fun t ht hW => ⟨congrArg (fun z => Outcome.returned (some (Value.int z))) (by unfold fX0_rest; rw [if_pos c_3] <;> rfl), ht⟩) (fun q h => nomatch h) dX0_rest_15
def fX0_productOrQuotient (p0 : Int32) (p1 : Int32) (p2 : Int32) : Int32 := if p0 = (0 : Int32) then
    p1 * p2
  else
    if p0 = (1 : Int32) then
      (lshrf (p1.toInt64 * p2.toInt64) (32 : Int32)).toInt32
    else
      if p0 = (2 : Int32) then
        (lshrf (p1.toInt64 * (p2.toInt64 &&& (4294967295 : Int64))) (32 : Int32)).toInt32
      else
        if p0 = (3 : Int32) then
          (lushf ((p1.toInt64 &&& (4294967295 : Int64)) * (p2.toInt64 &&& (4294967295 : Int64))) (32 : Int32)).toInt32
        else
          if p0 = (4 : Int32) then
            fX0_quotient p1.toInt64 p2.toInt64
          else
            if p0 = (5 : Int32) then
              fX0_quotient (p1.toInt64 &&& (4294967295 : Int64)) (p2.toInt64 &&& (4294967295 : Int64))
            else
              if p0 = (6 : Int32) then
                fX0_rest p1.toInt64 p2.toInt64
              else
                fX0_rest (p1.toInt64 &&& (4294967295 : Int64)) (p2.toInt64 &&& (4294967295 : Int64))
set_option maxHeartbeats 4000000 in
set_option maxRecDepth 100000 in
theorem mX0_productOrQuotient (l : Launch) (p0 : Int32) (p1 : Int32) (p2 : Int32) : Met l yX0_productOrQuotient wsX0_productOrQuotient ({ frames := 1, cells := 0, slots := 0, locals := 23 }) (va_Pc [.int p0, .int p1, .int p2] (fun _ => True)) (QcRead ((fX0_productOrQuotient p0 p1 p2))) 0 0 (fun _ => False) := by
  refine Met.ofW (cc := cX0_productOrQuotient) (maxL := 3) (ret := (some .int)) (by decide) rfl ?_
  intro p e s m args below meth c s₁ B hml hv
  obtain ⟨rfl, -⟩ := hv
  have hx := B.exec
  have hb := B.bytes
  have hr := B.returns
  have hB := fun (w : Cond) (h : w ∈ BIG) => atoms_spec (ws := wsX0_productOrQuotient) B.pre w (List.mem_cons_of_mem _ h)
  have hown : s.vm.findClass RX0 = some m.cls := findClass_of_methodNamed B.named
  have hlocks := B.notSynchronized
  have hl := lv_entry ([.int p0, .int p1, .int p2]) (n := 3) (Nat.le_of_ble_eq_true rfl)
  rw [lg_entry_eq]
  generalize (lg_sl ([.int p0, .int p1, .int p2]) ++ List.replicate (3 - (lg_sl ([.int p0, .int p1, .int p2])).length) Slot.unset).toArray = ls at hl ⊢
  have hl : lv_has ls 3 [(0, .int p0), (1, .int p1), (2, .int p2)] := hl
  refine lv_iload_n hx hb dX0_productOrQuotient_0 rfl (lv_at hl 0 rfl) ?_
  by_cases c_1_0 : p0 = (0 : Int32)
  · refine lv_tableIn (off := 43) (tgt := 44) hx hb dX0_productOrQuotient_1 (by rw [c_1_0]; decide) (by rw [c_1_0]; decide) (by rw [c_1_0]; rfl) (by decide) ?_
    refine lv_iload_n hx hb dX0_productOrQuotient_44 rfl (lv_at hl 1 rfl) ?_
    refine lv_iload_n hx hb dX0_productOrQuotient_45 rfl (lv_at hl 2 rfl) ?_
    refine lv_imul hx hb dX0_productOrQuotient_46 ?_
    exact W.iret (v := p1 * p2) hx hb hr (fun t ht hW => ⟨congrArg (fun z => Outcome.returned (some (Value.int z))) (by unfold fX0_productOrQuotient; rw [if_pos c_1_0] <;> rfl), ht⟩) (fun q h => nomatch h) dX0_productOrQuotient_47
  by_cases c_1_1 : p0 = (1 : Int32)
  · refine lv_tableIn (off := 47) (tgt := 48) hx hb dX0_productOrQuotient_1 (by rw [c_1_1]; decide) (by rw [c_1_1]; decide) (by rw [c_1_1]; rfl) (by decide) ?_
    refine lv_iload_n hx hb dX0_productOrQuotient_48 rfl (lv_at hl 1 rfl) ?_
    refine lv_i2l (v := p1.toInt64) hx hb dX0_productOrQuotient_49 rfl ?_
    refine lv_iload_n hx hb dX0_productOrQuotient_50 rfl (lv_at hl 2 rfl) ?_
    refine lv_i2l (v := p2.toInt64) hx hb dX0_productOrQuotient_51 rfl ?_
    refine lv_lmul hx hb dX0_productOrQuotient_52 ?_
    refine lv_bipush (v := 32) hx hb dX0_productOrQuotient_53 (by decide) ?_
    refine lv_lshr (v := lshrf (p1.toInt64 * p2.toInt64) (32 : Int32)) hx hb dX0_productOrQuotient_55 rfl ?_
    refine lv_l2i (v := (lshrf (p1.toInt64 * p2.toInt64) (32 : Int32)).toInt32) hx hb dX0_productOrQuotient_56 rfl ?_
    exact W.iret (v := (lshrf (p1.toInt64 * p2.toInt64) (32 : Int32)).toInt32) hx hb hr (fun t ht hW => ⟨congrArg (fun z => Outcome.returned (some (Value.int z))) (by unfold fX0_productOrQuotient; rw [if_neg c_1_0, if_pos c_1_1] <;> rfl), ht⟩) (fun q h => nomatch h) dX0_productOrQuotient_57
  by_cases c_1_2 : p0 = (2 : Int32)
  · refine lv_tableIn (off := 57) (tgt := 58) hx hb dX0_productOrQuotient_1 (by rw [c_1_2]; decide) (by rw [c_1_2]; decide) (by rw [c_1_2]; rfl) (by decide) ?_
    refine lv_iload_n hx hb dX0_productOrQuotient_58 rfl (lv_at hl 1 rfl) ?_
    refine lv_i2l (v := p1.toInt64) hx hb dX0_productOrQuotient_59 rfl ?_
    refine lv_iload_n hx hb dX0_productOrQuotient_60 rfl (lv_at hl 2 rfl) ?_
    refine lv_i2l (v := p2.toInt64) hx hb dX0_productOrQuotient_61 rfl ?_
    refine lv_ldc2 (v := 4294967295) hx hb hown (hB _ q_t2_93) dX0_productOrQuotient_62 ?_
    refine lv_land hx hb dX0_productOrQuotient_65 ?_
    refine lv_lmul hx hb dX0_productOrQuotient_66 ?_
    refine lv_bipush (v := 32) hx hb dX0_productOrQuotient_67 (by decide) ?_
    refine lv_lshr (v := lshrf (p1.toInt64 * (p2.toInt64 &&& (4294967295 : Int64))) (32 : Int32)) hx hb dX0_productOrQuotient_69 rfl ?_
    refine lv_l2i (v := (lshrf (p1.toInt64 * (p2.toInt64 &&& (4294967295 : Int64))) (32 : Int32)).toInt32) hx hb dX0_productOrQuotient_70 rfl ?_
    exact W.iret (v := (lshrf (p1.toInt64 * (p2.toInt64 &&& (4294967295 : Int64))) (32 : Int32)).toInt32) hx hb hr (fun t ht hW => ⟨congrArg (fun z => Outcome.returned (some (Value.int z))) (by unfold fX0_productOrQuotient; rw [if_neg c_1_0, if_neg c_1_1, if_pos c_1_2] <;> rfl), ht⟩) (fun q h => nomatch h) dX0_productOrQuotient_71
  by_cases c_1_3 : p0 = (3 : Int32)
  · refine lv_tableIn (off := 71) (tgt := 72) hx hb dX0_productOrQuotient_1 (by rw [c_1_3]; decide) (by rw [c_1_3]; decide) (by rw [c_1_3]; rfl) (by decide) ?_
    refine lv_iload_n hx hb dX0_productOrQuotient_72 rfl (lv_at hl 1 rfl) ?_
    refine lv_i2l (v := p1.toInt64) hx hb dX0_productOrQuotient_73 rfl ?_
    refine lv_ldc2 (v := 4294967295) hx hb hown (hB _ q_t2_93) dX0_productOrQuotient_74 ?_
    refine lv_land hx hb dX0_productOrQuotient_77 ?_
    refine lv_iload_n hx hb dX0_productOrQuotient_78 rfl (lv_at hl 2 rfl) ?_
    refine lv_i2l (v := p2.toInt64) hx hb dX0_productOrQuotient_79 rfl ?_
    refine lv_ldc2 (v := 4294967295) hx hb hown (hB _ q_t2_93) dX0_productOrQuotient_80 ?_
    refine lv_land hx hb dX0_productOrQuotient_83 ?_
    refine lv_lmul hx hb dX0_productOrQuotient_84 ?_
    refine lv_bipush (v := 32) hx hb dX0_productOrQuotient_85 (by decide) ?_
    refine lv_lushr (v := lushf ((p1.toInt64 &&& (4294967295 : Int64)) * (p2.toInt64 &&& (4294967295 : Int64))) (32 : Int32)) hx hb dX0_productOrQuotient_87 rfl ?_
    refine lv_l2i (v := (lushf ((p1.toInt64 &&& (4294967295 : Int64)) * (p2.toInt64 &&& (4294967295 : Int64))) (32 : Int32)).toInt32) hx hb dX0_productOrQuotient_88 rfl ?_
    exact W.iret (v := (lushf ((p1.toInt64 &&& (4294967295 : Int64)) * (p2.toInt64 &&& (4294967295 : Int64))) (32 : Int32)).toInt32) hx hb hr (fun t ht hW => ⟨congrArg (fun z => Outcome.returned (some (Value.int z))) (by unfold fX0_productOrQuotient; rw [if_neg c_1_0, if_neg c_1_1, if_neg c_1_2, if_pos c_1_3] <;> rfl), ht⟩) (fun q h => nomatch h) dX0_productOrQuotient_89
  by_cases c_1_4 : p0 = (4 : Int32)
  · refine lv_tableIn (off := 89) (tgt := 90) hx hb dX0_productOrQuotient_1 (by rw [c_1_4]; decide) (by rw [c_1_4]; decide) (by rw [c_1_4]; rfl) (by decide) ?_
    refine lv_iload_n hx hb dX0_productOrQuotient_90 rfl (lv_at hl 1 rfl) ?_
    refine lv_i2l (v := p1.toInt64) hx hb dX0_productOrQuotient_91 rfl ?_
    refine lv_iload_n hx hb dX0_productOrQuotient_92 rfl (lv_at hl 2 rfl) ?_
    refine lv_i2l (v := p2.toInt64) hx hb dX0_productOrQuotient_93 rfl ?_
    refine k_ri (va_runS (As := [.long p1.toInt64, .long p2.toInt64]) (rest := []) ⟨hx, hb, hml, hown, hB⟩ (mX0_quotient l p1.toInt64 p2.toInt64) (va_cwS 2 hB (gS q_t2_146 q_t2_147 q_t1_11 wX0_quotient) rfl rfl rfl hX0_quotient.2 ⟨Nat.le_of_ble_eq_true rfl, Nat.le_of_ble_eq_true rfl⟩) ⟨fun _ _ _ _ q => q, fun U _ _ => ⟨rfl, trivial⟩⟩ rfl rfl hl.1 rfl (lv_room (Nat.le_of_ble_eq_true rfl)) dX0_productOrQuotient_94 ⟨Nat.zero_le _, Nat.zero_le _⟩) ?_
    exact W.iret (v := fX0_quotient p1.toInt64 p2.toInt64) hx hb hr (fun t ht hW => ⟨congrArg (fun z => Outcome.returned (some (Value.int z))) (by unfold fX0_productOrQuotient; rw [if_neg c_1_0, if_neg c_1_1, if_neg c_1_2, if_neg c_1_3, if_pos c_1_4] <;> rfl), ht⟩) (fun q h => nomatch h) dX0_productOrQuotient_97
  by_cases c_1_5 : p0 = (5 : Int32)
  · refine lv_tableIn (off := 97) (tgt := 98) hx hb dX0_productOrQuotient_1 (by rw [c_1_5]; decide) (by rw [c_1_5]; decide) (by rw [c_1_5]; rfl) (by decide) ?_
    refine lv_iload_n hx hb dX0_productOrQuotient_98 rfl (lv_at hl 1 rfl) ?_
    refine lv_i2l (v := p1.toInt64) hx hb dX0_productOrQuotient_99 rfl ?_
    refine lv_ldc2 (v := 4294967295) hx hb hown (hB _ q_t2_93) dX0_productOrQuotient_100 ?_
    refine lv_land hx hb dX0_productOrQuotient_103 ?_
    refine lv_iload_n hx hb dX0_productOrQuotient_104 rfl (lv_at hl 2 rfl) ?_
    refine lv_i2l (v := p2.toInt64) hx hb dX0_productOrQuotient_105 rfl ?_
    refine lv_ldc2 (v := 4294967295) hx hb hown (hB _ q_t2_93) dX0_productOrQuotient_106 ?_
    refine lv_land hx hb dX0_productOrQuotient_109 ?_
    refine k_ri (va_runS (As := [.long (p1.toInt64 &&& (4294967295 : Int64)), .long (p2.toInt64 &&& (4294967295 : Int64))]) (rest := []) ⟨hx, hb, hml, hown, hB⟩ (mX0_quotient l (p1.toInt64 &&& (4294967295 : Int64)) (p2.toInt64 &&& (4294967295 : Int64))) (va_cwS 2 hB (gS q_t2_146 q_t2_147 q_t1_11 wX0_quotient) rfl rfl rfl hX0_quotient.2 ⟨Nat.le_of_ble_eq_true rfl, Nat.le_of_ble_eq_true rfl⟩) ⟨fun _ _ _ _ q => q, fun U _ _ => ⟨rfl, trivial⟩⟩ rfl rfl hl.1 rfl (lv_room (Nat.le_of_ble_eq_true rfl)) dX0_productOrQuotient_110 ⟨Nat.zero_le _, Nat.zero_le _⟩) ?_
    exact W.iret (v := fX0_quotient (p1.toInt64 &&& (4294967295 : Int64)) (p2.toInt64 &&& (4294967295 : Int64))) hx hb hr (fun t ht hW => ⟨congrArg (fun z => Outcome.returned (some (Value.int z))) (by unfold fX0_productOrQuotient; rw [if_neg c_1_0, if_neg c_1_1, if_neg c_1_2, if_neg c_1_3, if_neg c_1_4, if_pos c_1_5] <;> rfl), ht⟩) (fun q h => nomatch h) dX0_productOrQuotient_113
  by_cases c_1_6 : p0 = (6 : Int32)
  · refine lv_tableIn (off := 113) (tgt := 114) hx hb dX0_productOrQuotient_1 (by rw [c_1_6]; decide) (by rw [c_1_6]; decide) (by rw [c_1_6]; rfl) (by decide) ?_
    refine lv_iload_n hx hb dX0_productOrQuotient_114 rfl (lv_at hl 1 rfl) ?_
    refine lv_i2l (v := p1.toInt64) hx hb dX0_productOrQuotient_115 rfl ?_
    refine lv_iload_n hx hb dX0_productOrQuotient_116 rfl (lv_at hl 2 rfl) ?_
    refine lv_i2l (v := p2.toInt64) hx hb dX0_productOrQuotient_117 rfl ?_
    refine k_ri (va_runS (As := [.long p1.toInt64, .long p2.toInt64]) (rest := []) ⟨hx, hb, hml, hown, hB⟩ (mX0_rest l p1.toInt64 p2.toInt64) (va_cwS 2 hB (gS q_t2_149 q_t2_150 q_t1_11 wX0_rest) rfl rfl rfl hX0_rest.2 ⟨Nat.le_of_ble_eq_true rfl, Nat.le_of_ble_eq_true rfl⟩) ⟨fun _ _ _ _ q => q, fun U _ _ => ⟨rfl, trivial⟩⟩ rfl rfl hl.1 rfl (lv_room (Nat.le_of_ble_eq_true rfl)) dX0_productOrQuotient_118 ⟨Nat.zero_le _, Nat.zero_le _⟩) ?_
    exact W.iret (v := fX0_rest p1.toInt64 p2.toInt64) hx hb hr (fun t ht hW => ⟨congrArg (fun z => Outcome.returned (some (Value.int z))) (by unfold fX0_productOrQuotient; rw [if_neg c_1_0, if_neg c_1_1, if_neg c_1_2, if_neg c_1_3, if_neg c_1_4, if_neg c_1_5, if_pos c_1_6] <;> rfl), ht⟩) (fun q h => nomatch h) dX0_productOrQuotient_121
  refine lv_tableOut (tgt := 122) hx hb dX0_productOrQuotient_1 (by have h0 := lv_neT (a := 0) c_1_0 (by decide); have h1 := lv_neT (a := 1) c_1_1 (by decide); have h2 := lv_neT (a := 2) c_1_2 (by decide); have h3 := lv_neT (a := 3) c_1_3 (by decide); have h4 := lv_neT (a := 4) c_1_4 (by decide); have h5 := lv_neT (a := 5) c_1_5 (by decide); have h6 := lv_neT (a := 6) c_1_6 (by decide); omega) (by decide) ?_
  refine lv_iload_n hx hb dX0_productOrQuotient_122 rfl (lv_at hl 1 rfl) ?_
  refine lv_i2l (v := p1.toInt64) hx hb dX0_productOrQuotient_123 rfl ?_
  refine lv_ldc2 (v := 4294967295) hx hb hown (hB _ q_t2_93) dX0_productOrQuotient_124 ?_
  refine lv_land hx hb dX0_productOrQuotient_127 ?_
  refine lv_iload_n hx hb dX0_productOrQuotient_128 rfl (lv_at hl 2 rfl) ?_
  refine lv_i2l (v := p2.toInt64) hx hb dX0_productOrQuotient_129 rfl ?_
  refine lv_ldc2 (v := 4294967295) hx hb hown (hB _ q_t2_93) dX0_productOrQuotient_130 ?_
  refine lv_land hx hb dX0_productOrQuotient_133 ?_
  refine k_ri (va_runS (As := [.long (p1.toInt64 &&& (4294967295 : Int64)), .long (p2.toInt64 &&& (4294967295 : Int64))]) (rest := []) ⟨hx, hb, hml, hown, hB⟩ (mX0_rest l (p1.toInt64 &&& (4294967295 : Int64)) (p2.toInt64 &&& (4294967295 : Int64))) (va_cwS 2 hB (gS q_t2_149 q_t2_150 q_t1_11 wX0_rest) rfl rfl rfl hX0_rest.2 ⟨Nat.le_of_ble_eq_true rfl, Nat.le_of_ble_eq_true rfl⟩) ⟨fun _ _ _ _ q => q, fun U _ _ => ⟨rfl, trivial⟩⟩ rfl rfl hl.1 rfl (lv_room (Nat.le_of_ble_eq_true rfl)) dX0_productOrQuotient_134 ⟨Nat.zero_le _, Nat.zero_le _⟩) ?_
  exact W.iret (v := fX0_rest (p1.toInt64 &&& (4294967295 : Int64)) (p2.toInt64 &&& (4294967295 : Int64))) hx hb hr (fun t ht hW => ⟨congrArg (fun z => Outcome.returned (some (Value.int z))) (by unfold fX0_productOrQuotient; rw [if_neg c_1_0, if_neg c_1_1, if_neg c_1_2, if_neg c_1_3, if_neg c_1_4, if_neg c_1_5, if_neg c_1_6] <;> rfl), ht⟩) (fun q h => nomatch h) dX0_productOrQuotient_137
def fX0_exchanged (p0 : Int32) (p1 : Int32) (p2 : Int32) : Int32 := if p0 = (1 : Int32) then
    p2
  else
    if p0 = (2 : Int32) then
      p1 ||| p2
    else
      p1 &&& (p2 ^^^ (-1 : Int32))
set_option maxHeartbeats 4000000 in
set_option maxRecDepth 100000 in
theorem mX0_exchanged (l : Launch) (p0 : Int32) (p1 : Int32) (p2 : Int32) : Met l yX0_exchanged wsX0_exchanged ({ frames := 0, cells := 0, slots := 0, locals := 0 }) (va_Pc [.int p0, .int p1, .int p2] (fun _ => True)) (QcRead ((fX0_exchanged p0 p1 p2))) 0 0 (fun _ => False) := by
  refine Met.ofW (cc := cX0_exchanged) (maxL := 3) (ret := (some .int)) (by decide) rfl ?_
  intro p e s m args below meth c s₁ B hml hv
  obtain ⟨rfl, -⟩ := hv
  have hx := B.exec
  have hb := B.bytes
  have hr := B.returns
  have hB := fun (w : Cond) (h : w ∈ BIG) => atoms_spec (ws := wsX0_exchanged) B.pre w (List.mem_cons_of_mem _ h)
  have hown : s.vm.findClass RX0 = some m.cls := findClass_of_methodNamed B.named
  have hlocks := B.notSynchronized
  have hl := lv_entry ([.int p0, .int p1, .int p2]) (n := 3) (Nat.le_of_ble_eq_true rfl)
  rw [lg_entry_eq]
  generalize (lg_sl ([.int p0, .int p1, .int p2]) ++ List.replicate (3 - (lg_sl ([.int p0, .int p1, .int p2])).length) Slot.unset).toArray = ls at hl ⊢
  have hl : lv_has ls 3 [(0, .int p0), (1, .int p1), (2, .int p2)] := hl
  refine lv_iload_n hx hb dX0_exchanged_0 rfl (lv_at hl 0 rfl) ?_
  by_cases c_1_1 : p0 = (1 : Int32)
  · refine lv_lookup (off := 27) (tgt := 28) hx hb dX0_exchanged_1 (by decide) (by rw [c_1_1]; decide) (by decide) ?_
    refine lv_iload_n hx hb dX0_exchanged_28 rfl (lv_at hl 2 rfl) ?_
    exact W.iret (v := p2) hx hb hr (fun t ht hW => ⟨congrArg (fun z => Outcome.returned (some (Value.int z))) (by unfold fX0_exchanged; rw [if_pos c_1_1] <;> rfl), ht⟩) (fun q h => nomatch h) dX0_exchanged_29
  by_cases c_1_2 : p0 = (2 : Int32)
  · refine lv_lookup (off := 29) (tgt := 30) hx hb dX0_exchanged_1 (by decide) (by rw [c_1_2]; decide) (by decide) ?_
    refine lv_iload_n hx hb dX0_exchanged_30 rfl (lv_at hl 1 rfl) ?_
    refine lv_iload_n hx hb dX0_exchanged_31 rfl (lv_at hl 2 rfl) ?_
    refine lv_ior hx hb dX0_exchanged_32 ?_
    exact W.iret (v := p1 ||| p2) hx hb hr (fun t ht hW => ⟨congrArg (fun z => Outcome.returned (some (Value.int z))) (by unfold fX0_exchanged; rw [if_neg c_1_1, if_pos c_1_2] <;> rfl), ht⟩) (fun q h => nomatch h) dX0_exchanged_33
  refine lv_lookup (off := 33) (tgt := 34) hx hb dX0_exchanged_1 (by decide) ((lv_osw c_1_1 (by decide)).trans ((lv_osw c_1_2 (by decide)).trans rfl)) (by decide) ?_
  refine lv_iload_n hx hb dX0_exchanged_34 rfl (lv_at hl 1 rfl) ?_
  refine lv_iload_n hx hb dX0_exchanged_35 rfl (lv_at hl 2 rfl) ?_
  refine lv_iconst (v := -1) hx hb dX0_exchanged_36 (by decide) ?_
  refine lv_ixor hx hb dX0_exchanged_37 ?_
  refine lv_iand hx hb dX0_exchanged_38 ?_
  exact W.iret (v := p1 &&& (p2 ^^^ (-1 : Int32))) hx hb hr (fun t ht hW => ⟨congrArg (fun z => Outcome.returned (some (Value.int z))) (by unfold fX0_exchanged; rw [if_neg c_1_1, if_neg c_1_2] <;> rfl), ht⟩) (fun q h => nomatch h) dX0_exchanged_39
end
section
def fX3_readWord (p0 : Int32) (x : St) : Int32 := if (1024 : Int32) ≤ (ush p0 (2 : Int32)) then
    (0 : Int32)
  else
    (g_mem x) (ush p0 (2 : Int32)).toNatClampNeg
set_option maxHeartbeats 4000000 in
set_option maxRecDepth 100000 in
theorem mX3_readWord (l : Launch) (dC : Nat → ClassId) (dI : Nat → Nat → Nat) (aH aM aW aC aR iW iR : Nat) (x : St) (p0 : Int32) : Met l yX3_readWord wsX3_readWord ({ frames := 0, cells := 0, slots := 0, locals := 0 }) (va_Pc [.ref aM, .int p0] (kP (dC, dI) [(iW, .int), (iR, .int)] NW (wD aH aM aW aC aR iW iR x))) (QcRead ((fX3_readWord p0 x))) 0 0 (fun _ => False) := by
  refine Met.ofW (cc := cX3_readWord) (maxL := 3) (ret := (some .int)) (by decide) rfl ?_
  intro p e s m args below meth c s₁ B hml hv
  obtain ⟨rfl, hP, hK, hN⟩ := hv
  have hx := B.exec
  have hb := B.bytes
  have hr := B.returns
  have hB := fun (w : Cond) (h : w ∈ BIG) => atoms_spec (ws := wsX3_readWord) B.pre w (List.mem_cons_of_mem _ h)
  have hown : s.vm.findClass RX3 = some m.cls := findClass_of_methodNamed B.named
  have hlocks := B.notSynchronized
  have hl := lv_entry ([.ref aM, .int p0]) (n := 3) (Nat.le_of_ble_eq_true rfl)
  rw [lg_entry_eq]
  generalize (lg_sl ([.ref aM, .int p0]) ++ List.replicate (3 - (lg_sl ([.ref aM, .int p0])).length) Slot.unset).toArray = ls at hl ⊢
  have hl : lv_has ls 3 [(0, .ref aM), (1, .int p0)] := hl
  refine lv_iload_n hx hb dX3_readWord_0 rfl (lv_at hl 1 rfl) ?_
  refine lv_iconst (v := 2) hx hb dX3_readWord_1 (by decide) ?_
  refine lv_iushr (v := ush p0 (2 : Int32)) hx hb dX3_readWord_2 rfl ?_
  refine lv_istore_n (lv' := [(2, .int (ush p0 (2 : Int32))), (0, .ref aM), (1, .int p0)]) hx hb dX3_readWord_3 rfl hl (by decide) rfl (fun ls hl => ?_)
  refine lv_iload_n hx hb dX3_readWord_4 rfl (lv_at hl 0 rfl) ?_
  refine lv_aload_n hx hb dX3_readWord_5 rfl (lv_at hl 1 rfl) ?_
  refine va_get (D := (dC, dI)) (ci := 1) (v := .ref aW) (C := RX3) (T := TX3) (N := 1) hx hb hB iX3 hown hK hP 1 rfl rfl 0 (by decide) (hB _ q_t1_28) (fun _ h9 => h9) rfl dX3_readWord_6 ?_
  refine va_alen (v := 1024) hx hb hK hP 2 0 rfl rfl rfl dX3_readWord_9 ?_
  refine lv_icmp_ge (tgt := 22) hx hb dX3_readWord_10 (by decide) (fun c_10 => ?_) (fun c_10 => ?_)
  · refine lv_iconst (v := 0) hx hb dX3_readWord_22 (by decide) ?_
    exact W.iret (v := (0 : Int32)) hx hb hr (fun t ht hW => ⟨congrArg (fun z => Outcome.returned (some (Value.int z))) (by unfold fX3_readWord; rw [if_pos c_10] <;> rfl), ht⟩) (fun q h => nomatch h) dX3_readWord_23
  · refine lv_aload_n hx hb dX3_readWord_13 rfl (lv_at hl 1 rfl) ?_
    refine va_get (D := (dC, dI)) (ci := 1) (v := .ref aW) (C := RX3) (T := TX3) (N := 1) hx hb hB iX3 hown hK hP 1 rfl rfl 0 (by decide) (hB _ q_t1_28) (fun _ h9 => h9) rfl dX3_readWord_14 ?_
    refine lv_iload_n hx hb dX3_readWord_17 rfl (lv_at hl 0 rfl) ?_
    refine va_iald hx hb hK hP 2 0 rfl rfl (in_mem c_10) dX3_readWord_18 ?_
    refine lv_goto (tgt := 23) hx hb dX3_readWord_19 (by decide) ?_
    exact W.iret (v := (g_mem x) (ush p0 (2 : Int32)).toNatClampNeg) hx hb hr (fun t ht hW => ⟨congrArg (fun z => Outcome.returned (some (Value.int z))) (by unfold fX3_readWord; rw [if_neg c_10] <;> rfl), ht⟩) (fun q h => nomatch h) dX3_readWord_23
def fX3_writeWord (p0 : Int32) (p1 : Int32) (x : St) : St := if (1024 : Int32) ≤ (ush p0 (2 : Int32)) then
    x
  else
    s_mem x (upd (g_mem x) (ush p0 (2 : Int32)).toNatClampNeg p1)
set_option maxHeartbeats 4000000 in
set_option maxRecDepth 100000 in
theorem mX3_writeWord (l : Launch) (dC : Nat → ClassId) (dI : Nat → Nat → Nat) (aH aM aW aC aR iW iR : Nat) (sz : Nat) (x : St) (p0 : Int32) (p1 : Int32) : Met l yX3_writeWord wsX3_writeWord ({ frames := 0, cells := 0, slots := 0, locals := 0 }) (va_Pc [.ref aM, .int p0, .int p1] (kM (dC, dI) [(iW, .int), (iR, .int)] NW (wD aH aM aW aC aR iW iR x) sz)) (va_Qv (fun u => u = fX3_writeWord p0 p1 x) (fun u t => va_P (dC, dI) vwCl (wD aH aM aW aC aR iW iR u) t.heap) (va_A (wD aH aM aW aC aR iW iR x) sz)) 0 0 (va_A (wD aH aM aW aC aR iW iR x) sz) := by
  refine Met.ofW (cc := cX3_writeWord) (maxL := 4) (ret := none) (by decide) rfl ?_
  intro p e s m args below meth c s₁ B hml hv
  obtain ⟨rfl, hsz, hD0, hP, hK, hN⟩ := hv
  have hx := B.exec
  have hb := B.bytes
  have hr := B.returns
  have hB := fun (w : Cond) (h : w ∈ BIG) => atoms_spec (ws := wsX3_writeWord) B.pre w (List.mem_cons_of_mem _ h)
  have hown : s.vm.findClass RX3 = some m.cls := findClass_of_methodNamed B.named
  have hlocks := B.notSynchronized
  subst hsz
  have hD := hD0.self (sz := s.heap.size)
  generalize hAe : va_A (wD aH aM aW aC aR iW iR x) s.heap.size = A at hD ⊢
  have hA : ∀ q : Nat, s.heap.size ≤ q → A q := fun q h => by rw [← hAe]; exact Or.inr h
  have hS : va_S A s.heap s.heap [] := va_S.rf
  have hl := lv_entry ([.ref aM, .int p0, .int p1]) (n := 4) (Nat.le_of_ble_eq_true rfl)
  rw [lg_entry_eq]
  generalize (lg_sl ([.ref aM, .int p0, .int p1]) ++ List.replicate (4 - (lg_sl ([.ref aM, .int p0, .int p1])).length) Slot.unset).toArray = ls at hl ⊢
  have hl : lv_has ls 4 [(0, .ref aM), (1, .int p0), (2, .int p1)] := hl
  refine lv_iload_n hx hb dX3_writeWord_0 rfl (lv_at hl 1 rfl) ?_
  refine lv_iconst (v := 2) hx hb dX3_writeWord_1 (by decide) ?_
  refine lv_iushr (v := ush p0 (2 : Int32)) hx hb dX3_writeWord_2 rfl ?_
  refine lv_istore_n (lv' := [(3, .int (ush p0 (2 : Int32))), (0, .ref aM), (1, .int p0), (2, .int p1)]) hx hb dX3_writeWord_3 rfl hl (by decide) rfl (fun ls hl => ?_)
  refine lv_iload_n hx hb dX3_writeWord_4 rfl (lv_at hl 0 rfl) ?_
  refine lv_aload_n hx hb dX3_writeWord_5 rfl (lv_at hl 1 rfl) ?_
  refine va_get (D := (dC, dI)) (ci := 1) (v := .ref aW) (C := RX3) (T := TX3) (N := 1) hx hb hB iX3 hown hK hP 1 rfl rfl 0 (by decide) (hB _ q_t1_28) (fun _ h9 => h9) rfl dX3_writeWord_6 ?_
  refine va_alen (v := 1024) hx hb hK hP 2 0 rfl rfl rfl dX3_writeWord_9 ?_
  refine lv_icmp_ge (tgt := 20) hx hb dX3_writeWord_10 (by decide) (fun c_10 => ?_) (fun c_10 => ?_)
  · exact W.vret hx hb hr (fun t ht hW => ⟨⟨x, rfl, (by unfold fX3_writeWord; rw [if_pos c_10] <;> rfl), hpT ht hP⟩, hS.F ht⟩) hS.2.2 dX3_writeWord_20
  · refine lv_aload_n hx hb dX3_writeWord_13 rfl (lv_at hl 1 rfl) ?_
    refine va_get (D := (dC, dI)) (ci := 1) (v := .ref aW) (C := RX3) (T := TX3) (N := 1) hx hb hB iX3 hown hK hP 1 rfl rfl 0 (by decide) (hB _ q_t1_28) (fun _ h9 => h9) rfl dX3_writeWord_14 ?_
    refine lv_iload_n hx hb dX3_writeWord_17 rfl (lv_at hl 0 rfl) ?_
    refine lv_iload_n hx hb dX3_writeWord_18 rfl (lv_at hl 3 rfl) ?_
    refine va_iast hx hb hK hP hD hS 2 0 rfl rfl (in_mem c_10) dX3_writeWord_19 (fun H locs hP hD hS => ?_)
    have hP : va_P (dC, dI) vwCl (wD aH aM aW aC aR iW iR (s_mem x (upd (g_mem x) (ush p0 (2 : Int32)).toNatClampNeg p1))) H := hP
    have hD : va_D A (wD aH aM aW aC aR iW iR (s_mem x (upd (g_mem x) (ush p0 (2 : Int32)).toNatClampNeg p1))) := hD
    exact W.vret hx hb hr (fun t ht hW => ⟨⟨(s_mem x (upd (g_mem x) (ush p0 (2 : Int32)).toNatClampNeg p1)), rfl, (by unfold fX3_writeWord; rw [if_neg c_10] <;> rfl), hpT ht hP⟩, hS.F ht⟩) hS.2.2 dX3_writeWord_20
def fX3_readPart (p0 : Int32) (p1 : Int32) (x : St) : Int32 := if p1 = (0 : Int32) then
    (ush (fX3_readWord p0 x) (fX3_shift p0)).toInt8.toInt32
  else
    if p1 = (1 : Int32) then
      (ush (fX3_readWord p0 x) (fX3_shift p0)).toInt16.toInt32
    else
      if p1 = (2 : Int32) then
        ush (fX3_readWord p0 x) (fX3_shift p0)
      else
        if p1 = (3 : Int32) then
          ush (fX3_readWord p0 x) (fX3_shift p0)
        else
          if p1 = (4 : Int32) then
            (ush (fX3_readWord p0 x) (fX3_shift p0)) &&& (255 : Int32)
          else
            if p1 = (5 : Int32) then
              (ush (fX3_readWord p0 x) (fX3_shift p0)) &&& (65535 : Int32)
            else
              ush (fX3_readWord p0 x) (fX3_shift p0)
set_option maxHeartbeats 4000000 in
set_option maxRecDepth 100000 in
theorem mX3_readPart (l : Launch) (dC : Nat → ClassId) (dI : Nat → Nat → Nat) (aH aM aW aC aR iW iR : Nat) (x : St) (p0 : Int32) (p1 : Int32) : Met l yX3_readPart wsX3_readPart ({ frames := 1, cells := 0, slots := 0, locals := 22 }) (va_Pc [.ref aM, .int p0, .int p1] (kP (dC, dI) [(iW, .int), (iR, .int)] NW (wD aH aM aW aC aR iW iR x))) (QcRead ((fX3_readPart p0 p1 x))) 0 0 (fun _ => False) := by
  refine Met.ofW (cc := cX3_readPart) (maxL := 4) (ret := (some .int)) (by decide) rfl ?_
  intro p e s m args below meth c s₁ B hml hv
  obtain ⟨rfl, hP, hK, hN⟩ := hv
  have hx := B.exec
  have hb := B.bytes
  have hr := B.returns
  have hB := fun (w : Cond) (h : w ∈ BIG) => atoms_spec (ws := wsX3_readPart) B.pre w (List.mem_cons_of_mem _ h)
  have hown : s.vm.findClass RX3 = some m.cls := findClass_of_methodNamed B.named
  have hlocks := B.notSynchronized
  have hl := lv_entry ([.ref aM, .int p0, .int p1]) (n := 4) (Nat.le_of_ble_eq_true rfl)
  rw [lg_entry_eq]
  generalize (lg_sl ([.ref aM, .int p0, .int p1]) ++ List.replicate (4 - (lg_sl ([.ref aM, .int p0, .int p1])).length) Slot.unset).toArray = ls at hl ⊢
  have hl : lv_has ls 4 [(0, .ref aM), (1, .int p0), (2, .int p1)] := hl
  refine lv_aload_n hx hb dX3_readPart_0 rfl (lv_at hl 0 rfl) ?_
  refine lv_iload_n hx hb dX3_readPart_1 rfl (lv_at hl 1 rfl) ?_
  refine k_ri (va_runV (As := [.int p0]) (rest := []) ⟨hx, hb, hml, hown, hB⟩ (mX3_readWord l dC dI aH aM aW aC aR iW iR x p0) (cwV 1 hB (gV q_t2_108 q_t2_21 q_s_11 q_t1_2 wX3_readWord) rfl rfl rfl hX3_readWord ⟨Nat.le_of_ble_eq_true rfl, Nat.le_of_ble_eq_true rfl⟩) ⟨kP_blind NW_blind, va_recv hK hP (ci := 1) (q0 := 1) rfl rfl, kP_pre NW_warm hP hK hN⟩ rfl rfl hl.1 rfl (lv_room (Nat.le_of_ble_eq_true rfl)) dX3_readPart_2 ⟨Nat.zero_le _, Nat.zero_le _⟩) ?_
  refine lv_iload_n hx hb dX3_readPart_5 rfl (lv_at hl 1 rfl) ?_
  refine k_ri (va_runS (As := [.int p0]) (rest := [.int (fX3_readWord p0 x)]) ⟨hx, hb, hml, hown, hB⟩ (mX3_shift l p0) (va_cwS 1 hB (gS q_t2_109 q_t2_110 q_t1_2 wX3_shift) rfl rfl rfl hX3_shift.2 ⟨Nat.le_of_ble_eq_true rfl, Nat.le_of_ble_eq_true rfl⟩) ⟨fun _ _ _ _ q => q, fun U _ _ => ⟨rfl, trivial⟩⟩ rfl rfl hl.1 rfl (lv_room (Nat.le_of_ble_eq_true rfl)) dX3_readPart_6 ⟨Nat.zero_le _, Nat.zero_le _⟩) ?_
  refine lv_iushr (v := ush (fX3_readWord p0 x) (fX3_shift p0)) hx hb dX3_readPart_9 rfl ?_
  refine lv_istore_n (lv' := [(3, .int (ush (fX3_readWord p0 x) (fX3_shift p0))), (0, .ref aM), (1, .int p0), (2, .int p1)]) hx hb dX3_readPart_10 rfl hl (by decide) rfl (fun ls hl => ?_)
  refine lv_iload_n hx hb dX3_readPart_11 rfl (lv_at hl 3 rfl) ?_
  by_cases c_12_0 : p1 = (0 : Int32)
  · refine lv_tableIn (off := 40) (tgt := 52) hx hb dX3_readPart_12 (by rw [c_12_0]; decide) (by rw [c_12_0]; decide) (by rw [c_12_0]; rfl) (by decide) ?_
    refine lv_iload_n hx hb dX3_readPart_52 rfl (lv_at hl 0 rfl) ?_
    refine lv_i2b (v := (ush (fX3_readWord p0 x) (fX3_shift p0)).toInt8.toInt32) hx hb dX3_readPart_53 rfl ?_
    exact W.iret (v := (ush (fX3_readWord p0 x) (fX3_shift p0)).toInt8.toInt32) hx hb hr (fun t ht hW => ⟨congrArg (fun z => Outcome.returned (some (Value.int z))) (by unfold fX3_readPart; rw [if_pos c_12_0] <;> rfl), ht⟩) (fun q h => nomatch h) dX3_readPart_54
  by_cases c_12_1 : p1 = (1 : Int32)
  · refine lv_tableIn (off := 43) (tgt := 55) hx hb dX3_readPart_12 (by rw [c_12_1]; decide) (by rw [c_12_1]; decide) (by rw [c_12_1]; rfl) (by decide) ?_
    refine lv_iload_n hx hb dX3_readPart_55 rfl (lv_at hl 0 rfl) ?_
    refine lv_i2s (v := (ush (fX3_readWord p0 x) (fX3_shift p0)).toInt16.toInt32) hx hb dX3_readPart_56 rfl ?_
    exact W.iret (v := (ush (fX3_readWord p0 x) (fX3_shift p0)).toInt16.toInt32) hx hb hr (fun t ht hW => ⟨congrArg (fun z => Outcome.returned (some (Value.int z))) (by unfold fX3_readPart; rw [if_neg c_12_0, if_pos c_12_1] <;> rfl), ht⟩) (fun q h => nomatch h) dX3_readPart_57
  by_cases c_12_2 : p1 = (2 : Int32)
  · refine lv_tableIn (off := 57) (tgt := 69) hx hb dX3_readPart_12 (by rw [c_12_2]; decide) (by rw [c_12_2]; decide) (by rw [c_12_2]; rfl) (by decide) ?_
    refine lv_iload_n hx hb dX3_readPart_69 rfl (lv_at hl 0 rfl) ?_
    exact W.iret (v := ush (fX3_readWord p0 x) (fX3_shift p0)) hx hb hr (fun t ht hW => ⟨congrArg (fun z => Outcome.returned (some (Value.int z))) (by unfold fX3_readPart; rw [if_neg c_12_0, if_neg c_12_1, if_pos c_12_2] <;> rfl), ht⟩) (fun q h => nomatch h) dX3_readPart_70
  by_cases c_12_3 : p1 = (3 : Int32)
  · refine lv_tableIn (off := 57) (tgt := 69) hx hb dX3_readPart_12 (by rw [c_12_3]; decide) (by rw [c_12_3]; decide) (by rw [c_12_3]; rfl) (by decide) ?_
    refine lv_iload_n hx hb dX3_readPart_69 rfl (lv_at hl 0 rfl) ?_
    exact W.iret (v := ush (fX3_readWord p0 x) (fX3_shift p0)) hx hb hr (fun t ht hW => ⟨congrArg (fun z => Outcome.returned (some (Value.int z))) (by unfold fX3_readPart; rw [if_neg c_12_0, if_neg c_12_1, if_neg c_12_2, if_pos c_12_3] <;> rfl), ht⟩) (fun q h => nomatch h) dX3_readPart_70
  by_cases c_12_4 : p1 = (4 : Int32)
  · refine lv_tableIn (off := 46) (tgt := 58) hx hb dX3_readPart_12 (by rw [c_12_4]; decide) (by rw [c_12_4]; decide) (by rw [c_12_4]; rfl) (by decide) ?_
    refine lv_iload_n hx hb dX3_readPart_58 rfl (lv_at hl 0 rfl) ?_
    refine lv_sipush (v := 255) hx hb dX3_readPart_59 (by decide) ?_
    refine lv_iand hx hb dX3_readPart_62 ?_
    exact W.iret (v := (ush (fX3_readWord p0 x) (fX3_shift p0)) &&& (255 : Int32)) hx hb hr (fun t ht hW => ⟨congrArg (fun z => Outcome.returned (some (Value.int z))) (by unfold fX3_readPart; rw [if_neg c_12_0, if_neg c_12_1, if_neg c_12_2, if_neg c_12_3, if_pos c_12_4] <;> rfl), ht⟩) (fun q h => nomatch h) dX3_readPart_63
  by_cases c_12_5 : p1 = (5 : Int32)
  · refine lv_tableIn (off := 52) (tgt := 64) hx hb dX3_readPart_12 (by rw [c_12_5]; decide) (by rw [c_12_5]; decide) (by rw [c_12_5]; rfl) (by decide) ?_
    refine lv_iload_n hx hb dX3_readPart_64 rfl (lv_at hl 0 rfl) ?_
    refine lv_ldc (v := 65535) hx hb hown (hB _ q_t2_112) dX3_readPart_65 ?_
    refine lv_iand hx hb dX3_readPart_67 ?_
    exact W.iret (v := (ush (fX3_readWord p0 x) (fX3_shift p0)) &&& (65535 : Int32)) hx hb hr (fun t ht hW => ⟨congrArg (fun z => Outcome.returned (some (Value.int z))) (by unfold fX3_readPart; rw [if_neg c_12_0, if_neg c_12_1, if_neg c_12_2, if_neg c_12_3, if_neg c_12_4, if_pos c_12_5] <;> rfl), ht⟩) (fun q h => nomatch h) dX3_readPart_68
  refine lv_tableOut (tgt := 69) hx hb dX3_readPart_12 (by have h0 := lv_neT (a := 0) c_12_0 (by decide); have h1 := lv_neT (a := 1) c_12_1 (by decide); have h2 := lv_neT (a := 2) c_12_2 (by decide); have h3 := lv_neT (a := 3) c_12_3 (by decide); have h4 := lv_neT (a := 4) c_12_4 (by decide); have h5 := lv_neT (a := 5) c_12_5 (by decide); omega) (by decide) ?_
  refine lv_iload_n hx hb dX3_readPart_69 rfl (lv_at hl 0 rfl) ?_
  exact W.iret (v := ush (fX3_readWord p0 x) (fX3_shift p0)) hx hb hr (fun t ht hW => ⟨congrArg (fun z => Outcome.returned (some (Value.int z))) (by unfold fX3_readPart; rw [if_neg c_12_0, if_neg c_12_1, if_neg c_12_2, if_neg c_12_3, if_neg c_12_4, if_neg c_12_5] <;> rfl), ht⟩) (fun q h => nomatch h) dX3_readPart_70
def fX3_writePart (p0 : Int32) (p1 : Int32) (p2 : Int32) (x : St) : St := fX3_writeWord p0 (((fX3_readWord p0 x) &&& (((fX3_partMask p1) <<< ((fX3_shift p0) &&& 31)) ^^^ (-1 : Int32))) ||| ((p2 <<< ((fX3_shift p0) &&& 31)) &&& ((fX3_partMask p1) <<< ((fX3_shift p0) &&& 31)))) x
set_option maxHeartbeats 4000000 in
set_option maxRecDepth 100000 in
theorem mX3_writePart (l : Launch) (dC : Nat → ClassId) (dI : Nat → Nat → Nat) (aH aM aW aC aR iW iR : Nat) (sz : Nat) (x : St) (p0 : Int32) (p1 : Int32) (p2 : Int32) : Met l yX3_writePart wsX3_writePart ({ frames := 1, cells := 0, slots := 0, locals := 23 }) (va_Pc [.ref aM, .int p0, .int p1, .int p2] (kM (dC, dI) [(iW, .int), (iR, .int)] NW (wD aH aM aW aC aR iW iR x) sz)) (va_Qv (fun u => u = fX3_writePart p0 p1 p2 x) (fun u t => va_P (dC, dI) vwCl (wD aH aM aW aC aR iW iR u) t.heap) (va_A (wD aH aM aW aC aR iW iR x) sz)) 0 0 (va_A (wD aH aM aW aC aR iW iR x) sz) := by
  refine Met.ofW (cc := cX3_writePart) (maxL := 6) (ret := none) (by decide) rfl ?_
  intro p e s m args below meth c s₁ B hml hv
  obtain ⟨rfl, hsz, hD0, hP, hK, hN⟩ := hv
  have hx := B.exec
  have hb := B.bytes
  have hr := B.returns
  have hB := fun (w : Cond) (h : w ∈ BIG) => atoms_spec (ws := wsX3_writePart) B.pre w (List.mem_cons_of_mem _ h)
  have hown : s.vm.findClass RX3 = some m.cls := findClass_of_methodNamed B.named
  have hlocks := B.notSynchronized
  subst hsz
  have hD := hD0.self (sz := s.heap.size)
  generalize hAe : va_A (wD aH aM aW aC aR iW iR x) s.heap.size = A at hD ⊢
  have hA : ∀ q : Nat, s.heap.size ≤ q → A q := fun q h => by rw [← hAe]; exact Or.inr h
  have hS : va_S A s.heap s.heap [] := va_S.rf
  have hl := lv_entry ([.ref aM, .int p0, .int p1, .int p2]) (n := 6) (Nat.le_of_ble_eq_true rfl)
  rw [lg_entry_eq]
  generalize (lg_sl ([.ref aM, .int p0, .int p1, .int p2]) ++ List.replicate (6 - (lg_sl ([.ref aM, .int p0, .int p1, .int p2])).length) Slot.unset).toArray = ls at hl ⊢
  have hl : lv_has ls 6 [(0, .ref aM), (1, .int p0), (2, .int p1), (3, .int p2)] := hl
  refine lv_iload_n hx hb dX3_writePart_0 rfl (lv_at hl 2 rfl) ?_
  refine k_ri (va_runS (As := [.int p1]) (rest := []) ⟨hx, hb, hml, hown, hB⟩ (mX3_partMask l p1) (va_cwS 1 hB (gS q_t2_125 q_t2_126 q_t1_2 wX3_partMask) rfl rfl rfl hX3_partMask.2 ⟨Nat.le_of_ble_eq_true rfl, Nat.le_of_ble_eq_true rfl⟩) ⟨fun _ _ _ _ q => q, fun U _ _ => ⟨rfl, trivial⟩⟩ rfl rfl hl.1 rfl (lv_room (Nat.le_of_ble_eq_true rfl)) dX3_writePart_1 ⟨Nat.zero_le _, Nat.zero_le _⟩) ?_
  refine lv_iload_n hx hb dX3_writePart_4 rfl (lv_at hl 1 rfl) ?_
  refine k_ri (va_runS (As := [.int p0]) (rest := [.int (fX3_partMask p1)]) ⟨hx, hb, hml, hown, hB⟩ (mX3_shift l p0) (va_cwS 1 hB (gS q_t2_109 q_t2_110 q_t1_2 wX3_shift) rfl rfl rfl hX3_shift.2 ⟨Nat.le_of_ble_eq_true rfl, Nat.le_of_ble_eq_true rfl⟩) ⟨fun _ _ _ _ q => q, fun U _ _ => ⟨rfl, trivial⟩⟩ rfl rfl hl.1 rfl (lv_room (Nat.le_of_ble_eq_true rfl)) dX3_writePart_5 ⟨Nat.zero_le _, Nat.zero_le _⟩) ?_
  refine lv_ishl hx hb dX3_writePart_8 ?_
  refine lv_istore (lv' := [(4, .int ((fX3_partMask p1) <<< ((fX3_shift p0) &&& 31))), (0, .ref aM), (1, .int p0), (2, .int p1), (3, .int p2)]) hx hb dX3_writePart_9 hl (by decide) rfl (fun ls hl => ?_)
  refine lv_aload_n hx hb dX3_writePart_11 rfl (lv_at hl 1 rfl) ?_
  refine lv_iload_n hx hb dX3_writePart_12 rfl (lv_at hl 2 rfl) ?_
  refine k_ri (va_runV (As := [.int p0]) (rest := []) ⟨hx, hb, hml, hown, hB⟩ (mX3_readWord l dC dI aH aM aW aC aR iW iR x p0) (cwV 1 hB (gV q_t2_108 q_t2_21 q_s_11 q_t1_2 wX3_readWord) rfl rfl rfl hX3_readWord ⟨Nat.le_of_ble_eq_true rfl, Nat.le_of_ble_eq_true rfl⟩) ⟨kP_blind NW_blind, va_recv hK hP (ci := 1) (q0 := 1) rfl rfl, kP_pre NW_warm hP hK hN⟩ rfl rfl hl.1 rfl (lv_room (Nat.le_of_ble_eq_true rfl)) dX3_writePart_13 ⟨Nat.zero_le _, Nat.zero_le _⟩) ?_
  refine lv_iload hx hb dX3_writePart_16 (lv_at hl 0 rfl) ?_
  refine lv_iconst (v := -1) hx hb dX3_writePart_18 (by decide) ?_
  refine lv_ixor hx hb dX3_writePart_19 ?_
  refine lv_iand hx hb dX3_writePart_20 ?_
  refine lv_istore (lv' := [(5, .int ((fX3_readWord p0 x) &&& (((fX3_partMask p1) <<< ((fX3_shift p0) &&& 31)) ^^^ (-1 : Int32)))), (4, .int ((fX3_partMask p1) <<< ((fX3_shift p0) &&& 31))), (0, .ref aM), (1, .int p0), (2, .int p1), (3, .int p2)]) hx hb dX3_writePart_21 hl (by decide) rfl (fun ls hl => ?_)
  refine lv_aload_n hx hb dX3_writePart_23 rfl (lv_at hl 2 rfl) ?_
  refine lv_iload_n hx hb dX3_writePart_24 rfl (lv_at hl 3 rfl) ?_
  refine lv_iload hx hb dX3_writePart_25 (lv_at hl 0 rfl) ?_
  refine lv_iload_n hx hb dX3_writePart_27 rfl (lv_at hl 5 rfl) ?_
  refine lv_iload_n hx hb dX3_writePart_28 rfl (lv_at hl 3 rfl) ?_
  refine k_ri (va_runS (As := [.int p0]) (rest := [.int p2, .int ((fX3_readWord p0 x) &&& (((fX3_partMask p1) <<< ((fX3_shift p0) &&& 31)) ^^^ (-1 : Int32))), .int p0, .ref aM]) ⟨hx, hb, hml, hown, hB⟩ (mX3_shift l p0) (va_cwS 1 hB (gS q_t2_109 q_t2_110 q_t1_2 wX3_shift) rfl rfl rfl hX3_shift.2 ⟨Nat.le_of_ble_eq_true rfl, Nat.le_of_ble_eq_true rfl⟩) ⟨fun _ _ _ _ q => q, fun U _ _ => ⟨rfl, trivial⟩⟩ rfl rfl hl.1 rfl (lv_room (Nat.le_of_ble_eq_true rfl)) dX3_writePart_29 ⟨Nat.zero_le _, Nat.zero_le _⟩) ?_
  refine lv_ishl hx hb dX3_writePart_32 ?_
  refine lv_iload hx hb dX3_writePart_33 (lv_at hl 1 rfl) ?_
  refine lv_iand hx hb dX3_writePart_35 ?_
  refine lv_ior hx hb dX3_writePart_36 ?_
  refine k_mv (w := wD aH aM aW aC aR iW iR) wD_ad (va_runV (As := [.int p0, .int (((fX3_readWord p0 x) &&& (((fX3_partMask p1) <<< ((fX3_shift p0) &&& 31)) ^^^ (-1 : Int32))) ||| ((p2 <<< ((fX3_shift p0) &&& 31)) &&& ((fX3_partMask p1) <<< ((fX3_shift p0) &&& 31))))]) (rest := []) ⟨hx, hb, hml, hown, hB⟩ (mX3_writeWord l dC dI aH aM aW aC aR iW iR s.heap.size x p0 (((fX3_readWord p0 x) &&& (((fX3_partMask p1) <<< ((fX3_shift p0) &&& 31)) ^^^ (-1 : Int32))) ||| ((p2 <<< ((fX3_shift p0) &&& 31)) &&& ((fX3_partMask p1) <<< ((fX3_shift p0) &&& 31))))) (cwV 2 hB (gV q_t2_128 q_t1_104 q_s_0 q_t1_2 wX3_writeWord) rfl rfl rfl hX3_writeWord ⟨Nat.le_of_ble_eq_true rfl, Nat.le_of_ble_eq_true rfl⟩) ⟨kM_blind NW_blind, va_recv hK hP (ci := 1) (q0 := 1) rfl rfl, kM_pre NW_warm hP hK hD hN⟩ rfl rfl hl.1 rfl (lv_room (Nat.le_of_ble_eq_true rfl)) dX3_writePart_37 ⟨Nat.zero_le _, Nat.zero_le _⟩) hD hS hA (fun u H locs hw hP hD hS => ?_)
  obtain rfl := hw
  exact W.vret hx hb hr (fun t ht hW => ⟨⟨(fX3_writeWord p0 (((fX3_readWord p0 x) &&& (((fX3_partMask p1) <<< ((fX3_shift p0) &&& 31)) ^^^ (-1 : Int32))) ||| ((p2 <<< ((fX3_shift p0) &&& 31)) &&& ((fX3_partMask p1) <<< ((fX3_shift p0) &&& 31)))) x), rfl, rfl, hpT ht hP⟩, hS.F ht⟩) hS.2.2 dX3_writePart_40
def fX2_read (p0 : Int32) (x : St) : Int32 := if p0 = (768 : Int32) then
    g_status x
  else
    if p0 = (772 : Int32) then
      g_enabled x
    else
      if p0 = (773 : Int32) then
        g_vector x
      else
        if p0 = (832 : Int32) then
          g_scratch x
        else
          if p0 = (833 : Int32) then
            g_back x
          else
            if p0 = (834 : Int32) then
              g_cause x
            else
              if p0 = (835 : Int32) then
                g_value x
              else
                if p0 = (836 : Int32) then
                  if (bi (g_line x)) = 0 then
                    (0 : Int32)
                  else
                    (2048 : Int32)
                else
                  g_done x
set_option maxHeartbeats 4000000 in
set_option maxRecDepth 100000 in
theorem mX2_read (l : Launch) (dC : Nat → ClassId) (dI : Nat → Nat → Nat) (aH aM aW aC aR iW iR : Nat) (x : St) (p0 : Int32) : Met l yX2_read wsX2_read ({ frames := 0, cells := 0, slots := 0, locals := 0 }) (va_Pc [.ref aC, .int p0] (kP (dC, dI) [(iW, .int), (iR, .int)] NW (wD aH aM aW aC aR iW iR x))) (QcRead ((fX2_read p0 x))) 0 0 (fun _ => False) := by
  refine Met.ofW (cc := cX2_read) (maxL := 2) (ret := (some .int)) (by decide) rfl ?_
  intro p e s m args below meth c s₁ B hml hv
  obtain ⟨rfl, hP, hK, hN⟩ := hv
  have hx := B.exec
  have hb := B.bytes
  have hr := B.returns
  have hB := fun (w : Cond) (h : w ∈ BIG) => atoms_spec (ws := wsX2_read) B.pre w (List.mem_cons_of_mem _ h)
  have hown : s.vm.findClass RX2 = some m.cls := findClass_of_methodNamed B.named
  have hlocks := B.notSynchronized
  have hl := lv_entry ([.ref aC, .int p0]) (n := 2) (Nat.le_of_ble_eq_true rfl)
  rw [lg_entry_eq]
  generalize (lg_sl ([.ref aC, .int p0]) ++ List.replicate (2 - (lg_sl ([.ref aC, .int p0])).length) Slot.unset).toArray = ls at hl ⊢
  have hl : lv_has ls 2 [(0, .ref aC), (1, .int p0)] := hl
  refine lv_iload_n hx hb dX2_read_0 rfl (lv_at hl 1 rfl) ?_
  by_cases c_1_768 : p0 = (768 : Int32)
  · refine lv_lookup (off := 75) (tgt := 76) hx hb dX2_read_1 (by decide) (by rw [c_1_768]; decide) (by decide) ?_
    refine lv_aload_n hx hb dX2_read_76 rfl (lv_at hl 0 rfl) ?_
    refine va_get (D := (dC, dI)) (ci := 0) (v := .int (g_status x)) (C := RX2) (T := TX2) (N := 9) hx hb hB iX2 hown hK hP 3 rfl rfl 0 (by decide) (hB _ q_t1_39) (fun _ h9 => h9) rfl dX2_read_77 ?_
    exact W.iret (v := g_status x) hx hb hr (fun t ht hW => ⟨congrArg (fun z => Outcome.returned (some (Value.int z))) (by unfold fX2_read; rw [if_pos c_1_768] <;> rfl), ht⟩) (fun q h => nomatch h) dX2_read_80
  by_cases c_1_772 : p0 = (772 : Int32)
  · refine lv_lookup (off := 80) (tgt := 81) hx hb dX2_read_1 (by decide) (by rw [c_1_772]; decide) (by decide) ?_
    refine lv_aload_n hx hb dX2_read_81 rfl (lv_at hl 0 rfl) ?_
    refine va_get (D := (dC, dI)) (ci := 0) (v := .int (g_enabled x)) (C := RX2) (T := TX2) (N := 9) hx hb hB iX2 hown hK hP 3 rfl rfl 1 (by decide) (hB _ q_t1_40) (fun _ h9 => h9) rfl dX2_read_82 ?_
    exact W.iret (v := g_enabled x) hx hb hr (fun t ht hW => ⟨congrArg (fun z => Outcome.returned (some (Value.int z))) (by unfold fX2_read; rw [if_neg c_1_768, if_pos c_1_772] <;> rfl), ht⟩) (fun q h => nomatch h) dX2_read_85
  by_cases c_1_773 : p0 = (773 : Int32)
  · refine lv_lookup (off := 85) (tgt := 86) hx hb dX2_read_1 (by decide) (by rw [c_1_773]; decide) (by decide) ?_
    refine lv_aload_n hx hb dX2_read_86 rfl (lv_at hl 0 rfl) ?_
    refine va_get (D := (dC, dI)) (ci := 0) (v := .int (g_vector x)) (C := RX2) (T := TX2) (N := 9) hx hb hB iX2 hown hK hP 3 rfl rfl 2 (by decide) (hB _ q_t1_41) (fun _ h9 => h9) rfl dX2_read_87 ?_
    exact W.iret (v := g_vector x) hx hb hr (fun t ht hW => ⟨congrArg (fun z => Outcome.returned (some (Value.int z))) (by unfold fX2_read; rw [if_neg c_1_768, if_neg c_1_772, if_pos c_1_773] <;> rfl), ht⟩) (fun q h => nomatch h) dX2_read_90
  by_cases c_1_832 : p0 = (832 : Int32)
  · refine lv_lookup (off := 90) (tgt := 91) hx hb dX2_read_1 (by decide) (by rw [c_1_832]; decide) (by decide) ?_
    refine lv_aload_n hx hb dX2_read_91 rfl (lv_at hl 0 rfl) ?_
    refine va_get (D := (dC, dI)) (ci := 0) (v := .int (g_scratch x)) (C := RX2) (T := TX2) (N := 9) hx hb hB iX2 hown hK hP 3 rfl rfl 3 (by decide) (hB _ q_t1_43) (fun _ h9 => h9) rfl dX2_read_92 ?_
    exact W.iret (v := g_scratch x) hx hb hr (fun t ht hW => ⟨congrArg (fun z => Outcome.returned (some (Value.int z))) (by unfold fX2_read; rw [if_neg c_1_768, if_neg c_1_772, if_neg c_1_773, if_pos c_1_832] <;> rfl), ht⟩) (fun q h => nomatch h) dX2_read_95
  by_cases c_1_833 : p0 = (833 : Int32)
  · refine lv_lookup (off := 95) (tgt := 96) hx hb dX2_read_1 (by decide) (by rw [c_1_833]; decide) (by decide) ?_
    refine lv_aload_n hx hb dX2_read_96 rfl (lv_at hl 0 rfl) ?_
    refine va_get (D := (dC, dI)) (ci := 0) (v := .int (g_back x)) (C := RX2) (T := TX2) (N := 9) hx hb hB iX2 hown hK hP 3 rfl rfl 4 (by decide) (hB _ q_t1_44) (fun _ h9 => h9) rfl dX2_read_97 ?_
    exact W.iret (v := g_back x) hx hb hr (fun t ht hW => ⟨congrArg (fun z => Outcome.returned (some (Value.int z))) (by unfold fX2_read; rw [if_neg c_1_768, if_neg c_1_772, if_neg c_1_773, if_neg c_1_832, if_pos c_1_833] <;> rfl), ht⟩) (fun q h => nomatch h) dX2_read_100
  by_cases c_1_834 : p0 = (834 : Int32)
  · refine lv_lookup (off := 100) (tgt := 101) hx hb dX2_read_1 (by decide) (by rw [c_1_834]; decide) (by decide) ?_
    refine lv_aload_n hx hb dX2_read_101 rfl (lv_at hl 0 rfl) ?_
    refine va_get (D := (dC, dI)) (ci := 0) (v := .int (g_cause x)) (C := RX2) (T := TX2) (N := 9) hx hb hB iX2 hown hK hP 3 rfl rfl 5 (by decide) (hB _ q_t1_45) (fun _ h9 => h9) rfl dX2_read_102 ?_
    exact W.iret (v := g_cause x) hx hb hr (fun t ht hW => ⟨congrArg (fun z => Outcome.returned (some (Value.int z))) (by unfold fX2_read; rw [if_neg c_1_768, if_neg c_1_772, if_neg c_1_773, if_neg c_1_832, if_neg c_1_833, if_pos c_1_834] <;> rfl), ht⟩) (fun q h => nomatch h) dX2_read_105
  by_cases c_1_835 : p0 = (835 : Int32)
  · refine lv_lookup (off := 105) (tgt := 106) hx hb dX2_read_1 (by decide) (by rw [c_1_835]; decide) (by decide) ?_
    refine lv_aload_n hx hb dX2_read_106 rfl (lv_at hl 0 rfl) ?_
    refine va_get (D := (dC, dI)) (ci := 0) (v := .int (g_value x)) (C := RX2) (T := TX2) (N := 9) hx hb hB iX2 hown hK hP 3 rfl rfl 6 (by decide) (hB _ q_t1_46) (fun _ h9 => h9) rfl dX2_read_107 ?_
    exact W.iret (v := g_value x) hx hb hr (fun t ht hW => ⟨congrArg (fun z => Outcome.returned (some (Value.int z))) (by unfold fX2_read; rw [if_neg c_1_768, if_neg c_1_772, if_neg c_1_773, if_neg c_1_832, if_neg c_1_833, if_neg c_1_834, if_pos c_1_835] <;> rfl), ht⟩) (fun q h => nomatch h) dX2_read_110
  by_cases c_1_836 : p0 = (836 : Int32)
  · refine lv_lookup (off := 110) (tgt := 111) hx hb dX2_read_1 (by decide) (by rw [c_1_836]; decide) (by decide) ?_
    refine lv_aload_n hx hb dX2_read_111 rfl (lv_at hl 0 rfl) ?_
    refine va_get (D := (dC, dI)) (ci := 0) (v := .int (bi (g_line x))) (C := RX2) (T := TX2) (N := 9) hx hb hB iX2 hown hK hP 3 rfl rfl 8 (by decide) (hB _ q_t1_50) (fun _ h9 => h9) rfl dX2_read_112 ?_
    refine lv_if_eq (tgt := 124) hx hb dX2_read_115 (by decide) (fun c_115 => ?_) (fun c_115 => ?_)
    · refine lv_iconst (v := 0) hx hb dX2_read_124 (by decide) ?_
      exact W.iret (v := (0 : Int32)) hx hb hr (fun t ht hW => ⟨congrArg (fun z => Outcome.returned (some (Value.int z))) (by unfold fX2_read; rw [if_neg c_1_768, if_neg c_1_772, if_neg c_1_773, if_neg c_1_832, if_neg c_1_833, if_neg c_1_834, if_neg c_1_835, if_pos c_1_836, if_pos c_115] <;> rfl), ht⟩) (fun q h => nomatch h) dX2_read_125
    · refine lv_sipush (v := 2048) hx hb dX2_read_118 (by decide) ?_
      refine lv_goto (tgt := 125) hx hb dX2_read_121 (by decide) ?_
      exact W.iret (v := (2048 : Int32)) hx hb hr (fun t ht hW => ⟨congrArg (fun z => Outcome.returned (some (Value.int z))) (by unfold fX2_read; rw [if_neg c_1_768, if_neg c_1_772, if_neg c_1_773, if_neg c_1_832, if_neg c_1_833, if_neg c_1_834, if_neg c_1_835, if_pos c_1_836, if_neg c_115] <;> rfl), ht⟩) (fun q h => nomatch h) dX2_read_125
  refine lv_lookup (off := 125) (tgt := 126) hx hb dX2_read_1 (by decide) ((lv_osw c_1_768 (by decide)).trans ((lv_osw c_1_772 (by decide)).trans ((lv_osw c_1_773 (by decide)).trans ((lv_osw c_1_832 (by decide)).trans ((lv_osw c_1_833 (by decide)).trans ((lv_osw c_1_834 (by decide)).trans ((lv_osw c_1_835 (by decide)).trans ((lv_osw c_1_836 (by decide)).trans rfl)))))))) (by decide) ?_
  refine lv_aload_n hx hb dX2_read_126 rfl (lv_at hl 0 rfl) ?_
  refine va_get (D := (dC, dI)) (ci := 0) (v := .int (g_done x)) (C := RX2) (T := TX2) (N := 9) hx hb hB iX2 hown hK hP 3 rfl rfl 7 (by decide) (hB _ q_t1_47) (fun _ h9 => h9) rfl dX2_read_127 ?_
  exact W.iret (v := g_done x) hx hb hr (fun t ht hW => ⟨congrArg (fun z => Outcome.returned (some (Value.int z))) (by unfold fX2_read; rw [if_neg c_1_768, if_neg c_1_772, if_neg c_1_773, if_neg c_1_832, if_neg c_1_833, if_neg c_1_834, if_neg c_1_835, if_neg c_1_836] <;> rfl), ht⟩) (fun q h => nomatch h) dX2_read_130
def fX2_write (p0 : Int32) (p1 : Int32) (x : St) : St := if p0 = (768 : Int32) then
    s_status x (p1 &&& (136 : Int32))
  else
    if p0 = (772 : Int32) then
      s_enabled x (p1 &&& (2048 : Int32))
    else
      if p0 = (773 : Int32) then
        s_vector x (p1 &&& (-4 : Int32))
      else
        if p0 = (832 : Int32) then
          s_scratch x p1
        else
          if p0 = (833 : Int32) then
            s_back x (p1 &&& (-4 : Int32))
          else
            if p0 = (834 : Int32) then
              s_cause x p1
            else
              if p0 = (835 : Int32) then
                s_value x p1
              else
                x
set_option maxHeartbeats 4000000 in
set_option maxRecDepth 100000 in
theorem mX2_write (l : Launch) (dC : Nat → ClassId) (dI : Nat → Nat → Nat) (aH aM aW aC aR iW iR : Nat) (sz : Nat) (x : St) (p0 : Int32) (p1 : Int32) : Met l yX2_write wsX2_write ({ frames := 0, cells := 0, slots := 0, locals := 0 }) (va_Pc [.ref aC, .int p0, .int p1] (kM (dC, dI) [(iW, .int), (iR, .int)] NW (wD aH aM aW aC aR iW iR x) sz)) (va_Qv (fun u => u = fX2_write p0 p1 x) (fun u t => va_P (dC, dI) vwCl (wD aH aM aW aC aR iW iR u) t.heap) (va_A (wD aH aM aW aC aR iW iR x) sz)) 0 0 (va_A (wD aH aM aW aC aR iW iR x) sz) := by
  refine Met.ofW (cc := cX2_write) (maxL := 3) (ret := none) (by decide) rfl ?_
  intro p e s m args below meth c s₁ B hml hv
  obtain ⟨rfl, hsz, hD0, hP, hK, hN⟩ := hv
  have hx := B.exec
  have hb := B.bytes
  have hr := B.returns
  have hB := fun (w : Cond) (h : w ∈ BIG) => atoms_spec (ws := wsX2_write) B.pre w (List.mem_cons_of_mem _ h)
  have hown : s.vm.findClass RX2 = some m.cls := findClass_of_methodNamed B.named
  have hlocks := B.notSynchronized
  subst hsz
  have hD := hD0.self (sz := s.heap.size)
  generalize hAe : va_A (wD aH aM aW aC aR iW iR x) s.heap.size = A at hD ⊢
  have hA : ∀ q : Nat, s.heap.size ≤ q → A q := fun q h => by rw [← hAe]; exact Or.inr h
  have hS : va_S A s.heap s.heap [] := va_S.rf
  have hl := lv_entry ([.ref aC, .int p0, .int p1]) (n := 3) (Nat.le_of_ble_eq_true rfl)
  rw [lg_entry_eq]
  generalize (lg_sl ([.ref aC, .int p0, .int p1]) ++ List.replicate (3 - (lg_sl ([.ref aC, .int p0, .int p1])).length) Slot.unset).toArray = ls at hl ⊢
  have hl : lv_has ls 3 [(0, .ref aC), (1, .int p0), (2, .int p1)] := hl
  refine lv_iload_n hx hb dX2_write_0 rfl (lv_at hl 1 rfl) ?_
  by_cases c_1_768 : p0 = (768 : Int32)
  · refine lv_lookup (off := 67) (tgt := 68) hx hb dX2_write_1 (by decide) (by rw [c_1_768]; decide) (by decide) ?_
    refine lv_aload_n hx hb dX2_write_68 rfl (lv_at hl 0 rfl) ?_
    refine lv_iload_n hx hb dX2_write_69 rfl (lv_at hl 2 rfl) ?_
    refine lv_sipush (v := 136) hx hb dX2_write_70 (by decide) ?_
    refine lv_iand hx hb dX2_write_73 ?_
    refine va_put (D := (dC, dI)) (ci := 0) (v := .int (p1 &&& (136 : Int32))) (ty := .int) (C := RX2) (T := TX2) (N := 9) hx hb hB iX2 tyX2 tyX2_ok nmX2 hown hK hP hD hS 3 rfl rfl 0 (by decide) (hB _ q_t1_39) (fun _ h9 => h9) rfl (by decide +kernel) rfl rfl (Nat.le_of_ble_eq_true rfl) dX2_write_74 (fun H locs hP hD hS => ?_)
    have hP : va_P (dC, dI) vwCl (wD aH aM aW aC aR iW iR (s_status x (p1 &&& (136 : Int32)))) H := hP
    have hD : va_D A (wD aH aM aW aC aR iW iR (s_status x (p1 &&& (136 : Int32)))) := hD
    refine lv_goto (tgt := 138) hx hb dX2_write_77 (by decide) ?_
    exact W.vret hx hb hr (fun t ht hW => ⟨⟨(s_status x (p1 &&& (136 : Int32))), rfl, (by unfold fX2_write; rw [if_pos c_1_768] <;> rfl), hpT ht hP⟩, hS.F ht⟩) hS.2.2 dX2_write_138
  by_cases c_1_772 : p0 = (772 : Int32)
  · refine lv_lookup (off := 79) (tgt := 80) hx hb dX2_write_1 (by decide) (by rw [c_1_772]; decide) (by decide) ?_
    refine lv_aload_n hx hb dX2_write_80 rfl (lv_at hl 0 rfl) ?_
    refine lv_iload_n hx hb dX2_write_81 rfl (lv_at hl 2 rfl) ?_
    refine lv_sipush (v := 2048) hx hb dX2_write_82 (by decide) ?_
    refine lv_iand hx hb dX2_write_85 ?_
    refine va_put (D := (dC, dI)) (ci := 0) (v := .int (p1 &&& (2048 : Int32))) (ty := .int) (C := RX2) (T := TX2) (N := 9) hx hb hB iX2 tyX2 tyX2_ok nmX2 hown hK hP hD hS 3 rfl rfl 1 (by decide) (hB _ q_t1_40) (fun _ h9 => h9) rfl (by decide +kernel) rfl rfl (Nat.le_of_ble_eq_true rfl) dX2_write_86 (fun H locs hP hD hS => ?_)
    have hP : va_P (dC, dI) vwCl (wD aH aM aW aC aR iW iR (s_enabled x (p1 &&& (2048 : Int32)))) H := hP
    have hD : va_D A (wD aH aM aW aC aR iW iR (s_enabled x (p1 &&& (2048 : Int32)))) := hD
    refine lv_goto (tgt := 138) hx hb dX2_write_89 (by decide) ?_
    exact W.vret hx hb hr (fun t ht hW => ⟨⟨(s_enabled x (p1 &&& (2048 : Int32))), rfl, (by unfold fX2_write; rw [if_neg c_1_768, if_pos c_1_772] <;> rfl), hpT ht hP⟩, hS.F ht⟩) hS.2.2 dX2_write_138
  by_cases c_1_773 : p0 = (773 : Int32)
  · refine lv_lookup (off := 91) (tgt := 92) hx hb dX2_write_1 (by decide) (by rw [c_1_773]; decide) (by decide) ?_
    refine lv_aload_n hx hb dX2_write_92 rfl (lv_at hl 0 rfl) ?_
    refine lv_iload_n hx hb dX2_write_93 rfl (lv_at hl 2 rfl) ?_
    refine lv_bipush (v := -4) hx hb dX2_write_94 (by decide) ?_
    refine lv_iand hx hb dX2_write_96 ?_
    refine va_put (D := (dC, dI)) (ci := 0) (v := .int (p1 &&& (-4 : Int32))) (ty := .int) (C := RX2) (T := TX2) (N := 9) hx hb hB iX2 tyX2 tyX2_ok nmX2 hown hK hP hD hS 3 rfl rfl 2 (by decide) (hB _ q_t1_41) (fun _ h9 => h9) rfl (by decide +kernel) rfl rfl (Nat.le_of_ble_eq_true rfl) dX2_write_97 (fun H locs hP hD hS => ?_)
    have hP : va_P (dC, dI) vwCl (wD aH aM aW aC aR iW iR (s_vector x (p1 &&& (-4 : Int32)))) H := hP
    have hD : va_D A (wD aH aM aW aC aR iW iR (s_vector x (p1 &&& (-4 : Int32)))) := hD
    refine lv_goto (tgt := 138) hx hb dX2_write_100 (by decide) ?_
    exact W.vret hx hb hr (fun t ht hW => ⟨⟨(s_vector x (p1 &&& (-4 : Int32))), rfl, (by unfold fX2_write; rw [if_neg c_1_768, if_neg c_1_772, if_pos c_1_773] <;> rfl), hpT ht hP⟩, hS.F ht⟩) hS.2.2 dX2_write_138
  by_cases c_1_832 : p0 = (832 : Int32)
  · refine lv_lookup (off := 102) (tgt := 103) hx hb dX2_write_1 (by decide) (by rw [c_1_832]; decide) (by decide) ?_
    refine lv_aload_n hx hb dX2_write_103 rfl (lv_at hl 0 rfl) ?_
    refine lv_iload_n hx hb dX2_write_104 rfl (lv_at hl 2 rfl) ?_
    refine va_put (D := (dC, dI)) (ci := 0) (v := .int p1) (ty := .int) (C := RX2) (T := TX2) (N := 9) hx hb hB iX2 tyX2 tyX2_ok nmX2 hown hK hP hD hS 3 rfl rfl 3 (by decide) (hB _ q_t1_43) (fun _ h9 => h9) rfl (by decide +kernel) rfl rfl (Nat.le_of_ble_eq_true rfl) dX2_write_105 (fun H locs hP hD hS => ?_)
    have hP : va_P (dC, dI) vwCl (wD aH aM aW aC aR iW iR (s_scratch x p1)) H := hP
    have hD : va_D A (wD aH aM aW aC aR iW iR (s_scratch x p1)) := hD
    refine lv_goto (tgt := 138) hx hb dX2_write_108 (by decide) ?_
    exact W.vret hx hb hr (fun t ht hW => ⟨⟨(s_scratch x p1), rfl, (by unfold fX2_write; rw [if_neg c_1_768, if_neg c_1_772, if_neg c_1_773, if_pos c_1_832] <;> rfl), hpT ht hP⟩, hS.F ht⟩) hS.2.2 dX2_write_138
  by_cases c_1_833 : p0 = (833 : Int32)
  · refine lv_lookup (off := 110) (tgt := 111) hx hb dX2_write_1 (by decide) (by rw [c_1_833]; decide) (by decide) ?_
    refine lv_aload_n hx hb dX2_write_111 rfl (lv_at hl 0 rfl) ?_
    refine lv_iload_n hx hb dX2_write_112 rfl (lv_at hl 2 rfl) ?_
    refine lv_bipush (v := -4) hx hb dX2_write_113 (by decide) ?_
    refine lv_iand hx hb dX2_write_115 ?_
    refine va_put (D := (dC, dI)) (ci := 0) (v := .int (p1 &&& (-4 : Int32))) (ty := .int) (C := RX2) (T := TX2) (N := 9) hx hb hB iX2 tyX2 tyX2_ok nmX2 hown hK hP hD hS 3 rfl rfl 4 (by decide) (hB _ q_t1_44) (fun _ h9 => h9) rfl (by decide +kernel) rfl rfl (Nat.le_of_ble_eq_true rfl) dX2_write_116 (fun H locs hP hD hS => ?_)
    have hP : va_P (dC, dI) vwCl (wD aH aM aW aC aR iW iR (s_back x (p1 &&& (-4 : Int32)))) H := hP
    have hD : va_D A (wD aH aM aW aC aR iW iR (s_back x (p1 &&& (-4 : Int32)))) := hD
    refine lv_goto (tgt := 138) hx hb dX2_write_119 (by decide) ?_
    exact W.vret hx hb hr (fun t ht hW => ⟨⟨(s_back x (p1 &&& (-4 : Int32))), rfl, (by unfold fX2_write; rw [if_neg c_1_768, if_neg c_1_772, if_neg c_1_773, if_neg c_1_832, if_pos c_1_833] <;> rfl), hpT ht hP⟩, hS.F ht⟩) hS.2.2 dX2_write_138
  by_cases c_1_834 : p0 = (834 : Int32)
  · refine lv_lookup (off := 121) (tgt := 122) hx hb dX2_write_1 (by decide) (by rw [c_1_834]; decide) (by decide) ?_
    refine lv_aload_n hx hb dX2_write_122 rfl (lv_at hl 0 rfl) ?_
    refine lv_iload_n hx hb dX2_write_123 rfl (lv_at hl 2 rfl) ?_
    refine va_put (D := (dC, dI)) (ci := 0) (v := .int p1) (ty := .int) (C := RX2) (T := TX2) (N := 9) hx hb hB iX2 tyX2 tyX2_ok nmX2 hown hK hP hD hS 3 rfl rfl 5 (by decide) (hB _ q_t1_45) (fun _ h9 => h9) rfl (by decide +kernel) rfl rfl (Nat.le_of_ble_eq_true rfl) dX2_write_124 (fun H locs hP hD hS => ?_)
    have hP : va_P (dC, dI) vwCl (wD aH aM aW aC aR iW iR (s_cause x p1)) H := hP
    have hD : va_D A (wD aH aM aW aC aR iW iR (s_cause x p1)) := hD
    refine lv_goto (tgt := 138) hx hb dX2_write_127 (by decide) ?_
    exact W.vret hx hb hr (fun t ht hW => ⟨⟨(s_cause x p1), rfl, (by unfold fX2_write; rw [if_neg c_1_768, if_neg c_1_772, if_neg c_1_773, if_neg c_1_832, if_neg c_1_833, if_pos c_1_834] <;> rfl), hpT ht hP⟩, hS.F ht⟩) hS.2.2 dX2_write_138
  by_cases c_1_835 : p0 = (835 : Int32)
  · refine lv_lookup (off := 129) (tgt := 130) hx hb dX2_write_1 (by decide) (by rw [c_1_835]; decide) (by decide) ?_
    refine lv_aload_n hx hb dX2_write_130 rfl (lv_at hl 0 rfl) ?_
    refine lv_iload_n hx hb dX2_write_131 rfl (lv_at hl 2 rfl) ?_
    refine va_put (D := (dC, dI)) (ci := 0) (v := .int p1) (ty := .int) (C := RX2) (T := TX2) (N := 9) hx hb hB iX2 tyX2 tyX2_ok nmX2 hown hK hP hD hS 3 rfl rfl 6 (by decide) (hB _ q_t1_46) (fun _ h9 => h9) rfl (by decide +kernel) rfl rfl (Nat.le_of_ble_eq_true rfl) dX2_write_132 (fun H locs hP hD hS => ?_)
    have hP : va_P (dC, dI) vwCl (wD aH aM aW aC aR iW iR (s_value x p1)) H := hP
    have hD : va_D A (wD aH aM aW aC aR iW iR (s_value x p1)) := hD
    refine lv_goto (tgt := 138) hx hb dX2_write_135 (by decide) ?_
    exact W.vret hx hb hr (fun t ht hW => ⟨⟨(s_value x p1), rfl, (by unfold fX2_write; rw [if_neg c_1_768, if_neg c_1_772, if_neg c_1_773, if_neg c_1_832, if_neg c_1_833, if_neg c_1_834, if_pos c_1_835] <;> rfl), hpT ht hP⟩, hS.F ht⟩) hS.2.2 dX2_write_138
  refine lv_lookup (off := 137) (tgt := 138) hx hb dX2_write_1 (by decide) ((lv_osw c_1_768 (by decide)).trans ((lv_osw c_1_772 (by decide)).trans ((lv_osw c_1_773 (by decide)).trans ((lv_osw c_1_832 (by decide)).trans ((lv_osw c_1_833 (by decide)).trans ((lv_osw c_1_834 (by decide)).trans ((lv_osw c_1_835 (by decide)).trans rfl))))))) (by decide) ?_
  exact W.vret hx hb hr (fun t ht hW => ⟨⟨x, rfl, (by unfold fX2_write; rw [if_neg c_1_768, if_neg c_1_772, if_neg c_1_773, if_neg c_1_832, if_neg c_1_833, if_neg c_1_834, if_neg c_1_835] <;> rfl), hpT ht hP⟩, hS.F ht⟩) hS.2.2 dX2_write_138
def fX2_isInterrupted (x : St) : Bool := if ((g_status x) &&& (8 : Int32)) = 0 then
    false
  else
    if ((g_enabled x) &&& (2048 : Int32)) = 0 then
      false
    else
      if (bi (g_line x)) = 0 then
        false
      else
        true
set_option maxHeartbeats 4000000 in
set_option maxRecDepth 100000 in
theorem mX2_isInterrupted (l : Launch) (dC : Nat → ClassId) (dI : Nat → Nat → Nat) (aH aM aW aC aR iW iR : Nat) (x : St) : Met l yX2_isInterrupted wsX2_isInterrupted ({ frames := 0, cells := 0, slots := 0, locals := 0 }) (va_Pc [.ref aC] (kP (dC, dI) [(iW, .int), (iR, .int)] NW (wD aH aM aW aC aR iW iR x))) (QcRead (bi (fX2_isInterrupted x))) 0 0 (fun _ => False) := by
  refine Met.ofW (cc := cX2_isInterrupted) (maxL := 1) (ret := (some .boolean)) (by decide) rfl ?_
  intro p e s m args below meth c s₁ B hml hv
  obtain ⟨rfl, hP, hK, hN⟩ := hv
  have hx := B.exec
  have hb := B.bytes
  have hr := B.returns
  have hB := fun (w : Cond) (h : w ∈ BIG) => atoms_spec (ws := wsX2_isInterrupted) B.pre w (List.mem_cons_of_mem _ h)
  have hown : s.vm.findClass RX2 = some m.cls := findClass_of_methodNamed B.named
  have hlocks := B.notSynchronized
  have hl := lv_entry ([.ref aC]) (n := 1) (Nat.le_of_ble_eq_true rfl)
  rw [lg_entry_eq]
  generalize (lg_sl ([.ref aC]) ++ List.replicate (1 - (lg_sl ([.ref aC])).length) Slot.unset).toArray = ls at hl ⊢
  have hl : lv_has ls 1 [(0, .ref aC)] := hl
  refine lv_aload_n hx hb dX2_isInterrupted_0 rfl (lv_at hl 0 rfl) ?_
  refine va_get (D := (dC, dI)) (ci := 0) (v := .int (g_status x)) (C := RX2) (T := TX2) (N := 9) hx hb hB iX2 hown hK hP 3 rfl rfl 0 (by decide) (hB _ q_t1_39) (fun _ h9 => h9) rfl dX2_isInterrupted_1 ?_
  refine lv_bipush (v := 8) hx hb dX2_isInterrupted_4 (by decide) ?_
  refine lv_iand hx hb dX2_isInterrupted_6 ?_
  refine lv_if_eq (tgt := 32) hx hb dX2_isInterrupted_7 (by decide) (fun c_7 => ?_) (fun c_7 => ?_)
  · refine lv_iconst (v := 0) hx hb dX2_isInterrupted_32 (by decide) ?_
    exact W.zret (v := 0) hx hb hr rfl (fun t ht hW => ⟨congrArg (fun z => Outcome.returned (some (Value.int z))) (by unfold fX2_isInterrupted; rw [if_pos c_7] <;> rfl), ht⟩) (fun q h => nomatch h) dX2_isInterrupted_33
  · refine lv_aload_n hx hb dX2_isInterrupted_10 rfl (lv_at hl 0 rfl) ?_
    refine va_get (D := (dC, dI)) (ci := 0) (v := .int (g_enabled x)) (C := RX2) (T := TX2) (N := 9) hx hb hB iX2 hown hK hP 3 rfl rfl 1 (by decide) (hB _ q_t1_40) (fun _ h9 => h9) rfl dX2_isInterrupted_11 ?_
    refine lv_sipush (v := 2048) hx hb dX2_isInterrupted_14 (by decide) ?_
    refine lv_iand hx hb dX2_isInterrupted_17 ?_
    refine lv_if_eq (tgt := 32) hx hb dX2_isInterrupted_18 (by decide) (fun c_18 => ?_) (fun c_18 => ?_)
    · refine lv_iconst (v := 0) hx hb dX2_isInterrupted_32 (by decide) ?_
      exact W.zret (v := 0) hx hb hr rfl (fun t ht hW => ⟨congrArg (fun z => Outcome.returned (some (Value.int z))) (by unfold fX2_isInterrupted; rw [if_neg c_7, if_pos c_18] <;> rfl), ht⟩) (fun q h => nomatch h) dX2_isInterrupted_33
    · refine lv_aload_n hx hb dX2_isInterrupted_21 rfl (lv_at hl 0 rfl) ?_
      refine va_get (D := (dC, dI)) (ci := 0) (v := .int (bi (g_line x))) (C := RX2) (T := TX2) (N := 9) hx hb hB iX2 hown hK hP 3 rfl rfl 8 (by decide) (hB _ q_t1_50) (fun _ h9 => h9) rfl dX2_isInterrupted_22 ?_
      refine lv_if_eq (tgt := 32) hx hb dX2_isInterrupted_25 (by decide) (fun c_25 => ?_) (fun c_25 => ?_)
      · refine lv_iconst (v := 0) hx hb dX2_isInterrupted_32 (by decide) ?_
        exact W.zret (v := 0) hx hb hr rfl (fun t ht hW => ⟨congrArg (fun z => Outcome.returned (some (Value.int z))) (by unfold fX2_isInterrupted; rw [if_neg c_7, if_neg c_18, if_pos c_25] <;> rfl), ht⟩) (fun q h => nomatch h) dX2_isInterrupted_33
      · refine lv_iconst (v := 1) hx hb dX2_isInterrupted_28 (by decide) ?_
        refine lv_goto (tgt := 33) hx hb dX2_isInterrupted_29 (by decide) ?_
        exact W.zret (v := 1) hx hb hr rfl (fun t ht hW => ⟨congrArg (fun z => Outcome.returned (some (Value.int z))) (by unfold fX2_isInterrupted; rw [if_neg c_7, if_neg c_18, if_neg c_25] <;> rfl), ht⟩) (fun q h => nomatch h) dX2_isInterrupted_33
def fX2_enterTrap (p0 : Int32) (p1 : Int32) (p2 : Int32) (x : St) : St := if ((g_status x) &&& (8 : Int32)) = 0 then
    s_status (s_value (s_cause (s_back x p0) p1) p2) (0 : Int32)
  else
    s_status (s_value (s_cause (s_back x p0) p1) p2) (128 : Int32)
set_option maxHeartbeats 4000000 in
set_option maxRecDepth 100000 in
theorem mX2_enterTrap (l : Launch) (dC : Nat → ClassId) (dI : Nat → Nat → Nat) (aH aM aW aC aR iW iR : Nat) (sz : Nat) (x : St) (p0 : Int32) (p1 : Int32) (p2 : Int32) : Met l yX2_enterTrap wsX2_enterTrap ({ frames := 0, cells := 0, slots := 0, locals := 0 }) (va_Pc [.ref aC, .int p0, .int p1, .int p2] (kM (dC, dI) [(iW, .int), (iR, .int)] NW (wD aH aM aW aC aR iW iR x) sz)) (va_Qv (fun u => u = fX2_enterTrap p0 p1 p2 x) (fun u t => va_P (dC, dI) vwCl (wD aH aM aW aC aR iW iR u) t.heap) (va_A (wD aH aM aW aC aR iW iR x) sz)) 0 0 (va_A (wD aH aM aW aC aR iW iR x) sz) := by
  refine Met.ofW (cc := cX2_enterTrap) (maxL := 4) (ret := none) (by decide) rfl ?_
  intro p e s m args below meth c s₁ B hml hv
  obtain ⟨rfl, hsz, hD0, hP, hK, hN⟩ := hv
  have hx := B.exec
  have hb := B.bytes
  have hr := B.returns
  have hB := fun (w : Cond) (h : w ∈ BIG) => atoms_spec (ws := wsX2_enterTrap) B.pre w (List.mem_cons_of_mem _ h)
  have hown : s.vm.findClass RX2 = some m.cls := findClass_of_methodNamed B.named
  have hlocks := B.notSynchronized
  subst hsz
  have hD := hD0.self (sz := s.heap.size)
  generalize hAe : va_A (wD aH aM aW aC aR iW iR x) s.heap.size = A at hD ⊢
  have hA : ∀ q : Nat, s.heap.size ≤ q → A q := fun q h => by rw [← hAe]; exact Or.inr h
  have hS : va_S A s.heap s.heap [] := va_S.rf
  have hl := lv_entry ([.ref aC, .int p0, .int p1, .int p2]) (n := 4) (Nat.le_of_ble_eq_true rfl)
  rw [lg_entry_eq]
  generalize (lg_sl ([.ref aC, .int p0, .int p1, .int p2]) ++ List.replicate (4 - (lg_sl ([.ref aC, .int p0, .int p1, .int p2])).length) Slot.unset).toArray = ls at hl ⊢
  have hl : lv_has ls 4 [(0, .ref aC), (1, .int p0), (2, .int p1), (3, .int p2)] := hl
  refine lv_aload_n hx hb dX2_enterTrap_0 rfl (lv_at hl 0 rfl) ?_
  refine lv_iload_n hx hb dX2_enterTrap_1 rfl (lv_at hl 1 rfl) ?_
  refine va_put (D := (dC, dI)) (ci := 0) (v := .int p0) (ty := .int) (C := RX2) (T := TX2) (N := 9) hx hb hB iX2 tyX2 tyX2_ok nmX2 hown hK hP hD hS 3 rfl rfl 4 (by decide) (hB _ q_t1_44) (fun _ h9 => h9) rfl (by decide +kernel) rfl rfl (Nat.le_of_ble_eq_true rfl) dX2_enterTrap_2 (fun H locs hP hD hS => ?_)
  have hP : va_P (dC, dI) vwCl (wD aH aM aW aC aR iW iR (s_back x p0)) H := hP
  have hD : va_D A (wD aH aM aW aC aR iW iR (s_back x p0)) := hD
  refine lv_aload_n hx hb dX2_enterTrap_5 rfl (lv_at hl 0 rfl) ?_
  refine lv_iload_n hx hb dX2_enterTrap_6 rfl (lv_at hl 2 rfl) ?_
  refine va_put (D := (dC, dI)) (ci := 0) (v := .int p1) (ty := .int) (C := RX2) (T := TX2) (N := 9) hx hb hB iX2 tyX2 tyX2_ok nmX2 hown hK hP hD hS 3 rfl rfl 5 (by decide) (hB _ q_t1_45) (fun _ h9 => h9) rfl (by decide +kernel) rfl rfl (Nat.le_of_ble_eq_true rfl) dX2_enterTrap_7 (fun H locs hP hD hS => ?_)
  have hP : va_P (dC, dI) vwCl (wD aH aM aW aC aR iW iR (s_cause (s_back x p0) p1)) H := hP
  have hD : va_D A (wD aH aM aW aC aR iW iR (s_cause (s_back x p0) p1)) := hD
  refine lv_aload_n hx hb dX2_enterTrap_10 rfl (lv_at hl 0 rfl) ?_
  refine lv_iload_n hx hb dX2_enterTrap_11 rfl (lv_at hl 3 rfl) ?_
  refine va_put (D := (dC, dI)) (ci := 0) (v := .int p2) (ty := .int) (C := RX2) (T := TX2) (N := 9) hx hb hB iX2 tyX2 tyX2_ok nmX2 hown hK hP hD hS 3 rfl rfl 6 (by decide) (hB _ q_t1_46) (fun _ h9 => h9) rfl (by decide +kernel) rfl rfl (Nat.le_of_ble_eq_true rfl) dX2_enterTrap_12 (fun H locs hP hD hS => ?_)
  have hP : va_P (dC, dI) vwCl (wD aH aM aW aC aR iW iR (s_value (s_cause (s_back x p0) p1) p2)) H := hP
  have hD : va_D A (wD aH aM aW aC aR iW iR (s_value (s_cause (s_back x p0) p1) p2)) := hD
  refine lv_aload_n hx hb dX2_enterTrap_15 rfl (lv_at hl 0 rfl) ?_
  refine lv_aload_n hx hb dX2_enterTrap_16 rfl (lv_at hl 0 rfl) ?_
  refine va_get (D := (dC, dI)) (ci := 0) (v := .int (g_status x)) (C := RX2) (T := TX2) (N := 9) hx hb hB iX2 hown hK hP 3 rfl rfl 0 (by decide) (hB _ q_t1_39) (fun _ h9 => h9) rfl dX2_enterTrap_17 ?_
  refine lv_bipush (v := 8) hx hb dX2_enterTrap_20 (by decide) ?_
  refine lv_iand hx hb dX2_enterTrap_22 ?_
  refine lv_if_eq (tgt := 32) hx hb dX2_enterTrap_23 (by decide) (fun c_23 => ?_) (fun c_23 => ?_)
  · refine lv_iconst (v := 0) hx hb dX2_enterTrap_32 (by decide) ?_
    refine va_put (D := (dC, dI)) (ci := 0) (v := .int (0 : Int32)) (ty := .int) (C := RX2) (T := TX2) (N := 9) hx hb hB iX2 tyX2 tyX2_ok nmX2 hown hK hP hD hS 3 rfl rfl 0 (by decide) (hB _ q_t1_39) (fun _ h9 => h9) rfl (by decide +kernel) rfl rfl (Nat.le_of_ble_eq_true rfl) dX2_enterTrap_33 (fun H locs hP hD hS => ?_)
    have hP : va_P (dC, dI) vwCl (wD aH aM aW aC aR iW iR (s_status (s_value (s_cause (s_back x p0) p1) p2) (0 : Int32))) H := hP
    have hD : va_D A (wD aH aM aW aC aR iW iR (s_status (s_value (s_cause (s_back x p0) p1) p2) (0 : Int32))) := hD
    exact W.vret hx hb hr (fun t ht hW => ⟨⟨(s_status (s_value (s_cause (s_back x p0) p1) p2) (0 : Int32)), rfl, (by unfold fX2_enterTrap; rw [if_pos c_23] <;> rfl), hpT ht hP⟩, hS.F ht⟩) hS.2.2 dX2_enterTrap_36
  · refine lv_sipush (v := 128) hx hb dX2_enterTrap_26 (by decide) ?_
    refine lv_goto (tgt := 33) hx hb dX2_enterTrap_29 (by decide) ?_
    refine va_put (D := (dC, dI)) (ci := 0) (v := .int (128 : Int32)) (ty := .int) (C := RX2) (T := TX2) (N := 9) hx hb hB iX2 tyX2 tyX2_ok nmX2 hown hK hP hD hS 3 rfl rfl 0 (by decide) (hB _ q_t1_39) (fun _ h9 => h9) rfl (by decide +kernel) rfl rfl (Nat.le_of_ble_eq_true rfl) dX2_enterTrap_33 (fun H locs hP hD hS => ?_)
    have hP : va_P (dC, dI) vwCl (wD aH aM aW aC aR iW iR (s_status (s_value (s_cause (s_back x p0) p1) p2) (128 : Int32))) H := hP
    have hD : va_D A (wD aH aM aW aC aR iW iR (s_status (s_value (s_cause (s_back x p0) p1) p2) (128 : Int32))) := hD
    exact W.vret hx hb hr (fun t ht hW => ⟨⟨(s_status (s_value (s_cause (s_back x p0) p1) p2) (128 : Int32)), rfl, (by unfold fX2_enterTrap; rw [if_neg c_23] <;> rfl), hpT ht hP⟩, hS.F ht⟩) hS.2.2 dX2_enterTrap_36
def fX2_leaveTrap (x : St) : Int32 × St := if ((g_status x) &&& (128 : Int32)) = 0 then
    (g_back x, s_status x (128 : Int32))
  else
    (g_back x, s_status x (136 : Int32))
set_option maxHeartbeats 4000000 in
set_option maxRecDepth 100000 in
theorem mX2_leaveTrap (l : Launch) (dC : Nat → ClassId) (dI : Nat → Nat → Nat) (aH aM aW aC aR iW iR : Nat) (sz : Nat) (x : St) : Met l yX2_leaveTrap wsX2_leaveTrap ({ frames := 0, cells := 0, slots := 0, locals := 0 }) (va_Pc [.ref aC] (kM (dC, dI) [(iW, .int), (iR, .int)] NW (wD aH aM aW aC aR iW iR x) sz)) (va_Qi (fun r u => r = (fX2_leaveTrap x).1 ∧ u = (fX2_leaveTrap x).2) (fun u t => va_P (dC, dI) vwCl (wD aH aM aW aC aR iW iR u) t.heap) (va_A (wD aH aM aW aC aR iW iR x) sz)) 0 0 (va_A (wD aH aM aW aC aR iW iR x) sz) := by
  refine Met.ofW (cc := cX2_leaveTrap) (maxL := 1) (ret := (some .int)) (by decide) rfl ?_
  intro p e s m args below meth c s₁ B hml hv
  obtain ⟨rfl, hsz, hD0, hP, hK, hN⟩ := hv
  have hx := B.exec
  have hb := B.bytes
  have hr := B.returns
  have hB := fun (w : Cond) (h : w ∈ BIG) => atoms_spec (ws := wsX2_leaveTrap) B.pre w (List.mem_cons_of_mem _ h)
  have hown : s.vm.findClass RX2 = some m.cls := findClass_of_methodNamed B.named
  have hlocks := B.notSynchronized
  subst hsz
  have hD := hD0.self (sz := s.heap.size)
  generalize hAe : va_A (wD aH aM aW aC aR iW iR x) s.heap.size = A at hD ⊢
  have hA : ∀ q : Nat, s.heap.size ≤ q → A q := fun q h => by rw [← hAe]; exact Or.inr h
  have hS : va_S A s.heap s.heap [] := va_S.rf
  have hl := lv_entry ([.ref aC]) (n := 1) (Nat.le_of_ble_eq_true rfl)
  rw [lg_entry_eq]
  generalize (lg_sl ([.ref aC]) ++ List.replicate (1 - (lg_sl ([.ref aC])).length) Slot.unset).toArray = ls at hl ⊢
  have hl : lv_has ls 1 [(0, .ref aC)] := hl
  refine lv_aload_n hx hb dX2_leaveTrap_0 rfl (lv_at hl 0 rfl) ?_
  refine lv_aload_n hx hb dX2_leaveTrap_1 rfl (lv_at hl 0 rfl) ?_
  refine va_get (D := (dC, dI)) (ci := 0) (v := .int (g_status x)) (C := RX2) (T := TX2) (N := 9) hx hb hB iX2 hown hK hP 3 rfl rfl 0 (by decide) (hB _ q_t1_39) (fun _ h9 => h9) rfl dX2_leaveTrap_2 ?_
  refine lv_sipush (v := 128) hx hb dX2_leaveTrap_5 (by decide) ?_
  refine lv_iand hx hb dX2_leaveTrap_8 ?_
  refine lv_if_eq (tgt := 18) hx hb dX2_leaveTrap_9 (by decide) (fun c_9 => ?_) (fun c_9 => ?_)
  · refine lv_sipush (v := 128) hx hb dX2_leaveTrap_18 (by decide) ?_
    refine va_put (D := (dC, dI)) (ci := 0) (v := .int (128 : Int32)) (ty := .int) (C := RX2) (T := TX2) (N := 9) hx hb hB iX2 tyX2 tyX2_ok nmX2 hown hK hP hD hS 3 rfl rfl 0 (by decide) (hB _ q_t1_39) (fun _ h9 => h9) rfl (by decide +kernel) rfl rfl (Nat.le_of_ble_eq_true rfl) dX2_leaveTrap_21 (fun H locs hP hD hS => ?_)
    have hP : va_P (dC, dI) vwCl (wD aH aM aW aC aR iW iR (s_status x (128 : Int32))) H := hP
    have hD : va_D A (wD aH aM aW aC aR iW iR (s_status x (128 : Int32))) := hD
    refine lv_aload_n hx hb dX2_leaveTrap_24 rfl (lv_at hl 0 rfl) ?_
    refine va_get (D := (dC, dI)) (ci := 0) (v := .int (g_back x)) (C := RX2) (T := TX2) (N := 9) hx hb hB iX2 hown hK hP 3 rfl rfl 4 (by decide) (hB _ q_t1_44) (fun _ h9 => h9) rfl dX2_leaveTrap_25 ?_
    exact W.iret (v := g_back x) hx hb hr (fun t ht hW => ⟨⟨g_back x, (s_status x (128 : Int32)), rfl, ⟨(by unfold fX2_leaveTrap; rw [if_pos c_9] <;> rfl), (by unfold fX2_leaveTrap; rw [if_pos c_9] <;> rfl)⟩, hpT ht hP⟩, hS.F ht⟩) hS.2.2 dX2_leaveTrap_28
  · refine lv_sipush (v := 136) hx hb dX2_leaveTrap_12 (by decide) ?_
    refine lv_goto (tgt := 21) hx hb dX2_leaveTrap_15 (by decide) ?_
    refine va_put (D := (dC, dI)) (ci := 0) (v := .int (136 : Int32)) (ty := .int) (C := RX2) (T := TX2) (N := 9) hx hb hB iX2 tyX2 tyX2_ok nmX2 hown hK hP hD hS 3 rfl rfl 0 (by decide) (hB _ q_t1_39) (fun _ h9 => h9) rfl (by decide +kernel) rfl rfl (Nat.le_of_ble_eq_true rfl) dX2_leaveTrap_21 (fun H locs hP hD hS => ?_)
    have hP : va_P (dC, dI) vwCl (wD aH aM aW aC aR iW iR (s_status x (136 : Int32))) H := hP
    have hD : va_D A (wD aH aM aW aC aR iW iR (s_status x (136 : Int32))) := hD
    refine lv_aload_n hx hb dX2_leaveTrap_24 rfl (lv_at hl 0 rfl) ?_
    refine va_get (D := (dC, dI)) (ci := 0) (v := .int (g_back x)) (C := RX2) (T := TX2) (N := 9) hx hb hB iX2 hown hK hP 3 rfl rfl 4 (by decide) (hB _ q_t1_44) (fun _ h9 => h9) rfl dX2_leaveTrap_25 ?_
    exact W.iret (v := g_back x) hx hb hr (fun t ht hW => ⟨⟨g_back x, (s_status x (136 : Int32)), rfl, ⟨(by unfold fX2_leaveTrap; rw [if_neg c_9] <;> rfl), (by unfold fX2_leaveTrap; rw [if_neg c_9] <;> rfl)⟩, hpT ht hP⟩, hS.F ht⟩) hS.2.2 dX2_leaveTrap_28
def fX2_clear (x : St) : St := s_done (s_value (s_cause (s_back (s_scratch (s_vector (s_enabled (s_status x (0 : Int32)) (0 : Int32)) (0 : Int32)) (0 : Int32)) (0 : Int32)) (0 : Int32)) (0 : Int32)) (0 : Int32)
set_option maxHeartbeats 4000000 in
set_option maxRecDepth 100000 in
theorem mX2_clear (l : Launch) (dC : Nat → ClassId) (dI : Nat → Nat → Nat) (aH aM aW aC aR iW iR : Nat) (sz : Nat) (x : St) : Met l yX2_clear wsX2_clear ({ frames := 0, cells := 0, slots := 0, locals := 0 }) (va_Pc [.ref aC] (kM (dC, dI) [(iW, .int), (iR, .int)] NW (wD aH aM aW aC aR iW iR x) sz)) (va_Qv (fun u => u = fX2_clear x) (fun u t => va_P (dC, dI) vwCl (wD aH aM aW aC aR iW iR u) t.heap) (va_A (wD aH aM aW aC aR iW iR x) sz)) 0 0 (va_A (wD aH aM aW aC aR iW iR x) sz) := by
  refine Met.ofW (cc := cX2_clear) (maxL := 1) (ret := none) (by decide) rfl ?_
  intro p e s m args below meth c s₁ B hml hv
  obtain ⟨rfl, hsz, hD0, hP, hK, hN⟩ := hv
  have hx := B.exec
  have hb := B.bytes
  have hr := B.returns
  have hB := fun (w : Cond) (h : w ∈ BIG) => atoms_spec (ws := wsX2_clear) B.pre w (List.mem_cons_of_mem _ h)
  have hown : s.vm.findClass RX2 = some m.cls := findClass_of_methodNamed B.named
  have hlocks := B.notSynchronized
  subst hsz
  have hD := hD0.self (sz := s.heap.size)
  generalize hAe : va_A (wD aH aM aW aC aR iW iR x) s.heap.size = A at hD ⊢
  have hA : ∀ q : Nat, s.heap.size ≤ q → A q := fun q h => by rw [← hAe]; exact Or.inr h
  have hS : va_S A s.heap s.heap [] := va_S.rf
  have hl := lv_entry ([.ref aC]) (n := 1) (Nat.le_of_ble_eq_true rfl)
  rw [lg_entry_eq]
  generalize (lg_sl ([.ref aC]) ++ List.replicate (1 - (lg_sl ([.ref aC])).length) Slot.unset).toArray = ls at hl ⊢
  have hl : lv_has ls 1 [(0, .ref aC)] := hl
  refine lv_aload_n hx hb dX2_clear_0 rfl (lv_at hl 0 rfl) ?_
  refine lv_iconst (v := 0) hx hb dX2_clear_1 (by decide) ?_
  refine va_put (D := (dC, dI)) (ci := 0) (v := .int (0 : Int32)) (ty := .int) (C := RX2) (T := TX2) (N := 9) hx hb hB iX2 tyX2 tyX2_ok nmX2 hown hK hP hD hS 3 rfl rfl 0 (by decide) (hB _ q_t1_39) (fun _ h9 => h9) rfl (by decide +kernel) rfl rfl (Nat.le_of_ble_eq_true rfl) dX2_clear_2 (fun H locs hP hD hS => ?_)
  have hP : va_P (dC, dI) vwCl (wD aH aM aW aC aR iW iR (s_status x (0 : Int32))) H := hP
  have hD : va_D A (wD aH aM aW aC aR iW iR (s_status x (0 : Int32))) := hD
  refine lv_aload_n hx hb dX2_clear_5 rfl (lv_at hl 0 rfl) ?_
  refine lv_iconst (v := 0) hx hb dX2_clear_6 (by decide) ?_
  refine va_put (D := (dC, dI)) (ci := 0) (v := .int (0 : Int32)) (ty := .int) (C := RX2) (T := TX2) (N := 9) hx hb hB iX2 tyX2 tyX2_ok nmX2 hown hK hP hD hS 3 rfl rfl 1 (by decide) (hB _ q_t1_40) (fun _ h9 => h9) rfl (by decide +kernel) rfl rfl (Nat.le_of_ble_eq_true rfl) dX2_clear_7 (fun H locs hP hD hS => ?_)
  have hP : va_P (dC, dI) vwCl (wD aH aM aW aC aR iW iR (s_enabled (s_status x (0 : Int32)) (0 : Int32))) H := hP
  have hD : va_D A (wD aH aM aW aC aR iW iR (s_enabled (s_status x (0 : Int32)) (0 : Int32))) := hD
  refine lv_aload_n hx hb dX2_clear_10 rfl (lv_at hl 0 rfl) ?_
  refine lv_iconst (v := 0) hx hb dX2_clear_11 (by decide) ?_
  refine va_put (D := (dC, dI)) (ci := 0) (v := .int (0 : Int32)) (ty := .int) (C := RX2) (T := TX2) (N := 9) hx hb hB iX2 tyX2 tyX2_ok nmX2 hown hK hP hD hS 3 rfl rfl 2 (by decide) (hB _ q_t1_41) (fun _ h9 => h9) rfl (by decide +kernel) rfl rfl (Nat.le_of_ble_eq_true rfl) dX2_clear_12 (fun H locs hP hD hS => ?_)
  have hP : va_P (dC, dI) vwCl (wD aH aM aW aC aR iW iR (s_vector (s_enabled (s_status x (0 : Int32)) (0 : Int32)) (0 : Int32))) H := hP
  have hD : va_D A (wD aH aM aW aC aR iW iR (s_vector (s_enabled (s_status x (0 : Int32)) (0 : Int32)) (0 : Int32))) := hD
  refine lv_aload_n hx hb dX2_clear_15 rfl (lv_at hl 0 rfl) ?_
  refine lv_iconst (v := 0) hx hb dX2_clear_16 (by decide) ?_
  refine va_put (D := (dC, dI)) (ci := 0) (v := .int (0 : Int32)) (ty := .int) (C := RX2) (T := TX2) (N := 9) hx hb hB iX2 tyX2 tyX2_ok nmX2 hown hK hP hD hS 3 rfl rfl 3 (by decide) (hB _ q_t1_43) (fun _ h9 => h9) rfl (by decide +kernel) rfl rfl (Nat.le_of_ble_eq_true rfl) dX2_clear_17 (fun H locs hP hD hS => ?_)
  have hP : va_P (dC, dI) vwCl (wD aH aM aW aC aR iW iR (s_scratch (s_vector (s_enabled (s_status x (0 : Int32)) (0 : Int32)) (0 : Int32)) (0 : Int32))) H := hP
  have hD : va_D A (wD aH aM aW aC aR iW iR (s_scratch (s_vector (s_enabled (s_status x (0 : Int32)) (0 : Int32)) (0 : Int32)) (0 : Int32))) := hD
  refine lv_aload_n hx hb dX2_clear_20 rfl (lv_at hl 0 rfl) ?_
  refine lv_iconst (v := 0) hx hb dX2_clear_21 (by decide) ?_
  refine va_put (D := (dC, dI)) (ci := 0) (v := .int (0 : Int32)) (ty := .int) (C := RX2) (T := TX2) (N := 9) hx hb hB iX2 tyX2 tyX2_ok nmX2 hown hK hP hD hS 3 rfl rfl 4 (by decide) (hB _ q_t1_44) (fun _ h9 => h9) rfl (by decide +kernel) rfl rfl (Nat.le_of_ble_eq_true rfl) dX2_clear_22 (fun H locs hP hD hS => ?_)
  have hP : va_P (dC, dI) vwCl (wD aH aM aW aC aR iW iR (s_back (s_scratch (s_vector (s_enabled (s_status x (0 : Int32)) (0 : Int32)) (0 : Int32)) (0 : Int32)) (0 : Int32))) H := hP
  have hD : va_D A (wD aH aM aW aC aR iW iR (s_back (s_scratch (s_vector (s_enabled (s_status x (0 : Int32)) (0 : Int32)) (0 : Int32)) (0 : Int32)) (0 : Int32))) := hD
  refine lv_aload_n hx hb dX2_clear_25 rfl (lv_at hl 0 rfl) ?_
  refine lv_iconst (v := 0) hx hb dX2_clear_26 (by decide) ?_
  refine va_put (D := (dC, dI)) (ci := 0) (v := .int (0 : Int32)) (ty := .int) (C := RX2) (T := TX2) (N := 9) hx hb hB iX2 tyX2 tyX2_ok nmX2 hown hK hP hD hS 3 rfl rfl 5 (by decide) (hB _ q_t1_45) (fun _ h9 => h9) rfl (by decide +kernel) rfl rfl (Nat.le_of_ble_eq_true rfl) dX2_clear_27 (fun H locs hP hD hS => ?_)
  have hP : va_P (dC, dI) vwCl (wD aH aM aW aC aR iW iR (s_cause (s_back (s_scratch (s_vector (s_enabled (s_status x (0 : Int32)) (0 : Int32)) (0 : Int32)) (0 : Int32)) (0 : Int32)) (0 : Int32))) H := hP
  have hD : va_D A (wD aH aM aW aC aR iW iR (s_cause (s_back (s_scratch (s_vector (s_enabled (s_status x (0 : Int32)) (0 : Int32)) (0 : Int32)) (0 : Int32)) (0 : Int32)) (0 : Int32))) := hD
  refine lv_aload_n hx hb dX2_clear_30 rfl (lv_at hl 0 rfl) ?_
  refine lv_iconst (v := 0) hx hb dX2_clear_31 (by decide) ?_
  refine va_put (D := (dC, dI)) (ci := 0) (v := .int (0 : Int32)) (ty := .int) (C := RX2) (T := TX2) (N := 9) hx hb hB iX2 tyX2 tyX2_ok nmX2 hown hK hP hD hS 3 rfl rfl 6 (by decide) (hB _ q_t1_46) (fun _ h9 => h9) rfl (by decide +kernel) rfl rfl (Nat.le_of_ble_eq_true rfl) dX2_clear_32 (fun H locs hP hD hS => ?_)
  have hP : va_P (dC, dI) vwCl (wD aH aM aW aC aR iW iR (s_value (s_cause (s_back (s_scratch (s_vector (s_enabled (s_status x (0 : Int32)) (0 : Int32)) (0 : Int32)) (0 : Int32)) (0 : Int32)) (0 : Int32)) (0 : Int32))) H := hP
  have hD : va_D A (wD aH aM aW aC aR iW iR (s_value (s_cause (s_back (s_scratch (s_vector (s_enabled (s_status x (0 : Int32)) (0 : Int32)) (0 : Int32)) (0 : Int32)) (0 : Int32)) (0 : Int32)) (0 : Int32))) := hD
  refine lv_aload_n hx hb dX2_clear_35 rfl (lv_at hl 0 rfl) ?_
  refine lv_iconst (v := 0) hx hb dX2_clear_36 (by decide) ?_
  refine va_put (D := (dC, dI)) (ci := 0) (v := .int (0 : Int32)) (ty := .int) (C := RX2) (T := TX2) (N := 9) hx hb hB iX2 tyX2 tyX2_ok nmX2 hown hK hP hD hS 3 rfl rfl 7 (by decide) (hB _ q_t1_47) (fun _ h9 => h9) rfl (by decide +kernel) rfl rfl (Nat.le_of_ble_eq_true rfl) dX2_clear_37 (fun H locs hP hD hS => ?_)
  have hP : va_P (dC, dI) vwCl (wD aH aM aW aC aR iW iR (s_done (s_value (s_cause (s_back (s_scratch (s_vector (s_enabled (s_status x (0 : Int32)) (0 : Int32)) (0 : Int32)) (0 : Int32)) (0 : Int32)) (0 : Int32)) (0 : Int32)) (0 : Int32))) H := hP
  have hD : va_D A (wD aH aM aW aC aR iW iR (s_done (s_value (s_cause (s_back (s_scratch (s_vector (s_enabled (s_status x (0 : Int32)) (0 : Int32)) (0 : Int32)) (0 : Int32)) (0 : Int32)) (0 : Int32)) (0 : Int32)) (0 : Int32))) := hD
  exact W.vret hx hb hr (fun t ht hW => ⟨⟨(s_done (s_value (s_cause (s_back (s_scratch (s_vector (s_enabled (s_status x (0 : Int32)) (0 : Int32)) (0 : Int32)) (0 : Int32)) (0 : Int32)) (0 : Int32)) (0 : Int32)) (0 : Int32)), rfl, rfl, hpT ht hP⟩, hS.F ht⟩) hS.2.2 dX2_clear_40
def fX3_clear (x : St) : St := s_mem x (fillf 1024 (0 : Int32) (g_mem x))
set_option maxHeartbeats 4000000 in
set_option maxRecDepth 100000 in
theorem mX3_clear (l : Launch) (dC : Nat → ClassId) (dI : Nat → Nat → Nat) (aH aM aW aC aR iW iR : Nat) (sz : Nat) (x : St) : Met l yX3_clear wsX3_clear ({ frames := 1, cells := 0, slots := 0, locals := 23 }) (va_Pc [.ref aM] (kM (dC, dI) [(iW, .int), (iR, .int)] NW (wD aH aM aW aC aR iW iR x) sz)) (va_Qv (fun u => u = fX3_clear x) (fun u t => va_P (dC, dI) vwCl (wD aH aM aW aC aR iW iR u) t.heap) (va_A (wD aH aM aW aC aR iW iR x) sz)) 0 0 (va_A (wD aH aM aW aC aR iW iR x) sz) := by
  refine Met.ofW (cc := cX3_clear) (maxL := 1) (ret := none) (by decide) rfl ?_
  intro p e s m args below meth c s₁ B hml hv
  obtain ⟨rfl, hsz, hD0, hP, hK, hN⟩ := hv
  have hx := B.exec
  have hb := B.bytes
  have hr := B.returns
  have hB := fun (w : Cond) (h : w ∈ BIG) => atoms_spec (ws := wsX3_clear) B.pre w (List.mem_cons_of_mem _ h)
  have hown : s.vm.findClass RX3 = some m.cls := findClass_of_methodNamed B.named
  have hlocks := B.notSynchronized
  subst hsz
  have hD := hD0.self (sz := s.heap.size)
  generalize hAe : va_A (wD aH aM aW aC aR iW iR x) s.heap.size = A at hD ⊢
  have hA : ∀ q : Nat, s.heap.size ≤ q → A q := fun q h => by rw [← hAe]; exact Or.inr h
  have hS : va_S A s.heap s.heap [] := va_S.rf
  have hl := lv_entry ([.ref aM]) (n := 1) (Nat.le_of_ble_eq_true rfl)
  rw [lg_entry_eq]
  generalize (lg_sl ([.ref aM]) ++ List.replicate (1 - (lg_sl ([.ref aM])).length) Slot.unset).toArray = ls at hl ⊢
  have hl : lv_has ls 1 [(0, .ref aM)] := hl
  refine lv_aload_n hx hb dX3_clear_0 rfl (lv_at hl 0 rfl) ?_
  refine va_get (D := (dC, dI)) (ci := 1) (v := .ref aW) (C := RX3) (T := TX3) (N := 1) hx hb hB iX3 hown hK hP 1 rfl rfl 0 (by decide) (hB _ q_t1_28) (fun _ h9 => h9) rfl dX3_clear_1 ?_
  refine lv_iconst (v := 0) hx hb dX3_clear_4 (by decide) ?_
  refine k_mv (w := fun u : Nat → Int32 => (wD aH aM aW aC aR iW iR x).set 2 (aW, .inl (iW, 1024, .inl u))) (x := g_mem x) (fun _ _ => rfl) (va_runS (As := [.ref aW, .int (0 : Int32)]) (rest := []) ⟨hx, hb, hml, hown, hB⟩ (m_fill l dC dI (wD aH aM aW aC aR iW iR x) [(iW, .int), (iR, .int)] 2 0 aW iW 1024 (g_mem x) (0 : Int32) s.heap.size rfl rfl (by decide)) (va_cwS 2 hB (gS q_t1_137 q_t1_127 q_t1_12 wJ7_fill) rfl rfl rfl hJ7_fill.2 ⟨Nat.le_of_ble_eq_true rfl, Nat.le_of_ble_eq_true rfl⟩) ⟨kM_blind NW_blind, kM_pre NW_warm hP hK hD hN⟩ rfl rfl hl.1 rfl (lv_room (Nat.le_of_ble_eq_true rfl)) dX3_clear_5 ⟨Nat.zero_le _, Nat.zero_le _⟩) hD hS hA (fun u H locs hw hP hD hS => ?_)
  obtain rfl := hw
  have hP : va_P (dC, dI) vwCl (wD aH aM aW aC aR iW iR (s_mem x (fillf 1024 (0 : Int32) (g_mem x)))) H := hP
  have hD : va_D A (wD aH aM aW aC aR iW iR (s_mem x (fillf 1024 (0 : Int32) (g_mem x)))) := hD
  exact W.vret hx hb hr (fun t ht hW => ⟨⟨(s_mem x (fillf 1024 (0 : Int32) (g_mem x))), rfl, rfl, hpT ht hP⟩, hS.F ht⟩) hS.2.2 dX3_clear_8
end
section
def fX4_readRegister (p0 : Int32) (x : St) : Int32 := if p0 < (1 : Int32) then
    (0 : Int32)
  else
    if (32 : Int32) ≤ p0 then
      (0 : Int32)
    else
      (g_reg x) p0.toNatClampNeg
set_option maxHeartbeats 4000000 in
set_option maxRecDepth 100000 in
theorem mX4_readRegister (l : Launch) (dC : Nat → ClassId) (dI : Nat → Nat → Nat) (aH aM aW aC aR iW iR : Nat) (x : St) (p0 : Int32) : Met l yX4_readRegister wsX4_readRegister ({ frames := 0, cells := 0, slots := 0, locals := 0 }) (va_Pc [.ref aH, .int p0] (kP (dC, dI) [(iW, .int), (iR, .int)] NW (wD aH aM aW aC aR iW iR x))) (QcRead ((fX4_readRegister p0 x))) 0 0 (fun _ => False) := by
  refine Met.ofW (cc := cX4_readRegister) (maxL := 2) (ret := (some .int)) (by decide) rfl ?_
  intro p e s m args below meth c s₁ B hml hv
  obtain ⟨rfl, hP, hK, hN⟩ := hv
  have hx := B.exec
  have hb := B.bytes
  have hr := B.returns
  have hB := fun (w : Cond) (h : w ∈ BIG) => atoms_spec (ws := wsX4_readRegister) B.pre w (List.mem_cons_of_mem _ h)
  have hown : s.vm.findClass RX4 = some m.cls := findClass_of_methodNamed B.named
  have hlocks := B.notSynchronized
  have hl := lv_entry ([.ref aH, .int p0]) (n := 2) (Nat.le_of_ble_eq_true rfl)
  rw [lg_entry_eq]
  generalize (lg_sl ([.ref aH, .int p0]) ++ List.replicate (2 - (lg_sl ([.ref aH, .int p0])).length) Slot.unset).toArray = ls at hl ⊢
  have hl : lv_has ls 2 [(0, .ref aH), (1, .int p0)] := hl
  refine lv_iload_n hx hb dX4_readRegister_0 rfl (lv_at hl 1 rfl) ?_
  refine lv_iconst (v := 1) hx hb dX4_readRegister_1 (by decide) ?_
  refine lv_icmp_lt (tgt := 23) hx hb dX4_readRegister_2 (by decide) (fun c_2 => ?_) (fun c_2 => ?_)
  · refine lv_iconst (v := 0) hx hb dX4_readRegister_23 (by decide) ?_
    exact W.iret (v := (0 : Int32)) hx hb hr (fun t ht hW => ⟨congrArg (fun z => Outcome.returned (some (Value.int z))) (by unfold fX4_readRegister; rw [if_pos c_2] <;> rfl), ht⟩) (fun q h => nomatch h) dX4_readRegister_24
  · refine lv_iload_n hx hb dX4_readRegister_5 rfl (lv_at hl 1 rfl) ?_
    refine lv_aload_n hx hb dX4_readRegister_6 rfl (lv_at hl 0 rfl) ?_
    refine va_get (D := (dC, dI)) (ci := 2) (v := .ref aR) (C := RX4) (T := TX4) (N := 7) hx hb hB iX4 hown hK hP 0 rfl rfl 2 (by decide) (hB _ q_t1_72) (fun _ h9 => h9) rfl dX4_readRegister_7 ?_
    refine va_alen (v := 32) hx hb hK hP 4 1 rfl rfl rfl dX4_readRegister_10 ?_
    refine lv_icmp_ge (tgt := 23) hx hb dX4_readRegister_11 (by decide) (fun c_11 => ?_) (fun c_11 => ?_)
    · refine lv_iconst (v := 0) hx hb dX4_readRegister_23 (by decide) ?_
      exact W.iret (v := (0 : Int32)) hx hb hr (fun t ht hW => ⟨congrArg (fun z => Outcome.returned (some (Value.int z))) (by unfold fX4_readRegister; rw [if_neg c_2, if_pos c_11] <;> rfl), ht⟩) (fun q h => nomatch h) dX4_readRegister_24
    · refine lv_aload_n hx hb dX4_readRegister_14 rfl (lv_at hl 0 rfl) ?_
      refine va_get (D := (dC, dI)) (ci := 2) (v := .ref aR) (C := RX4) (T := TX4) (N := 7) hx hb hB iX4 hown hK hP 0 rfl rfl 2 (by decide) (hB _ q_t1_72) (fun _ h9 => h9) rfl dX4_readRegister_15 ?_
      refine lv_iload_n hx hb dX4_readRegister_18 rfl (lv_at hl 1 rfl) ?_
      refine va_iald hx hb hK hP 4 1 rfl rfl (in_reg c_2 c_11) dX4_readRegister_19 ?_
      refine lv_goto (tgt := 24) hx hb dX4_readRegister_20 (by decide) ?_
      exact W.iret (v := (g_reg x) p0.toNatClampNeg) hx hb hr (fun t ht hW => ⟨congrArg (fun z => Outcome.returned (some (Value.int z))) (by unfold fX4_readRegister; rw [if_neg c_2, if_neg c_11] <;> rfl), ht⟩) (fun q h => nomatch h) dX4_readRegister_24
def fX4_writeRegister (p0 : Int32) (p1 : Int32) (x : St) : St := if p0 < (1 : Int32) then
    x
  else
    if (32 : Int32) ≤ p0 then
      x
    else
      s_reg x (upd (g_reg x) p0.toNatClampNeg p1)
set_option maxHeartbeats 4000000 in
set_option maxRecDepth 100000 in
theorem mX4_writeRegister (l : Launch) (dC : Nat → ClassId) (dI : Nat → Nat → Nat) (aH aM aW aC aR iW iR : Nat) (sz : Nat) (x : St) (p0 : Int32) (p1 : Int32) : Met l yX4_writeRegister wsX4_writeRegister ({ frames := 0, cells := 0, slots := 0, locals := 0 }) (va_Pc [.ref aH, .int p0, .int p1] (kM (dC, dI) [(iW, .int), (iR, .int)] NW (wD aH aM aW aC aR iW iR x) sz)) (va_Qv (fun u => u = fX4_writeRegister p0 p1 x) (fun u t => va_P (dC, dI) vwCl (wD aH aM aW aC aR iW iR u) t.heap) (va_A (wD aH aM aW aC aR iW iR x) sz)) 0 0 (va_A (wD aH aM aW aC aR iW iR x) sz) := by
  refine Met.ofW (cc := cX4_writeRegister) (maxL := 3) (ret := none) (by decide) rfl ?_
  intro p e s m args below meth c s₁ B hml hv
  obtain ⟨rfl, hsz, hD0, hP, hK, hN⟩ := hv
  have hx := B.exec
  have hb := B.bytes
  have hr := B.returns
  have hB := fun (w : Cond) (h : w ∈ BIG) => atoms_spec (ws := wsX4_writeRegister) B.pre w (List.mem_cons_of_mem _ h)
  have hown : s.vm.findClass RX4 = some m.cls := findClass_of_methodNamed B.named
  have hlocks := B.notSynchronized
  subst hsz
  have hD := hD0.self (sz := s.heap.size)
  generalize hAe : va_A (wD aH aM aW aC aR iW iR x) s.heap.size = A at hD ⊢
  have hA : ∀ q : Nat, s.heap.size ≤ q → A q := fun q h => by rw [← hAe]; exact Or.inr h
  have hS : va_S A s.heap s.heap [] := va_S.rf
  have hl := lv_entry ([.ref aH, .int p0, .int p1]) (n := 3) (Nat.le_of_ble_eq_true rfl)
  rw [lg_entry_eq]
  generalize (lg_sl ([.ref aH, .int p0, .int p1]) ++ List.replicate (3 - (lg_sl ([.ref aH, .int p0, .int p1])).length) Slot.unset).toArray = ls at hl ⊢
  have hl : lv_has ls 3 [(0, .ref aH), (1, .int p0), (2, .int p1)] := hl
  refine lv_iload_n hx hb dX4_writeRegister_0 rfl (lv_at hl 1 rfl) ?_
  refine lv_iconst (v := 1) hx hb dX4_writeRegister_1 (by decide) ?_
  refine lv_icmp_lt (tgt := 21) hx hb dX4_writeRegister_2 (by decide) (fun c_2 => ?_) (fun c_2 => ?_)
  · exact W.vret hx hb hr (fun t ht hW => ⟨⟨x, rfl, (by unfold fX4_writeRegister; rw [if_pos c_2] <;> rfl), hpT ht hP⟩, hS.F ht⟩) hS.2.2 dX4_writeRegister_21
  · refine lv_iload_n hx hb dX4_writeRegister_5 rfl (lv_at hl 1 rfl) ?_
    refine lv_aload_n hx hb dX4_writeRegister_6 rfl (lv_at hl 0 rfl) ?_
    refine va_get (D := (dC, dI)) (ci := 2) (v := .ref aR) (C := RX4) (T := TX4) (N := 7) hx hb hB iX4 hown hK hP 0 rfl rfl 2 (by decide) (hB _ q_t1_72) (fun _ h9 => h9) rfl dX4_writeRegister_7 ?_
    refine va_alen (v := 32) hx hb hK hP 4 1 rfl rfl rfl dX4_writeRegister_10 ?_
    refine lv_icmp_ge (tgt := 21) hx hb dX4_writeRegister_11 (by decide) (fun c_11 => ?_) (fun c_11 => ?_)
    · exact W.vret hx hb hr (fun t ht hW => ⟨⟨x, rfl, (by unfold fX4_writeRegister; rw [if_neg c_2, if_pos c_11] <;> rfl), hpT ht hP⟩, hS.F ht⟩) hS.2.2 dX4_writeRegister_21
    · refine lv_aload_n hx hb dX4_writeRegister_14 rfl (lv_at hl 0 rfl) ?_
      refine va_get (D := (dC, dI)) (ci := 2) (v := .ref aR) (C := RX4) (T := TX4) (N := 7) hx hb hB iX4 hown hK hP 0 rfl rfl 2 (by decide) (hB _ q_t1_72) (fun _ h9 => h9) rfl dX4_writeRegister_15 ?_
      refine lv_iload_n hx hb dX4_writeRegister_18 rfl (lv_at hl 1 rfl) ?_
      refine lv_iload_n hx hb dX4_writeRegister_19 rfl (lv_at hl 2 rfl) ?_
      refine va_iast hx hb hK hP hD hS 4 1 rfl rfl (in_reg c_2 c_11) dX4_writeRegister_20 (fun H locs hP hD hS => ?_)
      have hP : va_P (dC, dI) vwCl (wD aH aM aW aC aR iW iR (s_reg x (upd (g_reg x) p0.toNatClampNeg p1))) H := hP
      have hD : va_D A (wD aH aM aW aC aR iW iR (s_reg x (upd (g_reg x) p0.toNatClampNeg p1))) := hD
      exact W.vret hx hb hr (fun t ht hW => ⟨⟨(s_reg x (upd (g_reg x) p0.toNatClampNeg p1)), rfl, (by unfold fX4_writeRegister; rw [if_neg c_2, if_neg c_11] <;> rfl), hpT ht hP⟩, hS.F ht⟩) hS.2.2 dX4_writeRegister_21
def fX4_valueA (p0 : Int32) (x : St) : Int32 := fX4_readRegister (fX1_a p0) x
set_option maxHeartbeats 4000000 in
set_option maxRecDepth 100000 in
theorem mX4_valueA (l : Launch) (dC : Nat → ClassId) (dI : Nat → Nat → Nat) (aH aM aW aC aR iW iR : Nat) (x : St) (p0 : Int32) : Met l yX4_valueA wsX4_valueA ({ frames := 1, cells := 0, slots := 0, locals := 21 }) (va_Pc [.ref aH, .int p0] (kP (dC, dI) [(iW, .int), (iR, .int)] NW (wD aH aM aW aC aR iW iR x))) (QcRead ((fX4_valueA p0 x))) 0 0 (fun _ => False) := by
  refine Met.ofW (cc := cX4_valueA) (maxL := 2) (ret := (some .int)) (by decide) rfl ?_
  intro p e s m args below meth c s₁ B hml hv
  obtain ⟨rfl, hP, hK, hN⟩ := hv
  have hx := B.exec
  have hb := B.bytes
  have hr := B.returns
  have hB := fun (w : Cond) (h : w ∈ BIG) => atoms_spec (ws := wsX4_valueA) B.pre w (List.mem_cons_of_mem _ h)
  have hown : s.vm.findClass RX4 = some m.cls := findClass_of_methodNamed B.named
  have hlocks := B.notSynchronized
  have hl := lv_entry ([.ref aH, .int p0]) (n := 2) (Nat.le_of_ble_eq_true rfl)
  rw [lg_entry_eq]
  generalize (lg_sl ([.ref aH, .int p0]) ++ List.replicate (2 - (lg_sl ([.ref aH, .int p0])).length) Slot.unset).toArray = ls at hl ⊢
  have hl : lv_has ls 2 [(0, .ref aH), (1, .int p0)] := hl
  refine lv_aload_n hx hb dX4_valueA_0 rfl (lv_at hl 0 rfl) ?_
  refine lv_iload_n hx hb dX4_valueA_1 rfl (lv_at hl 1 rfl) ?_
  refine k_ri (va_runSN (As := [.int p0]) (rest := [.ref aH]) ⟨hx, hb, hml, hown, hB⟩ (mX1_a l p0) ⟨va_cnB 1 hB (good_in wX1_a) rfl rfl rfl (hN _ (List.mem_of_getElem? (i := 0) rfl)) (hB _ q_t1_10) hX1_a.2 ⟨Nat.le_of_ble_eq_true rfl, Nat.le_of_ble_eq_true rfl⟩, hB _ q_t2_67, trivial⟩ ⟨fun _ _ _ _ q => q, fun U _ _ => ⟨rfl, trivial⟩⟩ rfl rfl hl.1 rfl (lv_room (Nat.le_of_ble_eq_true rfl)) dX4_valueA_2 ⟨Nat.zero_le _, Nat.zero_le _⟩) ?_
  refine k_ri (va_runV (As := [.int (fX1_a p0)]) (rest := []) ⟨hx, hb, hml, hown, hB⟩ (mX4_readRegister l dC dI aH aM aW aC aR iW iR x (fX1_a p0)) (cwV 1 hB (gV q_t2_69 q_t2_71 q_s_19 q_t1_1 wX4_readRegister) rfl rfl rfl hX4_readRegister ⟨Nat.le_of_ble_eq_true rfl, Nat.le_of_ble_eq_true rfl⟩) ⟨kP_blind NW_blind, va_recv hK hP (ci := 2) (q0 := 0) rfl rfl, kP_pre NW_warm hP hK hN⟩ rfl rfl hl.1 rfl (lv_room (Nat.le_of_ble_eq_true rfl)) dX4_valueA_5 ⟨Nat.zero_le _, Nat.zero_le _⟩) ?_
  exact W.iret (v := fX4_readRegister (fX1_a p0) x) hx hb hr (fun t ht hW => ⟨congrArg (fun z => Outcome.returned (some (Value.int z))) rfl, ht⟩) (fun q h => nomatch h) dX4_valueA_8
def fX4_valueB (p0 : Int32) (x : St) : Int32 := fX4_readRegister (fX1_b p0) x
set_option maxHeartbeats 4000000 in
set_option maxRecDepth 100000 in
theorem mX4_valueB (l : Launch) (dC : Nat → ClassId) (dI : Nat → Nat → Nat) (aH aM aW aC aR iW iR : Nat) (x : St) (p0 : Int32) : Met l yX4_valueB wsX4_valueB ({ frames := 1, cells := 0, slots := 0, locals := 21 }) (va_Pc [.ref aH, .int p0] (kP (dC, dI) [(iW, .int), (iR, .int)] NW (wD aH aM aW aC aR iW iR x))) (QcRead ((fX4_valueB p0 x))) 0 0 (fun _ => False) := by
  refine Met.ofW (cc := cX4_valueB) (maxL := 2) (ret := (some .int)) (by decide) rfl ?_
  intro p e s m args below meth c s₁ B hml hv
  obtain ⟨rfl, hP, hK, hN⟩ := hv
  have hx := B.exec
  have hb := B.bytes
  have hr := B.returns
  have hB := fun (w : Cond) (h : w ∈ BIG) => atoms_spec (ws := wsX4_valueB) B.pre w (List.mem_cons_of_mem _ h)
  have hown : s.vm.findClass RX4 = some m.cls := findClass_of_methodNamed B.named
  have hlocks := B.notSynchronized
  have hl := lv_entry ([.ref aH, .int p0]) (n := 2) (Nat.le_of_ble_eq_true rfl)
  rw [lg_entry_eq]
  generalize (lg_sl ([.ref aH, .int p0]) ++ List.replicate (2 - (lg_sl ([.ref aH, .int p0])).length) Slot.unset).toArray = ls at hl ⊢
  have hl : lv_has ls 2 [(0, .ref aH), (1, .int p0)] := hl
  refine lv_aload_n hx hb dX4_valueB_0 rfl (lv_at hl 0 rfl) ?_
  refine lv_iload_n hx hb dX4_valueB_1 rfl (lv_at hl 1 rfl) ?_
  refine k_ri (va_runSN (As := [.int p0]) (rest := [.ref aH]) ⟨hx, hb, hml, hown, hB⟩ (mX1_b l p0) ⟨va_cnB 1 hB (good_in wX1_b) rfl rfl rfl (hN _ (List.mem_of_getElem? (i := 1) rfl)) (hB _ q_t1_10) hX1_b.2 ⟨Nat.le_of_ble_eq_true rfl, Nat.le_of_ble_eq_true rfl⟩, hB _ q_t2_85, trivial⟩ ⟨fun _ _ _ _ q => q, fun U _ _ => ⟨rfl, trivial⟩⟩ rfl rfl hl.1 rfl (lv_room (Nat.le_of_ble_eq_true rfl)) dX4_valueB_2 ⟨Nat.zero_le _, Nat.zero_le _⟩) ?_
  refine k_ri (va_runV (As := [.int (fX1_b p0)]) (rest := []) ⟨hx, hb, hml, hown, hB⟩ (mX4_readRegister l dC dI aH aM aW aC aR iW iR x (fX1_b p0)) (cwV 1 hB (gV q_t2_69 q_t2_71 q_s_19 q_t1_1 wX4_readRegister) rfl rfl rfl hX4_readRegister ⟨Nat.le_of_ble_eq_true rfl, Nat.le_of_ble_eq_true rfl⟩) ⟨kP_blind NW_blind, va_recv hK hP (ci := 2) (q0 := 0) rfl rfl, kP_pre NW_warm hP hK hN⟩ rfl rfl hl.1 rfl (lv_room (Nat.le_of_ble_eq_true rfl)) dX4_valueB_5 ⟨Nat.zero_le _, Nat.zero_le _⟩) ?_
  exact W.iret (v := fX4_readRegister (fX1_b p0) x) hx hb hr (fun t ht hW => ⟨congrArg (fun z => Outcome.returned (some (Value.int z))) rfl, ht⟩) (fun q h => nomatch h) dX4_valueB_8
def fX4_goOn (x : St) : Bool × St := (true, s_pc x ((g_pc x) + (4 : Int32)))
set_option maxHeartbeats 4000000 in
set_option maxRecDepth 100000 in
theorem mX4_goOn (l : Launch) (dC : Nat → ClassId) (dI : Nat → Nat → Nat) (aH aM aW aC aR iW iR : Nat) (sz : Nat) (x : St) : Met l yX4_goOn wsX4_goOn ({ frames := 0, cells := 0, slots := 0, locals := 0 }) (va_Pc [.ref aH] (kM (dC, dI) [(iW, .int), (iR, .int)] NW (wD aH aM aW aC aR iW iR x) sz)) (va_Qi (fun r u => r = bi (fX4_goOn x).1 ∧ u = (fX4_goOn x).2) (fun u t => va_P (dC, dI) vwCl (wD aH aM aW aC aR iW iR u) t.heap) (va_A (wD aH aM aW aC aR iW iR x) sz)) 0 0 (va_A (wD aH aM aW aC aR iW iR x) sz) := by
  refine Met.ofW (cc := cX4_goOn) (maxL := 1) (ret := (some .boolean)) (by decide) rfl ?_
  intro p e s m args below meth c s₁ B hml hv
  obtain ⟨rfl, hsz, hD0, hP, hK, hN⟩ := hv
  have hx := B.exec
  have hb := B.bytes
  have hr := B.returns
  have hB := fun (w : Cond) (h : w ∈ BIG) => atoms_spec (ws := wsX4_goOn) B.pre w (List.mem_cons_of_mem _ h)
  have hown : s.vm.findClass RX4 = some m.cls := findClass_of_methodNamed B.named
  have hlocks := B.notSynchronized
  subst hsz
  have hD := hD0.self (sz := s.heap.size)
  generalize hAe : va_A (wD aH aM aW aC aR iW iR x) s.heap.size = A at hD ⊢
  have hA : ∀ q : Nat, s.heap.size ≤ q → A q := fun q h => by rw [← hAe]; exact Or.inr h
  have hS : va_S A s.heap s.heap [] := va_S.rf
  have hl := lv_entry ([.ref aH]) (n := 1) (Nat.le_of_ble_eq_true rfl)
  rw [lg_entry_eq]
  generalize (lg_sl ([.ref aH]) ++ List.replicate (1 - (lg_sl ([.ref aH])).length) Slot.unset).toArray = ls at hl ⊢
  have hl : lv_has ls 1 [(0, .ref aH)] := hl
  refine lv_aload_n hx hb dX4_goOn_0 rfl (lv_at hl 0 rfl) ?_
  refine lv_dup hx hb dX4_goOn_1 rfl ?_
  refine va_get (D := (dC, dI)) (ci := 2) (v := .int (g_pc x)) (C := RX4) (T := TX4) (N := 7) hx hb hB iX4 hown hK hP 0 rfl rfl 3 (by decide) (hB _ q_t1_73) (fun _ h9 => h9) rfl dX4_goOn_2 ?_
  refine lv_iconst (v := 4) hx hb dX4_goOn_5 (by decide) ?_
  refine lv_iadd hx hb dX4_goOn_6 ?_
  refine va_put (D := (dC, dI)) (ci := 2) (v := .int ((g_pc x) + (4 : Int32))) (ty := .int) (C := RX4) (T := TX4) (N := 7) hx hb hB iX4 tyX4 tyX4_ok nmX4 hown hK hP hD hS 0 rfl rfl 3 (by decide) (hB _ q_t1_73) (fun _ h9 => h9) rfl (by decide +kernel) rfl rfl (Nat.le_of_ble_eq_true rfl) dX4_goOn_7 (fun H locs hP hD hS => ?_)
  have hP : va_P (dC, dI) vwCl (wD aH aM aW aC aR iW iR (s_pc x ((g_pc x) + (4 : Int32)))) H := hP
  have hD : va_D A (wD aH aM aW aC aR iW iR (s_pc x ((g_pc x) + (4 : Int32)))) := hD
  refine lv_iconst (v := 1) hx hb dX4_goOn_10 (by decide) ?_
  exact W.zret (v := (1 : Int32)) hx hb hr rfl (fun t ht hW => ⟨⟨(1 : Int32), (s_pc x ((g_pc x) + (4 : Int32))), rfl, ⟨rfl, rfl⟩, hpT ht hP⟩, hS.F ht⟩) hS.2.2 dX4_goOn_11
def fX4_goOnWith (p0 : Int32) (p1 : Int32) (x : St) : Bool × St := ((fX4_goOn (fX4_writeRegister (fX1_d p0) p1 x)).1, (fX4_goOn (fX4_writeRegister (fX1_d p0) p1 x)).2)
set_option maxHeartbeats 4000000 in
set_option maxRecDepth 100000 in
theorem mX4_goOnWith (l : Launch) (dC : Nat → ClassId) (dI : Nat → Nat → Nat) (aH aM aW aC aR iW iR : Nat) (sz : Nat) (x : St) (p0 : Int32) (p1 : Int32) : Met l yX4_goOnWith wsX4_goOnWith ({ frames := 1, cells := 0, slots := 0, locals := 22 }) (va_Pc [.ref aH, .int p0, .int p1] (kM (dC, dI) [(iW, .int), (iR, .int)] NW (wD aH aM aW aC aR iW iR x) sz)) (va_Qi (fun r u => r = bi (fX4_goOnWith p0 p1 x).1 ∧ u = (fX4_goOnWith p0 p1 x).2) (fun u t => va_P (dC, dI) vwCl (wD aH aM aW aC aR iW iR u) t.heap) (va_A (wD aH aM aW aC aR iW iR x) sz)) 0 0 (va_A (wD aH aM aW aC aR iW iR x) sz) := by
  refine Met.ofW (cc := cX4_goOnWith) (maxL := 3) (ret := (some .boolean)) (by decide) rfl ?_
  intro p e s m args below meth c s₁ B hml hv
  obtain ⟨rfl, hsz, hD0, hP, hK, hN⟩ := hv
  have hx := B.exec
  have hb := B.bytes
  have hr := B.returns
  have hB := fun (w : Cond) (h : w ∈ BIG) => atoms_spec (ws := wsX4_goOnWith) B.pre w (List.mem_cons_of_mem _ h)
  have hown : s.vm.findClass RX4 = some m.cls := findClass_of_methodNamed B.named
  have hlocks := B.notSynchronized
  subst hsz
  have hD := hD0.self (sz := s.heap.size)
  generalize hAe : va_A (wD aH aM aW aC aR iW iR x) s.heap.size = A at hD ⊢
  have hA : ∀ q : Nat, s.heap.size ≤ q → A q := fun q h => by rw [← hAe]; exact Or.inr h
  have hS : va_S A s.heap s.heap [] := va_S.rf
  have hl := lv_entry ([.ref aH, .int p0, .int p1]) (n := 3) (Nat.le_of_ble_eq_true rfl)
  rw [lg_entry_eq]
  generalize (lg_sl ([.ref aH, .int p0, .int p1]) ++ List.replicate (3 - (lg_sl ([.ref aH, .int p0, .int p1])).length) Slot.unset).toArray = ls at hl ⊢
  have hl : lv_has ls 3 [(0, .ref aH), (1, .int p0), (2, .int p1)] := hl
  refine lv_aload_n hx hb dX4_goOnWith_0 rfl (lv_at hl 0 rfl) ?_
  refine lv_iload_n hx hb dX4_goOnWith_1 rfl (lv_at hl 1 rfl) ?_
  refine k_ri (va_runSN (As := [.int p0]) (rest := [.ref aH]) ⟨hx, hb, hml, hown, hB⟩ (mX1_d l p0) ⟨va_cnB 1 hB (good_in wX1_d) rfl rfl rfl (hN _ (List.mem_of_getElem? (i := 2) rfl)) (hB _ q_t1_10) hX1_d.2 ⟨Nat.le_of_ble_eq_true rfl, Nat.le_of_ble_eq_true rfl⟩, hB _ q_t2_38, trivial⟩ ⟨fun _ _ _ _ q => q, fun U _ _ => ⟨rfl, trivial⟩⟩ rfl rfl hl.1 rfl (lv_room (Nat.le_of_ble_eq_true rfl)) dX4_goOnWith_2 ⟨Nat.zero_le _, Nat.zero_le _⟩) ?_
  refine lv_iload_n hx hb dX4_goOnWith_5 rfl (lv_at hl 2 rfl) ?_
  refine k_mv (w := wD aH aM aW aC aR iW iR) wD_ad (va_runV (As := [.int (fX1_d p0), .int p1]) (rest := []) ⟨hx, hb, hml, hown, hB⟩ (mX4_writeRegister l dC dI aH aM aW aC aR iW iR s.heap.size x (fX1_d p0) p1) (cwV 2 hB (gV q_t1_114 q_t1_116 q_s_2 q_t1_1 wX4_writeRegister) rfl rfl rfl hX4_writeRegister ⟨Nat.le_of_ble_eq_true rfl, Nat.le_of_ble_eq_true rfl⟩) ⟨kM_blind NW_blind, va_recv hK hP (ci := 2) (q0 := 0) rfl rfl, kM_pre NW_warm hP hK hD hN⟩ rfl rfl hl.1 rfl (lv_room (Nat.le_of_ble_eq_true rfl)) dX4_goOnWith_6 ⟨Nat.zero_le _, Nat.zero_le _⟩) hD hS hA (fun u H locs hw hP hD hS => ?_)
  obtain rfl := hw
  refine lv_aload_n hx hb dX4_goOnWith_9 rfl (lv_at hl 0 rfl) ?_
  refine k_mi (w := wD aH aM aW aC aR iW iR) wD_ad (va_runV (As := []) (rest := []) ⟨hx, hb, hml, hown, hB⟩ (mX4_goOn l dC dI aH aM aW aC aR iW iR H.size (fX4_writeRegister (fX1_d p0) p1 x)) (cwV 0 hB (gV q_t2_40 q_t2_42 q_s_14 q_t1_1 wX4_goOn) rfl rfl rfl hX4_goOn ⟨Nat.le_of_ble_eq_true rfl, Nat.le_of_ble_eq_true rfl⟩) ⟨kM_blind NW_blind, va_recv hK hP (ci := 2) (q0 := 0) rfl rfl, kM_pre NW_warm hP hK hD hN⟩ rfl rfl hl.1 rfl (lv_room (Nat.le_of_ble_eq_true rfl)) dX4_goOnWith_10 ⟨Nat.zero_le _, Nat.zero_le _⟩) hD hS hA (fun r u H locs hw hP hD hS => ?_)
  obtain ⟨rfl, rfl⟩ := hw
  exact W.zret (v := bi (fX4_goOn (fX4_writeRegister (fX1_d p0) p1 x)).1) hx hb hr (bi_nar _) (fun t ht hW => ⟨⟨bi (fX4_goOn (fX4_writeRegister (fX1_d p0) p1 x)).1, ((fX4_goOn (fX4_writeRegister (fX1_d p0) p1 x)).2), rfl, ⟨rfl, rfl⟩, hpT ht hP⟩, hS.F ht⟩) hS.2.2 dX4_goOnWith_13
def fX4_trap (p0 : Int32) (p1 : Int32) (x : St) : Bool × St := if (g_vector (fX2_enterTrap (g_pc x) p0 p1 (s_traps x ((g_traps x) + (1 : Int32))))) = 0 then
    (false, s_stop (fX2_enterTrap (g_pc x) p0 p1 (s_traps x ((g_traps x) + (1 : Int32)))) true)
  else
    (false, s_pc (fX2_enterTrap (g_pc x) p0 p1 (s_traps x ((g_traps x) + (1 : Int32)))) (g_vector (fX2_enterTrap (g_pc x) p0 p1 (s_traps x ((g_traps x) + (1 : Int32))))))
set_option maxHeartbeats 4000000 in
set_option maxRecDepth 100000 in
theorem mX4_trap (l : Launch) (dC : Nat → ClassId) (dI : Nat → Nat → Nat) (aH aM aW aC aR iW iR : Nat) (sz : Nat) (x : St) (p0 : Int32) (p1 : Int32) : Met l yX4_trap wsX4_trap ({ frames := 1, cells := 0, slots := 0, locals := 23 }) (va_Pc [.ref aH, .int p0, .int p1] (kM (dC, dI) [(iW, .int), (iR, .int)] NW (wD aH aM aW aC aR iW iR x) sz)) (va_Qi (fun r u => r = bi (fX4_trap p0 p1 x).1 ∧ u = (fX4_trap p0 p1 x).2) (fun u t => va_P (dC, dI) vwCl (wD aH aM aW aC aR iW iR u) t.heap) (va_A (wD aH aM aW aC aR iW iR x) sz)) 0 0 (va_A (wD aH aM aW aC aR iW iR x) sz) := by
  refine Met.ofW (cc := cX4_trap) (maxL := 3) (ret := (some .boolean)) (by decide) rfl ?_
  intro p e s m args below meth c s₁ B hml hv
  obtain ⟨rfl, hsz, hD0, hP, hK, hN⟩ := hv
  have hx := B.exec
  have hb := B.bytes
  have hr := B.returns
  have hB := fun (w : Cond) (h : w ∈ BIG) => atoms_spec (ws := wsX4_trap) B.pre w (List.mem_cons_of_mem _ h)
  have hown : s.vm.findClass RX4 = some m.cls := findClass_of_methodNamed B.named
  have hlocks := B.notSynchronized
  subst hsz
  have hD := hD0.self (sz := s.heap.size)
  generalize hAe : va_A (wD aH aM aW aC aR iW iR x) s.heap.size = A at hD ⊢
  have hA : ∀ q : Nat, s.heap.size ≤ q → A q := fun q h => by rw [← hAe]; exact Or.inr h
  have hS : va_S A s.heap s.heap [] := va_S.rf
  have hl := lv_entry ([.ref aH, .int p0, .int p1]) (n := 3) (Nat.le_of_ble_eq_true rfl)
  rw [lg_entry_eq]
  generalize (lg_sl ([.ref aH, .int p0, .int p1]) ++ List.replicate (3 - (lg_sl ([.ref aH, .int p0, .int p1])).length) Slot.unset).toArray = ls at hl ⊢
  have hl : lv_has ls 3 [(0, .ref aH), (1, .int p0), (2, .int p1)] := hl
  refine lv_aload_n hx hb dX4_trap_0 rfl (lv_at hl 0 rfl) ?_
  refine lv_dup hx hb dX4_trap_1 rfl ?_
  refine va_get (D := (dC, dI)) (ci := 2) (v := .int (g_traps x)) (C := RX4) (T := TX4) (N := 7) hx hb hB iX4 hown hK hP 0 rfl rfl 6 (by decide) (hB _ q_t1_76) (fun _ h9 => h9) rfl dX4_trap_2 ?_
  refine lv_iconst (v := 1) hx hb dX4_trap_5 (by decide) ?_
  refine lv_iadd hx hb dX4_trap_6 ?_
  refine va_put (D := (dC, dI)) (ci := 2) (v := .int ((g_traps x) + (1 : Int32))) (ty := .int) (C := RX4) (T := TX4) (N := 7) hx hb hB iX4 tyX4 tyX4_ok nmX4 hown hK hP hD hS 0 rfl rfl 6 (by decide) (hB _ q_t1_76) (fun _ h9 => h9) rfl (by decide +kernel) rfl rfl (Nat.le_of_ble_eq_true rfl) dX4_trap_7 (fun H locs hP hD hS => ?_)
  have hP : va_P (dC, dI) vwCl (wD aH aM aW aC aR iW iR (s_traps x ((g_traps x) + (1 : Int32)))) H := hP
  have hD : va_D A (wD aH aM aW aC aR iW iR (s_traps x ((g_traps x) + (1 : Int32)))) := hD
  refine lv_aload_n hx hb dX4_trap_10 rfl (lv_at hl 0 rfl) ?_
  refine va_get (D := (dC, dI)) (ci := 2) (v := .ref aC) (C := RX4) (T := TX4) (N := 7) hx hb hB iX4 hown hK hP 0 rfl rfl 1 (by decide) (hB _ q_t1_71) (fun _ h9 => h9) rfl dX4_trap_11 ?_
  refine lv_aload_n hx hb dX4_trap_14 rfl (lv_at hl 0 rfl) ?_
  refine va_get (D := (dC, dI)) (ci := 2) (v := .int (g_pc x)) (C := RX4) (T := TX4) (N := 7) hx hb hB iX4 hown hK hP 0 rfl rfl 3 (by decide) (hB _ q_t1_73) (fun _ h9 => h9) rfl dX4_trap_15 ?_
  refine lv_iload_n hx hb dX4_trap_18 rfl (lv_at hl 1 rfl) ?_
  refine lv_iload_n hx hb dX4_trap_19 rfl (lv_at hl 2 rfl) ?_
  refine k_mv (w := wD aH aM aW aC aR iW iR) wD_ad (va_runVN (As := [.int (g_pc x), .int p0, .int p1]) (rest := []) ⟨hx, hb, hml, hown, hB⟩ (mX2_enterTrap l dC dI aH aM aW aC aR iW iR H.size (s_traps x ((g_traps x) + (1 : Int32))) (g_pc x) p0 p1) ⟨va_cnB 3 hB (good_in wX2_enterTrap) rfl rfl rfl (hN _ (List.mem_of_getElem? (i := 3) rfl)) (hB _ q_t1_3) hX2_enterTrap.2 ⟨Nat.le_of_ble_eq_true rfl, Nat.le_of_ble_eq_true rfl⟩, hB _ q_t2_16, hB _ q_s_10⟩ ⟨kM_blind NW_blind, va_recv hK hP (ci := 0) (q0 := 3) rfl rfl, kM_pre NW_warm hP hK hD hN⟩ rfl rfl hl.1 rfl (lv_room (Nat.le_of_ble_eq_true rfl)) dX4_trap_20 ⟨Nat.zero_le _, Nat.zero_le _⟩) hD hS hA (fun u H locs hw hP hD hS => ?_)
  obtain rfl := hw
  refine lv_aload_n hx hb dX4_trap_23 rfl (lv_at hl 0 rfl) ?_
  refine va_get (D := (dC, dI)) (ci := 2) (v := .ref aC) (C := RX4) (T := TX4) (N := 7) hx hb hB iX4 hown hK hP 0 rfl rfl 1 (by decide) (hB _ q_t1_71) (fun _ h9 => h9) rfl dX4_trap_24 ?_
  refine va_getN (D := (dC, dI)) (ci := 0) (v := .int (g_vector (fX2_enterTrap (g_pc x) p0 p1 (s_traps x ((g_traps x) + (1 : Int32)))))) (C := RX2) (T := TX2) (N := 9) hx hb hB iX2 hown hK hP 3 rfl rfl 2 (by decide) (va_Nw.use rfl (hN _ (List.mem_of_getElem? (i := 4) rfl))) (fun _ h9 => h9) rfl dX4_trap_27 ?_
  refine lv_if_ne (tgt := 41) hx hb dX4_trap_30 (by decide) (fun c_30 => ?_) (fun c_30 => ?_)
  · refine lv_aload_n hx hb dX4_trap_41 rfl (lv_at hl 0 rfl) ?_
    refine lv_aload_n hx hb dX4_trap_42 rfl (lv_at hl 0 rfl) ?_
    refine va_get (D := (dC, dI)) (ci := 2) (v := .ref aC) (C := RX4) (T := TX4) (N := 7) hx hb hB iX4 hown hK hP 0 rfl rfl 1 (by decide) (hB _ q_t1_71) (fun _ h9 => h9) rfl dX4_trap_43 ?_
    refine va_getN (D := (dC, dI)) (ci := 0) (v := .int (g_vector (fX2_enterTrap (g_pc x) p0 p1 (s_traps x ((g_traps x) + (1 : Int32)))))) (C := RX2) (T := TX2) (N := 9) hx hb hB iX2 hown hK hP 3 rfl rfl 2 (by decide) (va_Nw.use rfl (hN _ (List.mem_of_getElem? (i := 4) rfl))) (fun _ h9 => h9) rfl dX4_trap_46 ?_
    refine va_put (D := (dC, dI)) (ci := 2) (v := .int (g_vector (fX2_enterTrap (g_pc x) p0 p1 (s_traps x ((g_traps x) + (1 : Int32)))))) (ty := .int) (C := RX4) (T := TX4) (N := 7) hx hb hB iX4 tyX4 tyX4_ok nmX4 hown hK hP hD hS 0 rfl rfl 3 (by decide) (hB _ q_t1_73) (fun _ h9 => h9) rfl (by decide +kernel) rfl rfl (Nat.le_of_ble_eq_true rfl) dX4_trap_49 (fun H locs hP hD hS => ?_)
    have hP : va_P (dC, dI) vwCl (wD aH aM aW aC aR iW iR (s_pc (fX2_enterTrap (g_pc x) p0 p1 (s_traps x ((g_traps x) + (1 : Int32)))) (g_vector (fX2_enterTrap (g_pc x) p0 p1 (s_traps x ((g_traps x) + (1 : Int32))))))) H := hP
    have hD : va_D A (wD aH aM aW aC aR iW iR (s_pc (fX2_enterTrap (g_pc x) p0 p1 (s_traps x ((g_traps x) + (1 : Int32)))) (g_vector (fX2_enterTrap (g_pc x) p0 p1 (s_traps x ((g_traps x) + (1 : Int32))))))) := hD
    refine lv_iconst (v := 0) hx hb dX4_trap_52 (by decide) ?_
    exact W.zret (v := (0 : Int32)) hx hb hr rfl (fun t ht hW => ⟨⟨(0 : Int32), (s_pc (fX2_enterTrap (g_pc x) p0 p1 (s_traps x ((g_traps x) + (1 : Int32)))) (g_vector (fX2_enterTrap (g_pc x) p0 p1 (s_traps x ((g_traps x) + (1 : Int32)))))), rfl, ⟨(by unfold fX4_trap; rw [if_neg c_30] <;> rfl), (by unfold fX4_trap; rw [if_neg c_30] <;> rfl)⟩, hpT ht hP⟩, hS.F ht⟩) hS.2.2 dX4_trap_53
  · refine lv_aload_n hx hb dX4_trap_33 rfl (lv_at hl 0 rfl) ?_
    refine lv_iconst (v := 1) hx hb dX4_trap_34 (by decide) ?_
    refine va_put (D := (dC, dI)) (ci := 2) (v := .int 1) (ty := .boolean) (C := RX4) (T := TX4) (N := 7) hx hb hB iX4 tyX4 tyX4_ok nmX4 hown hK hP hD hS 0 rfl rfl 4 (by decide) (hB _ q_t1_74) (fun _ h9 => h9) rfl (by decide +kernel) rfl rfl (Nat.le_of_ble_eq_true rfl) dX4_trap_35 (fun H locs hP hD hS => ?_)
    have hP : va_P (dC, dI) vwCl (wD aH aM aW aC aR iW iR (s_stop (fX2_enterTrap (g_pc x) p0 p1 (s_traps x ((g_traps x) + (1 : Int32)))) true)) H := hP
    have hD : va_D A (wD aH aM aW aC aR iW iR (s_stop (fX2_enterTrap (g_pc x) p0 p1 (s_traps x ((g_traps x) + (1 : Int32)))) true)) := hD
    refine lv_goto (tgt := 52) hx hb dX4_trap_38 (by decide) ?_
    refine lv_iconst (v := 0) hx hb dX4_trap_52 (by decide) ?_
    exact W.zret (v := (0 : Int32)) hx hb hr rfl (fun t ht hW => ⟨⟨(0 : Int32), (s_stop (fX2_enterTrap (g_pc x) p0 p1 (s_traps x ((g_traps x) + (1 : Int32)))) true), rfl, ⟨(by unfold fX4_trap; rw [if_pos c_30] <;> rfl), (by unfold fX4_trap; rw [if_pos c_30] <;> rfl)⟩, hpT ht hP⟩, hS.F ht⟩) hS.2.2 dX4_trap_53
def fX4_unknown (p0 : Int32) (x : St) : Bool × St := ((fX4_trap (2 : Int32) p0 x).1, (fX4_trap (2 : Int32) p0 x).2)
set_option maxHeartbeats 4000000 in
set_option maxRecDepth 100000 in
theorem mX4_unknown (l : Launch) (dC : Nat → ClassId) (dI : Nat → Nat → Nat) (aH aM aW aC aR iW iR : Nat) (sz : Nat) (x : St) (p0 : Int32) : Met l yX4_unknown wsX4_unknown ({ frames := 2, cells := 0, slots := 0, locals := 45 }) (va_Pc [.ref aH, .int p0] (kM (dC, dI) [(iW, .int), (iR, .int)] NW (wD aH aM aW aC aR iW iR x) sz)) (va_Qi (fun r u => r = bi (fX4_unknown p0 x).1 ∧ u = (fX4_unknown p0 x).2) (fun u t => va_P (dC, dI) vwCl (wD aH aM aW aC aR iW iR u) t.heap) (va_A (wD aH aM aW aC aR iW iR x) sz)) 0 0 (va_A (wD aH aM aW aC aR iW iR x) sz) := by
  refine Met.ofW (cc := cX4_unknown) (maxL := 2) (ret := (some .boolean)) (by decide) rfl ?_
  intro p e s m args below meth c s₁ B hml hv
  obtain ⟨rfl, hsz, hD0, hP, hK, hN⟩ := hv
  have hx := B.exec
  have hb := B.bytes
  have hr := B.returns
  have hB := fun (w : Cond) (h : w ∈ BIG) => atoms_spec (ws := wsX4_unknown) B.pre w (List.mem_cons_of_mem _ h)
  have hown : s.vm.findClass RX4 = some m.cls := findClass_of_methodNamed B.named
  have hlocks := B.notSynchronized
  subst hsz
  have hD := hD0.self (sz := s.heap.size)
  generalize hAe : va_A (wD aH aM aW aC aR iW iR x) s.heap.size = A at hD ⊢
  have hA : ∀ q : Nat, s.heap.size ≤ q → A q := fun q h => by rw [← hAe]; exact Or.inr h
  have hS : va_S A s.heap s.heap [] := va_S.rf
  have hl := lv_entry ([.ref aH, .int p0]) (n := 2) (Nat.le_of_ble_eq_true rfl)
  rw [lg_entry_eq]
  generalize (lg_sl ([.ref aH, .int p0]) ++ List.replicate (2 - (lg_sl ([.ref aH, .int p0])).length) Slot.unset).toArray = ls at hl ⊢
  have hl : lv_has ls 2 [(0, .ref aH), (1, .int p0)] := hl
  refine lv_aload_n hx hb dX4_unknown_0 rfl (lv_at hl 0 rfl) ?_
  refine lv_iconst (v := 2) hx hb dX4_unknown_1 (by decide) ?_
  refine lv_iload_n hx hb dX4_unknown_2 rfl (lv_at hl 1 rfl) ?_
  refine k_mi (w := wD aH aM aW aC aR iW iR) wD_ad (va_runV (As := [.int (2 : Int32), .int p0]) (rest := []) ⟨hx, hb, hml, hown, hB⟩ (mX4_trap l dC dI aH aM aW aC aR iW iR s.heap.size x (2 : Int32) p0) (cwV 2 hB (gV q_t2_10 q_t2_12 q_s_9 q_t1_1 wX4_trap) rfl rfl rfl hX4_trap ⟨Nat.le_of_ble_eq_true rfl, Nat.le_of_ble_eq_true rfl⟩) ⟨kM_blind NW_blind, va_recv hK hP (ci := 2) (q0 := 0) rfl rfl, kM_pre NW_warm hP hK hD hN⟩ rfl rfl hl.1 rfl (lv_room (Nat.le_of_ble_eq_true rfl)) dX4_unknown_3 ⟨Nat.zero_le _, Nat.zero_le _⟩) hD hS hA (fun r u H locs hw hP hD hS => ?_)
  obtain ⟨rfl, rfl⟩ := hw
  exact W.zret (v := bi (fX4_trap (2 : Int32) p0 x).1) hx hb hr (bi_nar _) (fun t ht hW => ⟨⟨bi (fX4_trap (2 : Int32) p0 x).1, ((fX4_trap (2 : Int32) p0 x).2), rfl, ⟨rfl, rfl⟩, hpT ht hP⟩, hS.F ht⟩) hS.2.2 dX4_unknown_6
def fX4_jump (p0 : Int32) (p1 : Int32) (x : St) : Bool × St := if (p1 &&& (3 : Int32)) = 0 then
    (true, s_pc (fX4_writeRegister p0 ((g_pc x) + (4 : Int32)) x) p1)
  else
    ((fX4_trap (0 : Int32) p1 x).1, (fX4_trap (0 : Int32) p1 x).2)
set_option maxHeartbeats 4000000 in
set_option maxRecDepth 100000 in
theorem mX4_jump (l : Launch) (dC : Nat → ClassId) (dI : Nat → Nat → Nat) (aH aM aW aC aR iW iR : Nat) (sz : Nat) (x : St) (p0 : Int32) (p1 : Int32) : Met l yX4_jump wsX4_jump ({ frames := 2, cells := 0, slots := 0, locals := 45 }) (va_Pc [.ref aH, .int p0, .int p1] (kM (dC, dI) [(iW, .int), (iR, .int)] NW (wD aH aM aW aC aR iW iR x) sz)) (va_Qi (fun r u => r = bi (fX4_jump p0 p1 x).1 ∧ u = (fX4_jump p0 p1 x).2) (fun u t => va_P (dC, dI) vwCl (wD aH aM aW aC aR iW iR u) t.heap) (va_A (wD aH aM aW aC aR iW iR x) sz)) 0 0 (va_A (wD aH aM aW aC aR iW iR x) sz) := by
  refine Met.ofW (cc := cX4_jump) (maxL := 3) (ret := (some .boolean)) (by decide) rfl ?_
  intro p e s m args below meth c s₁ B hml hv
  obtain ⟨rfl, hsz, hD0, hP, hK, hN⟩ := hv
  have hx := B.exec
  have hb := B.bytes
  have hr := B.returns
  have hB := fun (w : Cond) (h : w ∈ BIG) => atoms_spec (ws := wsX4_jump) B.pre w (List.mem_cons_of_mem _ h)
  have hown : s.vm.findClass RX4 = some m.cls := findClass_of_methodNamed B.named
  have hlocks := B.notSynchronized
  subst hsz
  have hD := hD0.self (sz := s.heap.size)
  generalize hAe : va_A (wD aH aM aW aC aR iW iR x) s.heap.size = A at hD ⊢
  have hA : ∀ q : Nat, s.heap.size ≤ q → A q := fun q h => by rw [← hAe]; exact Or.inr h
  have hS : va_S A s.heap s.heap [] := va_S.rf
  have hl := lv_entry ([.ref aH, .int p0, .int p1]) (n := 3) (Nat.le_of_ble_eq_true rfl)
  rw [lg_entry_eq]
  generalize (lg_sl ([.ref aH, .int p0, .int p1]) ++ List.replicate (3 - (lg_sl ([.ref aH, .int p0, .int p1])).length) Slot.unset).toArray = ls at hl ⊢
  have hl : lv_has ls 3 [(0, .ref aH), (1, .int p0), (2, .int p1)] := hl
  refine lv_iload_n hx hb dX4_jump_0 rfl (lv_at hl 2 rfl) ?_
  refine lv_iconst (v := 3) hx hb dX4_jump_1 (by decide) ?_
  refine lv_iand hx hb dX4_jump_2 ?_
  refine lv_if_eq (tgt := 13) hx hb dX4_jump_3 (by decide) (fun c_3 => ?_) (fun c_3 => ?_)
  · refine lv_aload_n hx hb dX4_jump_13 rfl (lv_at hl 0 rfl) ?_
    refine lv_iload_n hx hb dX4_jump_14 rfl (lv_at hl 1 rfl) ?_
    refine lv_aload_n hx hb dX4_jump_15 rfl (lv_at hl 0 rfl) ?_
    refine va_get (D := (dC, dI)) (ci := 2) (v := .int (g_pc x)) (C := RX4) (T := TX4) (N := 7) hx hb hB iX4 hown hK hP 0 rfl rfl 3 (by decide) (hB _ q_t1_73) (fun _ h9 => h9) rfl dX4_jump_16 ?_
    refine lv_iconst (v := 4) hx hb dX4_jump_19 (by decide) ?_
    refine lv_iadd hx hb dX4_jump_20 ?_
    refine k_mv (w := wD aH aM aW aC aR iW iR) wD_ad (va_runV (As := [.int p0, .int ((g_pc x) + (4 : Int32))]) (rest := []) ⟨hx, hb, hml, hown, hB⟩ (mX4_writeRegister l dC dI aH aM aW aC aR iW iR s.heap.size x p0 ((g_pc x) + (4 : Int32))) (cwV 2 hB (gV q_t1_114 q_t1_116 q_s_2 q_t1_1 wX4_writeRegister) rfl rfl rfl hX4_writeRegister ⟨Nat.le_of_ble_eq_true rfl, Nat.le_of_ble_eq_true rfl⟩) ⟨kM_blind NW_blind, va_recv hK hP (ci := 2) (q0 := 0) rfl rfl, kM_pre NW_warm hP hK hD hN⟩ rfl rfl hl.1 rfl (lv_room (Nat.le_of_ble_eq_true rfl)) dX4_jump_21 ⟨Nat.zero_le _, Nat.zero_le _⟩) hD hS hA (fun u H locs hw hP hD hS => ?_)
    obtain rfl := hw
    refine lv_aload_n hx hb dX4_jump_24 rfl (lv_at hl 0 rfl) ?_
    refine lv_iload_n hx hb dX4_jump_25 rfl (lv_at hl 2 rfl) ?_
    refine va_put (D := (dC, dI)) (ci := 2) (v := .int p1) (ty := .int) (C := RX4) (T := TX4) (N := 7) hx hb hB iX4 tyX4 tyX4_ok nmX4 hown hK hP hD hS 0 rfl rfl 3 (by decide) (hB _ q_t1_73) (fun _ h9 => h9) rfl (by decide +kernel) rfl rfl (Nat.le_of_ble_eq_true rfl) dX4_jump_26 (fun H locs hP hD hS => ?_)
    have hP : va_P (dC, dI) vwCl (wD aH aM aW aC aR iW iR (s_pc (fX4_writeRegister p0 ((g_pc x) + (4 : Int32)) x) p1)) H := hP
    have hD : va_D A (wD aH aM aW aC aR iW iR (s_pc (fX4_writeRegister p0 ((g_pc x) + (4 : Int32)) x) p1)) := hD
    refine lv_iconst (v := 1) hx hb dX4_jump_29 (by decide) ?_
    exact W.zret (v := (1 : Int32)) hx hb hr rfl (fun t ht hW => ⟨⟨(1 : Int32), (s_pc (fX4_writeRegister p0 ((g_pc x) + (4 : Int32)) x) p1), rfl, ⟨(by unfold fX4_jump; rw [if_pos c_3] <;> rfl), (by unfold fX4_jump; rw [if_pos c_3] <;> rfl)⟩, hpT ht hP⟩, hS.F ht⟩) hS.2.2 dX4_jump_30
  · refine lv_aload_n hx hb dX4_jump_6 rfl (lv_at hl 0 rfl) ?_
    refine lv_iconst (v := 0) hx hb dX4_jump_7 (by decide) ?_
    refine lv_iload_n hx hb dX4_jump_8 rfl (lv_at hl 2 rfl) ?_
    refine k_mi (w := wD aH aM aW aC aR iW iR) wD_ad (va_runV (As := [.int (0 : Int32), .int p1]) (rest := []) ⟨hx, hb, hml, hown, hB⟩ (mX4_trap l dC dI aH aM aW aC aR iW iR s.heap.size x (0 : Int32) p1) (cwV 2 hB (gV q_t2_10 q_t2_12 q_s_9 q_t1_1 wX4_trap) rfl rfl rfl hX4_trap ⟨Nat.le_of_ble_eq_true rfl, Nat.le_of_ble_eq_true rfl⟩) ⟨kM_blind NW_blind, va_recv hK hP (ci := 2) (q0 := 0) rfl rfl, kM_pre NW_warm hP hK hD hN⟩ rfl rfl hl.1 rfl (lv_room (Nat.le_of_ble_eq_true rfl)) dX4_jump_9 ⟨Nat.zero_le _, Nat.zero_le _⟩) hD hS hA (fun r u H locs hw hP hD hS => ?_)
    obtain ⟨rfl, rfl⟩ := hw
    exact W.zret (v := bi (fX4_trap (0 : Int32) p1 x).1) hx hb hr (bi_nar _) (fun t ht hW => ⟨⟨bi (fX4_trap (0 : Int32) p1 x).1, ((fX4_trap (0 : Int32) p1 x).2), rfl, ⟨(by unfold fX4_jump; rw [if_neg c_3] <;> rfl), (by unfold fX4_jump; rw [if_neg c_3] <;> rfl)⟩, hpT ht hP⟩, hS.F ht⟩) hS.2.2 dX4_jump_12
def fX4_jumpByRegister (p0 : Int32) (x : St) : Bool × St := if (fX1_f p0) = 0 then
    ((fX4_jump (fX1_d p0) (((fX4_valueA p0 x) + (fX1_numberI p0)) &&& (-2 : Int32)) x).1, (fX4_jump (fX1_d p0) (((fX4_valueA p0 x) + (fX1_numberI p0)) &&& (-2 : Int32)) x).2)
  else
    ((fX4_unknown p0 x).1, (fX4_unknown p0 x).2)
set_option maxHeartbeats 4000000 in
set_option maxRecDepth 100000 in
theorem mX4_jumpByRegister (l : Launch) (dC : Nat → ClassId) (dI : Nat → Nat → Nat) (aH aM aW aC aR iW iR : Nat) (sz : Nat) (x : St) (p0 : Int32) : Met l yX4_jumpByRegister wsX4_jumpByRegister ({ frames := 3, cells := 0, slots := 0, locals := 67 }) (va_Pc [.ref aH, .int p0] (kM (dC, dI) [(iW, .int), (iR, .int)] NW (wD aH aM aW aC aR iW iR x) sz)) (va_Qi (fun r u => r = bi (fX4_jumpByRegister p0 x).1 ∧ u = (fX4_jumpByRegister p0 x).2) (fun u t => va_P (dC, dI) vwCl (wD aH aM aW aC aR iW iR u) t.heap) (va_A (wD aH aM aW aC aR iW iR x) sz)) 0 0 (va_A (wD aH aM aW aC aR iW iR x) sz) := by
  refine Met.ofW (cc := cX4_jumpByRegister) (maxL := 2) (ret := (some .boolean)) (by decide) rfl ?_
  intro p e s m args below meth c s₁ B hml hv
  obtain ⟨rfl, hsz, hD0, hP, hK, hN⟩ := hv
  have hx := B.exec
  have hb := B.bytes
  have hr := B.returns
  have hB := fun (w : Cond) (h : w ∈ BIG) => atoms_spec (ws := wsX4_jumpByRegister) B.pre w (List.mem_cons_of_mem _ h)
  have hown : s.vm.findClass RX4 = some m.cls := findClass_of_methodNamed B.named
  have hlocks := B.notSynchronized
  subst hsz
  have hD := hD0.self (sz := s.heap.size)
  generalize hAe : va_A (wD aH aM aW aC aR iW iR x) s.heap.size = A at hD ⊢
  have hA : ∀ q : Nat, s.heap.size ≤ q → A q := fun q h => by rw [← hAe]; exact Or.inr h
  have hS : va_S A s.heap s.heap [] := va_S.rf
  have hl := lv_entry ([.ref aH, .int p0]) (n := 2) (Nat.le_of_ble_eq_true rfl)
  rw [lg_entry_eq]
  generalize (lg_sl ([.ref aH, .int p0]) ++ List.replicate (2 - (lg_sl ([.ref aH, .int p0])).length) Slot.unset).toArray = ls at hl ⊢
  have hl : lv_has ls 2 [(0, .ref aH), (1, .int p0)] := hl
  refine lv_iload_n hx hb dX4_jumpByRegister_0 rfl (lv_at hl 1 rfl) ?_
  refine k_ri (va_runSN (As := [.int p0]) (rest := []) ⟨hx, hb, hml, hown, hB⟩ (mX1_f l p0) ⟨va_cnB 1 hB (good_in wX1_f) rfl rfl rfl (hN _ (List.mem_of_getElem? (i := 5) rfl)) (hB _ q_t1_10) hX1_f.2 ⟨Nat.le_of_ble_eq_true rfl, Nat.le_of_ble_eq_true rfl⟩, hB _ q_t2_56, trivial⟩ ⟨fun _ _ _ _ q => q, fun U _ _ => ⟨rfl, trivial⟩⟩ rfl rfl hl.1 rfl (lv_room (Nat.le_of_ble_eq_true rfl)) dX4_jumpByRegister_1 ⟨Nat.zero_le _, Nat.zero_le _⟩) ?_
  refine lv_if_eq (tgt := 13) hx hb dX4_jumpByRegister_4 (by decide) (fun c_4 => ?_) (fun c_4 => ?_)
  · refine lv_aload_n hx hb dX4_jumpByRegister_13 rfl (lv_at hl 0 rfl) ?_
    refine lv_iload_n hx hb dX4_jumpByRegister_14 rfl (lv_at hl 1 rfl) ?_
    refine k_ri (va_runSN (As := [.int p0]) (rest := [.ref aH]) ⟨hx, hb, hml, hown, hB⟩ (mX1_d l p0) ⟨va_cnB 1 hB (good_in wX1_d) rfl rfl rfl (hN _ (List.mem_of_getElem? (i := 2) rfl)) (hB _ q_t1_10) hX1_d.2 ⟨Nat.le_of_ble_eq_true rfl, Nat.le_of_ble_eq_true rfl⟩, hB _ q_t2_38, trivial⟩ ⟨fun _ _ _ _ q => q, fun U _ _ => ⟨rfl, trivial⟩⟩ rfl rfl hl.1 rfl (lv_room (Nat.le_of_ble_eq_true rfl)) dX4_jumpByRegister_15 ⟨Nat.zero_le _, Nat.zero_le _⟩) ?_
    refine lv_aload_n hx hb dX4_jumpByRegister_18 rfl (lv_at hl 0 rfl) ?_
    refine lv_iload_n hx hb dX4_jumpByRegister_19 rfl (lv_at hl 1 rfl) ?_
    refine k_ri (va_runV (As := [.int p0]) (rest := [.int (fX1_d p0), .ref aH]) ⟨hx, hb, hml, hown, hB⟩ (mX4_valueA l dC dI aH aM aW aC aR iW iR x p0) (cwV 1 hB (gV q_t2_62 q_t2_64 q_s_18 q_t1_1 wX4_valueA) rfl rfl rfl hX4_valueA ⟨Nat.le_of_ble_eq_true rfl, Nat.le_of_ble_eq_true rfl⟩) ⟨kP_blind NW_blind, va_recv hK hP (ci := 2) (q0 := 0) rfl rfl, kP_pre NW_warm hP hK hN⟩ rfl rfl hl.1 rfl (lv_room (Nat.le_of_ble_eq_true rfl)) dX4_jumpByRegister_20 ⟨Nat.zero_le _, Nat.zero_le _⟩) ?_
    refine lv_iload_n hx hb dX4_jumpByRegister_23 rfl (lv_at hl 1 rfl) ?_
    refine k_ri (va_runSN (As := [.int p0]) (rest := [.int (fX4_valueA p0 x), .int (fX1_d p0), .ref aH]) ⟨hx, hb, hml, hown, hB⟩ (mX1_numberI l p0) ⟨va_cnB 1 hB (good_in wX1_numberI) rfl rfl rfl (hN _ (List.mem_of_getElem? (i := 6) rfl)) (hB _ q_t1_10) hX1_numberI.2 ⟨Nat.le_of_ble_eq_true rfl, Nat.le_of_ble_eq_true rfl⟩, hB _ q_t2_74, trivial⟩ ⟨fun _ _ _ _ q => q, fun U _ _ => ⟨rfl, trivial⟩⟩ rfl rfl hl.1 rfl (lv_room (Nat.le_of_ble_eq_true rfl)) dX4_jumpByRegister_24 ⟨Nat.zero_le _, Nat.zero_le _⟩) ?_
    refine lv_iadd hx hb dX4_jumpByRegister_27 ?_
    refine lv_bipush (v := -2) hx hb dX4_jumpByRegister_28 (by decide) ?_
    refine lv_iand hx hb dX4_jumpByRegister_30 ?_
    refine k_mi (w := wD aH aM aW aC aR iW iR) wD_ad (va_runV (As := [.int (fX1_d p0), .int (((fX4_valueA p0 x) + (fX1_numberI p0)) &&& (-2 : Int32))]) (rest := []) ⟨hx, hb, hml, hown, hB⟩ (mX4_jump l dC dI aH aM aW aC aR iW iR s.heap.size x (fX1_d p0) (((fX4_valueA p0 x) + (fX1_numberI p0)) &&& (-2 : Int32))) (cwV 2 hB (gV q_t2_47 q_t2_49 q_s_15 q_t1_1 wX4_jump) rfl rfl rfl hX4_jump ⟨Nat.le_of_ble_eq_true rfl, Nat.le_of_ble_eq_true rfl⟩) ⟨kM_blind NW_blind, va_recv hK hP (ci := 2) (q0 := 0) rfl rfl, kM_pre NW_warm hP hK hD hN⟩ rfl rfl hl.1 rfl (lv_room (Nat.le_of_ble_eq_true rfl)) dX4_jumpByRegister_31 ⟨Nat.zero_le _, Nat.zero_le _⟩) hD hS hA (fun r u H locs hw hP hD hS => ?_)
    obtain ⟨rfl, rfl⟩ := hw
    exact W.zret (v := bi (fX4_jump (fX1_d p0) (((fX4_valueA p0 x) + (fX1_numberI p0)) &&& (-2 : Int32)) x).1) hx hb hr (bi_nar _) (fun t ht hW => ⟨⟨bi (fX4_jump (fX1_d p0) (((fX4_valueA p0 x) + (fX1_numberI p0)) &&& (-2 : Int32)) x).1, ((fX4_jump (fX1_d p0) (((fX4_valueA p0 x) + (fX1_numberI p0)) &&& (-2 : Int32)) x).2), rfl, ⟨(by unfold fX4_jumpByRegister; rw [if_pos c_4] <;> rfl), (by unfold fX4_jumpByRegister; rw [if_pos c_4] <;> rfl)⟩, hpT ht hP⟩, hS.F ht⟩) hS.2.2 dX4_jumpByRegister_34
  · refine lv_aload_n hx hb dX4_jumpByRegister_7 rfl (lv_at hl 0 rfl) ?_
    refine lv_iload_n hx hb dX4_jumpByRegister_8 rfl (lv_at hl 1 rfl) ?_
    refine k_mi (w := wD aH aM aW aC aR iW iR) wD_ad (va_runV (As := [.int p0]) (rest := []) ⟨hx, hb, hml, hown, hB⟩ (mX4_unknown l dC dI aH aM aW aC aR iW iR s.heap.size x p0) (cwV 1 hB (gV q_t2_58 q_t2_60 q_s_17 q_t1_1 wX4_unknown) rfl rfl rfl hX4_unknown ⟨Nat.le_of_ble_eq_true rfl, Nat.le_of_ble_eq_true rfl⟩) ⟨kM_blind NW_blind, va_recv hK hP (ci := 2) (q0 := 0) rfl rfl, kM_pre NW_warm hP hK hD hN⟩ rfl rfl hl.1 rfl (lv_room (Nat.le_of_ble_eq_true rfl)) dX4_jumpByRegister_9 ⟨Nat.zero_le _, Nat.zero_le _⟩) hD hS hA (fun r u H locs hw hP hD hS => ?_)
    obtain ⟨rfl, rfl⟩ := hw
    exact W.zret (v := bi (fX4_unknown p0 x).1) hx hb hr (bi_nar _) (fun t ht hW => ⟨⟨bi (fX4_unknown p0 x).1, ((fX4_unknown p0 x).2), rfl, ⟨(by unfold fX4_jumpByRegister; rw [if_neg c_4] <;> rfl), (by unfold fX4_jumpByRegister; rw [if_neg c_4] <;> rfl)⟩, hpT ht hP⟩, hS.F ht⟩) hS.2.2 dX4_jumpByRegister_12
def fX4_branch (p0 : Int32) (x : St) : Bool × St := if (fX1_f p0) = (2 : Int32) then
    ((fX4_unknown p0 x).1, (fX4_unknown p0 x).2)
  else
    if (fX1_f p0) = (3 : Int32) then
      ((fX4_unknown p0 x).1, (fX4_unknown p0 x).2)
    else
      if (bi (fX0_holds (fX1_f p0) (fX4_valueA p0 x) (fX4_valueB p0 x))) = 0 then
        ((fX4_goOn x).1, (fX4_goOn x).2)
      else
        ((fX4_jump (0 : Int32) ((g_pc x) + (fX1_numberB p0)) x).1, (fX4_jump (0 : Int32) ((g_pc x) + (fX1_numberB p0)) x).2)
set_option maxHeartbeats 4000000 in
set_option maxRecDepth 100000 in
theorem mX4_branch (l : Launch) (dC : Nat → ClassId) (dI : Nat → Nat → Nat) (aH aM aW aC aR iW iR : Nat) (sz : Nat) (x : St) (p0 : Int32) : Met l yX4_branch wsX4_branch ({ frames := 3, cells := 0, slots := 0, locals := 67 }) (va_Pc [.ref aH, .int p0] (kM (dC, dI) [(iW, .int), (iR, .int)] NW (wD aH aM aW aC aR iW iR x) sz)) (va_Qi (fun r u => r = bi (fX4_branch p0 x).1 ∧ u = (fX4_branch p0 x).2) (fun u t => va_P (dC, dI) vwCl (wD aH aM aW aC aR iW iR u) t.heap) (va_A (wD aH aM aW aC aR iW iR x) sz)) 0 0 (va_A (wD aH aM aW aC aR iW iR x) sz) := by
  refine Met.ofW (cc := cX4_branch) (maxL := 3) (ret := (some .boolean)) (by decide) rfl ?_
  intro p e s m args below meth c s₁ B hml hv
  obtain ⟨rfl, hsz, hD0, hP, hK, hN⟩ := hv
  have hx := B.exec
  have hb := B.bytes
  have hr := B.returns
  have hB := fun (w : Cond) (h : w ∈ BIG) => atoms_spec (ws := wsX4_branch) B.pre w (List.mem_cons_of_mem _ h)
  have hown : s.vm.findClass RX4 = some m.cls := findClass_of_methodNamed B.named
  have hlocks := B.notSynchronized
  subst hsz
  have hD := hD0.self (sz := s.heap.size)
  generalize hAe : va_A (wD aH aM aW aC aR iW iR x) s.heap.size = A at hD ⊢
  have hA : ∀ q : Nat, s.heap.size ≤ q → A q := fun q h => by rw [← hAe]; exact Or.inr h
  have hS : va_S A s.heap s.heap [] := va_S.rf
  have hl := lv_entry ([.ref aH, .int p0]) (n := 3) (Nat.le_of_ble_eq_true rfl)
  rw [lg_entry_eq]
  generalize (lg_sl ([.ref aH, .int p0]) ++ List.replicate (3 - (lg_sl ([.ref aH, .int p0])).length) Slot.unset).toArray = ls at hl ⊢
  have hl : lv_has ls 3 [(0, .ref aH), (1, .int p0)] := hl
  refine lv_iload_n hx hb dX4_branch_0 rfl (lv_at hl 1 rfl) ?_
  refine k_ri (va_runSN (As := [.int p0]) (rest := []) ⟨hx, hb, hml, hown, hB⟩ (mX1_f l p0) ⟨va_cnB 1 hB (good_in wX1_f) rfl rfl rfl (hN _ (List.mem_of_getElem? (i := 5) rfl)) (hB _ q_t1_10) hX1_f.2 ⟨Nat.le_of_ble_eq_true rfl, Nat.le_of_ble_eq_true rfl⟩, hB _ q_t2_56, trivial⟩ ⟨fun _ _ _ _ q => q, fun U _ _ => ⟨rfl, trivial⟩⟩ rfl rfl hl.1 rfl (lv_room (Nat.le_of_ble_eq_true rfl)) dX4_branch_1 ⟨Nat.zero_le _, Nat.zero_le _⟩) ?_
  refine lv_istore_n (lv' := [(2, .int (fX1_f p0)), (0, .ref aH), (1, .int p0)]) hx hb dX4_branch_4 rfl hl (by decide) rfl (fun ls hl => ?_)
  refine lv_iload_n hx hb dX4_branch_5 rfl (lv_at hl 0 rfl) ?_
  refine lv_iconst (v := 2) hx hb dX4_branch_6 (by decide) ?_
  refine lv_icmp_eq (tgt := 15) hx hb dX4_branch_7 (by decide) (fun c_7 => ?_) (fun c_7 => ?_)
  · refine lv_aload_n hx hb dX4_branch_15 rfl (lv_at hl 1 rfl) ?_
    refine lv_iload_n hx hb dX4_branch_16 rfl (lv_at hl 2 rfl) ?_
    refine k_mi (w := wD aH aM aW aC aR iW iR) wD_ad (va_runV (As := [.int p0]) (rest := []) ⟨hx, hb, hml, hown, hB⟩ (mX4_unknown l dC dI aH aM aW aC aR iW iR s.heap.size x p0) (cwV 1 hB (gV q_t2_58 q_t2_60 q_s_17 q_t1_1 wX4_unknown) rfl rfl rfl hX4_unknown ⟨Nat.le_of_ble_eq_true rfl, Nat.le_of_ble_eq_true rfl⟩) ⟨kM_blind NW_blind, va_recv hK hP (ci := 2) (q0 := 0) rfl rfl, kM_pre NW_warm hP hK hD hN⟩ rfl rfl hl.1 rfl (lv_room (Nat.le_of_ble_eq_true rfl)) dX4_branch_17 ⟨Nat.zero_le _, Nat.zero_le _⟩) hD hS hA (fun r u H locs hw hP hD hS => ?_)
    obtain ⟨rfl, rfl⟩ := hw
    exact W.zret (v := bi (fX4_unknown p0 x).1) hx hb hr (bi_nar _) (fun t ht hW => ⟨⟨bi (fX4_unknown p0 x).1, ((fX4_unknown p0 x).2), rfl, ⟨(by unfold fX4_branch; rw [if_pos c_7] <;> rfl), (by unfold fX4_branch; rw [if_pos c_7] <;> rfl)⟩, hpT ht hP⟩, hS.F ht⟩) hS.2.2 dX4_branch_20
  · refine lv_iload_n hx hb dX4_branch_10 rfl (lv_at hl 0 rfl) ?_
    refine lv_iconst (v := 3) hx hb dX4_branch_11 (by decide) ?_
    refine lv_icmp_ne (tgt := 21) hx hb dX4_branch_12 (by decide) (fun c_12 => ?_) (fun c_12 => ?_)
    · refine lv_iload_n hx hb dX4_branch_21 rfl (lv_at hl 0 rfl) ?_
      refine lv_aload_n hx hb dX4_branch_22 rfl (lv_at hl 1 rfl) ?_
      refine lv_iload_n hx hb dX4_branch_23 rfl (lv_at hl 2 rfl) ?_
      refine k_ri (va_runV (As := [.int p0]) (rest := [.int (fX1_f p0)]) ⟨hx, hb, hml, hown, hB⟩ (mX4_valueA l dC dI aH aM aW aC aR iW iR x p0) (cwV 1 hB (gV q_t2_62 q_t2_64 q_s_18 q_t1_1 wX4_valueA) rfl rfl rfl hX4_valueA ⟨Nat.le_of_ble_eq_true rfl, Nat.le_of_ble_eq_true rfl⟩) ⟨kP_blind NW_blind, va_recv hK hP (ci := 2) (q0 := 0) rfl rfl, kP_pre NW_warm hP hK hN⟩ rfl rfl hl.1 rfl (lv_room (Nat.le_of_ble_eq_true rfl)) dX4_branch_24 ⟨Nat.zero_le _, Nat.zero_le _⟩) ?_
      refine lv_aload_n hx hb dX4_branch_27 rfl (lv_at hl 1 rfl) ?_
      refine lv_iload_n hx hb dX4_branch_28 rfl (lv_at hl 2 rfl) ?_
      refine k_ri (va_runV (As := [.int p0]) (rest := [.int (fX4_valueA p0 x), .int (fX1_f p0)]) ⟨hx, hb, hml, hown, hB⟩ (mX4_valueB l dC dI aH aM aW aC aR iW iR x p0) (cwV 1 hB (gV q_t2_80 q_t2_82 q_s_21 q_t1_1 wX4_valueB) rfl rfl rfl hX4_valueB ⟨Nat.le_of_ble_eq_true rfl, Nat.le_of_ble_eq_true rfl⟩) ⟨kP_blind NW_blind, va_recv hK hP (ci := 2) (q0 := 0) rfl rfl, kP_pre NW_warm hP hK hN⟩ rfl rfl hl.1 rfl (lv_room (Nat.le_of_ble_eq_true rfl)) dX4_branch_29 ⟨Nat.zero_le _, Nat.zero_le _⟩) ?_
      refine k_ri (va_runSN (As := [.int (fX1_f p0), .int (fX4_valueA p0 x), .int (fX4_valueB p0 x)]) (rest := []) ⟨hx, hb, hml, hown, hB⟩ (mX0_holds l (fX1_f p0) (fX4_valueA p0 x) (fX4_valueB p0 x)) ⟨va_cnB 3 hB (good_in wX0_holds) rfl rfl rfl (hN _ (List.mem_of_getElem? (i := 7) rfl)) (hB _ q_t1_11) hX0_holds.2 ⟨Nat.le_of_ble_eq_true rfl, Nat.le_of_ble_eq_true rfl⟩, hB _ q_t2_88, trivial⟩ ⟨fun _ _ _ _ q => q, fun U _ _ => ⟨rfl, trivial⟩⟩ rfl rfl hl.1 rfl (lv_room (Nat.le_of_ble_eq_true rfl)) dX4_branch_32 ⟨Nat.zero_le _, Nat.zero_le _⟩) ?_
      refine lv_if_ne (tgt := 43) hx hb dX4_branch_35 (by decide) (fun c_35 => ?_) (fun c_35 => ?_)
      · refine lv_aload_n hx hb dX4_branch_43 rfl (lv_at hl 1 rfl) ?_
        refine lv_iconst (v := 0) hx hb dX4_branch_44 (by decide) ?_
        refine lv_aload_n hx hb dX4_branch_45 rfl (lv_at hl 1 rfl) ?_
        refine va_get (D := (dC, dI)) (ci := 2) (v := .int (g_pc x)) (C := RX4) (T := TX4) (N := 7) hx hb hB iX4 hown hK hP 0 rfl rfl 3 (by decide) (hB _ q_t1_73) (fun _ h9 => h9) rfl dX4_branch_46 ?_
        refine lv_iload_n hx hb dX4_branch_49 rfl (lv_at hl 2 rfl) ?_
        refine k_ri (va_runSN (As := [.int p0]) (rest := [.int (g_pc x), .int (0 : Int32), .ref aH]) ⟨hx, hb, hml, hown, hB⟩ (mX1_numberB l p0) ⟨va_cnB 1 hB (good_in wX1_numberB) rfl rfl rfl (hN _ (List.mem_of_getElem? (i := 8) rfl)) (hB _ q_t1_10) hX1_numberB.2 ⟨Nat.le_of_ble_eq_true rfl, Nat.le_of_ble_eq_true rfl⟩, hB _ q_t2_95, trivial⟩ ⟨fun _ _ _ _ q => q, fun U _ _ => ⟨rfl, trivial⟩⟩ rfl rfl hl.1 rfl (lv_room (Nat.le_of_ble_eq_true rfl)) dX4_branch_50 ⟨Nat.zero_le _, Nat.zero_le _⟩) ?_
        refine lv_iadd hx hb dX4_branch_53 ?_
        refine k_mi (w := wD aH aM aW aC aR iW iR) wD_ad (va_runV (As := [.int (0 : Int32), .int ((g_pc x) + (fX1_numberB p0))]) (rest := []) ⟨hx, hb, hml, hown, hB⟩ (mX4_jump l dC dI aH aM aW aC aR iW iR s.heap.size x (0 : Int32) ((g_pc x) + (fX1_numberB p0))) (cwV 2 hB (gV q_t2_47 q_t2_49 q_s_15 q_t1_1 wX4_jump) rfl rfl rfl hX4_jump ⟨Nat.le_of_ble_eq_true rfl, Nat.le_of_ble_eq_true rfl⟩) ⟨kM_blind NW_blind, va_recv hK hP (ci := 2) (q0 := 0) rfl rfl, kM_pre NW_warm hP hK hD hN⟩ rfl rfl hl.1 rfl (lv_room (Nat.le_of_ble_eq_true rfl)) dX4_branch_54 ⟨Nat.zero_le _, Nat.zero_le _⟩) hD hS hA (fun r u H locs hw hP hD hS => ?_)
        obtain ⟨rfl, rfl⟩ := hw
        exact W.zret (v := bi (fX4_jump (0 : Int32) ((g_pc x) + (fX1_numberB p0)) x).1) hx hb hr (bi_nar _) (fun t ht hW => ⟨⟨bi (fX4_jump (0 : Int32) ((g_pc x) + (fX1_numberB p0)) x).1, ((fX4_jump (0 : Int32) ((g_pc x) + (fX1_numberB p0)) x).2), rfl, ⟨(by unfold fX4_branch; rw [if_neg c_7, if_neg c_12, if_neg c_35] <;> rfl), (by unfold fX4_branch; rw [if_neg c_7, if_neg c_12, if_neg c_35] <;> rfl)⟩, hpT ht hP⟩, hS.F ht⟩) hS.2.2 dX4_branch_57
      · refine lv_aload_n hx hb dX4_branch_38 rfl (lv_at hl 1 rfl) ?_
        refine k_mi (w := wD aH aM aW aC aR iW iR) wD_ad (va_runV (As := []) (rest := []) ⟨hx, hb, hml, hown, hB⟩ (mX4_goOn l dC dI aH aM aW aC aR iW iR s.heap.size x) (cwV 0 hB (gV q_t2_40 q_t2_42 q_s_14 q_t1_1 wX4_goOn) rfl rfl rfl hX4_goOn ⟨Nat.le_of_ble_eq_true rfl, Nat.le_of_ble_eq_true rfl⟩) ⟨kM_blind NW_blind, va_recv hK hP (ci := 2) (q0 := 0) rfl rfl, kM_pre NW_warm hP hK hD hN⟩ rfl rfl hl.1 rfl (lv_room (Nat.le_of_ble_eq_true rfl)) dX4_branch_39 ⟨Nat.zero_le _, Nat.zero_le _⟩) hD hS hA (fun r u H locs hw hP hD hS => ?_)
        obtain ⟨rfl, rfl⟩ := hw
        exact W.zret (v := bi (fX4_goOn x).1) hx hb hr (bi_nar _) (fun t ht hW => ⟨⟨bi (fX4_goOn x).1, ((fX4_goOn x).2), rfl, ⟨(by unfold fX4_branch; rw [if_neg c_7, if_neg c_12, if_pos c_35] <;> rfl), (by unfold fX4_branch; rw [if_neg c_7, if_neg c_12, if_pos c_35] <;> rfl)⟩, hpT ht hP⟩, hS.F ht⟩) hS.2.2 dX4_branch_42
    · refine lv_aload_n hx hb dX4_branch_15 rfl (lv_at hl 1 rfl) ?_
      refine lv_iload_n hx hb dX4_branch_16 rfl (lv_at hl 2 rfl) ?_
      refine k_mi (w := wD aH aM aW aC aR iW iR) wD_ad (va_runV (As := [.int p0]) (rest := []) ⟨hx, hb, hml, hown, hB⟩ (mX4_unknown l dC dI aH aM aW aC aR iW iR s.heap.size x p0) (cwV 1 hB (gV q_t2_58 q_t2_60 q_s_17 q_t1_1 wX4_unknown) rfl rfl rfl hX4_unknown ⟨Nat.le_of_ble_eq_true rfl, Nat.le_of_ble_eq_true rfl⟩) ⟨kM_blind NW_blind, va_recv hK hP (ci := 2) (q0 := 0) rfl rfl, kM_pre NW_warm hP hK hD hN⟩ rfl rfl hl.1 rfl (lv_room (Nat.le_of_ble_eq_true rfl)) dX4_branch_17 ⟨Nat.zero_le _, Nat.zero_le _⟩) hD hS hA (fun r u H locs hw hP hD hS => ?_)
      obtain ⟨rfl, rfl⟩ := hw
      exact W.zret (v := bi (fX4_unknown p0 x).1) hx hb hr (bi_nar _) (fun t ht hW => ⟨⟨bi (fX4_unknown p0 x).1, ((fX4_unknown p0 x).2), rfl, ⟨(by unfold fX4_branch; rw [if_neg c_7, if_pos c_12] <;> rfl), (by unfold fX4_branch; rw [if_neg c_7, if_pos c_12] <;> rfl)⟩, hpT ht hP⟩, hS.F ht⟩) hS.2.2 dX4_branch_20
def fX4_putPc (p0 : Int32) (x : St) : Bool × St := if (p0 &&& (3 : Int32)) = 0 then
    (true, s_stop (s_pc x p0) false)
  else
    (false, x)
set_option maxHeartbeats 4000000 in
set_option maxRecDepth 100000 in
theorem mX4_putPc (l : Launch) (dC : Nat → ClassId) (dI : Nat → Nat → Nat) (aH aM aW aC aR iW iR : Nat) (sz : Nat) (x : St) (p0 : Int32) : Met l yX4_putPc wsX4_putPc ({ frames := 0, cells := 0, slots := 0, locals := 0 }) (va_Pc [.ref aH, .int p0] (kM (dC, dI) [(iW, .int), (iR, .int)] NW (wD aH aM aW aC aR iW iR x) sz)) (va_Qi (fun r u => r = bi (fX4_putPc p0 x).1 ∧ u = (fX4_putPc p0 x).2) (fun u t => va_P (dC, dI) vwCl (wD aH aM aW aC aR iW iR u) t.heap) (va_A (wD aH aM aW aC aR iW iR x) sz)) 0 0 (va_A (wD aH aM aW aC aR iW iR x) sz) := by
  refine Met.ofW (cc := cX4_putPc) (maxL := 2) (ret := (some .boolean)) (by decide) rfl ?_
  intro p e s m args below meth c s₁ B hml hv
  obtain ⟨rfl, hsz, hD0, hP, hK, hN⟩ := hv
  have hx := B.exec
  have hb := B.bytes
  have hr := B.returns
  have hB := fun (w : Cond) (h : w ∈ BIG) => atoms_spec (ws := wsX4_putPc) B.pre w (List.mem_cons_of_mem _ h)
  have hown : s.vm.findClass RX4 = some m.cls := findClass_of_methodNamed B.named
  have hlocks := B.notSynchronized
  subst hsz
  have hD := hD0.self (sz := s.heap.size)
  generalize hAe : va_A (wD aH aM aW aC aR iW iR x) s.heap.size = A at hD ⊢
  have hA : ∀ q : Nat, s.heap.size ≤ q → A q := fun q h => by rw [← hAe]; exact Or.inr h
  have hS : va_S A s.heap s.heap [] := va_S.rf
  have hl := lv_entry ([.ref aH, .int p0]) (n := 2) (Nat.le_of_ble_eq_true rfl)
  rw [lg_entry_eq]
  generalize (lg_sl ([.ref aH, .int p0]) ++ List.replicate (2 - (lg_sl ([.ref aH, .int p0])).length) Slot.unset).toArray = ls at hl ⊢
  have hl : lv_has ls 2 [(0, .ref aH), (1, .int p0)] := hl
  refine lv_iload_n hx hb dX4_putPc_0 rfl (lv_at hl 1 rfl) ?_
  refine lv_iconst (v := 3) hx hb dX4_putPc_1 (by decide) ?_
  refine lv_iand hx hb dX4_putPc_2 ?_
  refine lv_if_eq (tgt := 8) hx hb dX4_putPc_3 (by decide) (fun c_3 => ?_) (fun c_3 => ?_)
  · refine lv_aload_n hx hb dX4_putPc_8 rfl (lv_at hl 0 rfl) ?_
    refine lv_iload_n hx hb dX4_putPc_9 rfl (lv_at hl 1 rfl) ?_
    refine va_put (D := (dC, dI)) (ci := 2) (v := .int p0) (ty := .int) (C := RX4) (T := TX4) (N := 7) hx hb hB iX4 tyX4 tyX4_ok nmX4 hown hK hP hD hS 0 rfl rfl 3 (by decide) (hB _ q_t1_73) (fun _ h9 => h9) rfl (by decide +kernel) rfl rfl (Nat.le_of_ble_eq_true rfl) dX4_putPc_10 (fun H locs hP hD hS => ?_)
    have hP : va_P (dC, dI) vwCl (wD aH aM aW aC aR iW iR (s_pc x p0)) H := hP
    have hD : va_D A (wD aH aM aW aC aR iW iR (s_pc x p0)) := hD
    refine lv_aload_n hx hb dX4_putPc_13 rfl (lv_at hl 0 rfl) ?_
    refine lv_iconst (v := 0) hx hb dX4_putPc_14 (by decide) ?_
    refine va_put (D := (dC, dI)) (ci := 2) (v := .int 0) (ty := .boolean) (C := RX4) (T := TX4) (N := 7) hx hb hB iX4 tyX4 tyX4_ok nmX4 hown hK hP hD hS 0 rfl rfl 4 (by decide) (hB _ q_t1_74) (fun _ h9 => h9) rfl (by decide +kernel) rfl rfl (Nat.le_of_ble_eq_true rfl) dX4_putPc_15 (fun H locs hP hD hS => ?_)
    have hP : va_P (dC, dI) vwCl (wD aH aM aW aC aR iW iR (s_stop (s_pc x p0) false)) H := hP
    have hD : va_D A (wD aH aM aW aC aR iW iR (s_stop (s_pc x p0) false)) := hD
    refine lv_iconst (v := 1) hx hb dX4_putPc_18 (by decide) ?_
    exact W.zret (v := (1 : Int32)) hx hb hr rfl (fun t ht hW => ⟨⟨(1 : Int32), (s_stop (s_pc x p0) false), rfl, ⟨(by unfold fX4_putPc; rw [if_pos c_3] <;> rfl), (by unfold fX4_putPc; rw [if_pos c_3] <;> rfl)⟩, hpT ht hP⟩, hS.F ht⟩) hS.2.2 dX4_putPc_19
  · refine lv_iconst (v := 0) hx hb dX4_putPc_6 (by decide) ?_
    exact W.zret (v := (0 : Int32)) hx hb hr rfl (fun t ht hW => ⟨⟨(0 : Int32), x, rfl, ⟨(by unfold fX4_putPc; rw [if_neg c_3] <;> rfl), (by unfold fX4_putPc; rw [if_neg c_3] <;> rfl)⟩, hpT ht hP⟩, hS.F ht⟩) hS.2.2 dX4_putPc_7
def fX4_put (p0 : Int32) (p1 : Int32) (x : St) : Bool × St := if p0 = (32 : Int32) then
    ((fX4_putPc p1 x).1, (fX4_putPc p1 x).2)
  else
    if p0 < (1 : Int32) then
      (false, x)
    else
      if p0 < (32 : Int32) then
        (true, fX4_writeRegister p0 p1 x)
      else
        (false, x)
set_option maxHeartbeats 4000000 in
set_option maxRecDepth 100000 in
theorem mX4_put (l : Launch) (dC : Nat → ClassId) (dI : Nat → Nat → Nat) (aH aM aW aC aR iW iR : Nat) (sz : Nat) (x : St) (p0 : Int32) (p1 : Int32) : Met l yX4_put wsX4_put ({ frames := 1, cells := 0, slots := 0, locals := 22 }) (va_Pc [.ref aH, .int p0, .int p1] (kM (dC, dI) [(iW, .int), (iR, .int)] NW (wD aH aM aW aC aR iW iR x) sz)) (va_Qi (fun r u => r = bi (fX4_put p0 p1 x).1 ∧ u = (fX4_put p0 p1 x).2) (fun u t => va_P (dC, dI) vwCl (wD aH aM aW aC aR iW iR u) t.heap) (va_A (wD aH aM aW aC aR iW iR x) sz)) 0 0 (va_A (wD aH aM aW aC aR iW iR x) sz) := by
  refine Met.ofW (cc := cX4_put) (maxL := 3) (ret := (some .boolean)) (by decide) rfl ?_
  intro p e s m args below meth c s₁ B hml hv
  obtain ⟨rfl, hsz, hD0, hP, hK, hN⟩ := hv
  have hx := B.exec
  have hb := B.bytes
  have hr := B.returns
  have hB := fun (w : Cond) (h : w ∈ BIG) => atoms_spec (ws := wsX4_put) B.pre w (List.mem_cons_of_mem _ h)
  have hown : s.vm.findClass RX4 = some m.cls := findClass_of_methodNamed B.named
  have hlocks := B.notSynchronized
  subst hsz
  have hD := hD0.self (sz := s.heap.size)
  generalize hAe : va_A (wD aH aM aW aC aR iW iR x) s.heap.size = A at hD ⊢
  have hA : ∀ q : Nat, s.heap.size ≤ q → A q := fun q h => by rw [← hAe]; exact Or.inr h
  have hS : va_S A s.heap s.heap [] := va_S.rf
  have hl := lv_entry ([.ref aH, .int p0, .int p1]) (n := 3) (Nat.le_of_ble_eq_true rfl)
  rw [lg_entry_eq]
  generalize (lg_sl ([.ref aH, .int p0, .int p1]) ++ List.replicate (3 - (lg_sl ([.ref aH, .int p0, .int p1])).length) Slot.unset).toArray = ls at hl ⊢
  have hl : lv_has ls 3 [(0, .ref aH), (1, .int p0), (2, .int p1)] := hl
  refine lv_iload_n hx hb dX4_put_0 rfl (lv_at hl 1 rfl) ?_
  refine lv_bipush (v := 32) hx hb dX4_put_1 (by decide) ?_
  refine lv_icmp_ne (tgt := 12) hx hb dX4_put_3 (by decide) (fun c_3 => ?_) (fun c_3 => ?_)
  · refine lv_iload_n hx hb dX4_put_12 rfl (lv_at hl 1 rfl) ?_
    refine lv_iconst (v := 1) hx hb dX4_put_13 (by decide) ?_
    refine lv_icmp_lt (tgt := 23) hx hb dX4_put_14 (by decide) (fun c_14 => ?_) (fun c_14 => ?_)
    · refine lv_iconst (v := 0) hx hb dX4_put_23 (by decide) ?_
      exact W.zret (v := (0 : Int32)) hx hb hr rfl (fun t ht hW => ⟨⟨(0 : Int32), x, rfl, ⟨(by unfold fX4_put; rw [if_neg c_3, if_pos c_14] <;> rfl), (by unfold fX4_put; rw [if_neg c_3, if_pos c_14] <;> rfl)⟩, hpT ht hP⟩, hS.F ht⟩) hS.2.2 dX4_put_24
    · refine lv_iload_n hx hb dX4_put_17 rfl (lv_at hl 1 rfl) ?_
      refine lv_bipush (v := 32) hx hb dX4_put_18 (by decide) ?_
      refine lv_icmp_lt (tgt := 25) hx hb dX4_put_20 (by decide) (fun c_20 => ?_) (fun c_20 => ?_)
      · refine lv_aload_n hx hb dX4_put_25 rfl (lv_at hl 0 rfl) ?_
        refine lv_iload_n hx hb dX4_put_26 rfl (lv_at hl 1 rfl) ?_
        refine lv_iload_n hx hb dX4_put_27 rfl (lv_at hl 2 rfl) ?_
        refine k_mv (w := wD aH aM aW aC aR iW iR) wD_ad (va_runV (As := [.int p0, .int p1]) (rest := []) ⟨hx, hb, hml, hown, hB⟩ (mX4_writeRegister l dC dI aH aM aW aC aR iW iR s.heap.size x p0 p1) (cwV 2 hB (gV q_t1_114 q_t1_116 q_s_2 q_t1_1 wX4_writeRegister) rfl rfl rfl hX4_writeRegister ⟨Nat.le_of_ble_eq_true rfl, Nat.le_of_ble_eq_true rfl⟩) ⟨kM_blind NW_blind, va_recv hK hP (ci := 2) (q0 := 0) rfl rfl, kM_pre NW_warm hP hK hD hN⟩ rfl rfl hl.1 rfl (lv_room (Nat.le_of_ble_eq_true rfl)) dX4_put_28 ⟨Nat.zero_le _, Nat.zero_le _⟩) hD hS hA (fun u H locs hw hP hD hS => ?_)
        obtain rfl := hw
        refine lv_iconst (v := 1) hx hb dX4_put_31 (by decide) ?_
        exact W.zret (v := (1 : Int32)) hx hb hr rfl (fun t ht hW => ⟨⟨(1 : Int32), (fX4_writeRegister p0 p1 x), rfl, ⟨(by unfold fX4_put; rw [if_neg c_3, if_neg c_14, if_pos c_20] <;> rfl), (by unfold fX4_put; rw [if_neg c_3, if_neg c_14, if_pos c_20] <;> rfl)⟩, hpT ht hP⟩, hS.F ht⟩) hS.2.2 dX4_put_32
      · refine lv_iconst (v := 0) hx hb dX4_put_23 (by decide) ?_
        exact W.zret (v := (0 : Int32)) hx hb hr rfl (fun t ht hW => ⟨⟨(0 : Int32), x, rfl, ⟨(by unfold fX4_put; rw [if_neg c_3, if_neg c_14, if_neg c_20] <;> rfl), (by unfold fX4_put; rw [if_neg c_3, if_neg c_14, if_neg c_20] <;> rfl)⟩, hpT ht hP⟩, hS.F ht⟩) hS.2.2 dX4_put_24
  · refine lv_aload_n hx hb dX4_put_6 rfl (lv_at hl 0 rfl) ?_
    refine lv_iload_n hx hb dX4_put_7 rfl (lv_at hl 2 rfl) ?_
    refine k_mi (w := wD aH aM aW aC aR iW iR) wD_ad (va_runV (As := [.int p1]) (rest := []) ⟨hx, hb, hml, hown, hB⟩ (mX4_putPc l dC dI aH aM aW aC aR iW iR s.heap.size x p1) (cwV 1 hB (gV q_t1_110 q_t1_112 q_s_1 q_t1_1 wX4_putPc) rfl rfl rfl hX4_putPc ⟨Nat.le_of_ble_eq_true rfl, Nat.le_of_ble_eq_true rfl⟩) ⟨kM_blind NW_blind, va_recv hK hP (ci := 2) (q0 := 0) rfl rfl, kM_pre NW_warm hP hK hD hN⟩ rfl rfl hl.1 rfl (lv_room (Nat.le_of_ble_eq_true rfl)) dX4_put_8 ⟨Nat.zero_le _, Nat.zero_le _⟩) hD hS hA (fun r u H locs hw hP hD hS => ?_)
    obtain ⟨rfl, rfl⟩ := hw
    exact W.zret (v := bi (fX4_putPc p1 x).1) hx hb hr (bi_nar _) (fun t ht hW => ⟨⟨bi (fX4_putPc p1 x).1, ((fX4_putPc p1 x).2), rfl, ⟨(by unfold fX4_put; rw [if_pos c_3] <;> rfl), (by unfold fX4_put; rw [if_pos c_3] <;> rfl)⟩, hpT ht hP⟩, hS.F ht⟩) hS.2.2 dX4_put_11
def fX4_set (p0 : Int32) (p1 : Int32) (x : St) : Bool × St := if (bi (fX3_isWordAddress p0)) = 0 then
    (false, x)
  else
    (true, fX3_writeWord p0 p1 x)
set_option maxHeartbeats 4000000 in
set_option maxRecDepth 100000 in
theorem mX4_set (l : Launch) (dC : Nat → ClassId) (dI : Nat → Nat → Nat) (aH aM aW aC aR iW iR : Nat) (sz : Nat) (x : St) (p0 : Int32) (p1 : Int32) : Met l yX4_set wsX4_set ({ frames := 2, cells := 0, slots := 0, locals := 40 }) (va_Pc [.ref aH, .int p0, .int p1] (kM (dC, dI) [(iW, .int), (iR, .int)] NW (wD aH aM aW aC aR iW iR x) sz)) (va_Qi (fun r u => r = bi (fX4_set p0 p1 x).1 ∧ u = (fX4_set p0 p1 x).2) (fun u t => va_P (dC, dI) vwCl (wD aH aM aW aC aR iW iR u) t.heap) (va_A (wD aH aM aW aC aR iW iR x) sz)) 0 0 (va_A (wD aH aM aW aC aR iW iR x) sz) := by
  refine Met.ofW (cc := cX4_set) (maxL := 3) (ret := (some .boolean)) (by decide) rfl ?_
  intro p e s m args below meth c s₁ B hml hv
  obtain ⟨rfl, hsz, hD0, hP, hK, hN⟩ := hv
  have hx := B.exec
  have hb := B.bytes
  have hr := B.returns
  have hB := fun (w : Cond) (h : w ∈ BIG) => atoms_spec (ws := wsX4_set) B.pre w (List.mem_cons_of_mem _ h)
  have hown : s.vm.findClass RX4 = some m.cls := findClass_of_methodNamed B.named
  have hlocks := B.notSynchronized
  subst hsz
  have hD := hD0.self (sz := s.heap.size)
  generalize hAe : va_A (wD aH aM aW aC aR iW iR x) s.heap.size = A at hD ⊢
  have hA : ∀ q : Nat, s.heap.size ≤ q → A q := fun q h => by rw [← hAe]; exact Or.inr h
  have hS : va_S A s.heap s.heap [] := va_S.rf
  have hl := lv_entry ([.ref aH, .int p0, .int p1]) (n := 3) (Nat.le_of_ble_eq_true rfl)
  rw [lg_entry_eq]
  generalize (lg_sl ([.ref aH, .int p0, .int p1]) ++ List.replicate (3 - (lg_sl ([.ref aH, .int p0, .int p1])).length) Slot.unset).toArray = ls at hl ⊢
  have hl : lv_has ls 3 [(0, .ref aH), (1, .int p0), (2, .int p1)] := hl
  refine lv_iload_n hx hb dX4_set_0 rfl (lv_at hl 1 rfl) ?_
  refine k_ri (va_runSN (As := [.int p0]) (rest := []) ⟨hx, hb, hml, hown, hB⟩ (mX3_isWordAddress l p0) ⟨va_cnB 1 hB (good_in wX3_isWordAddress) rfl rfl rfl (hN _ (List.mem_of_getElem? (i := 9) rfl)) (hB _ q_t1_2) hX3_isWordAddress.2 ⟨Nat.le_of_ble_eq_true rfl, Nat.le_of_ble_eq_true rfl⟩, hB _ q_t1_97, trivial⟩ ⟨fun _ _ _ _ q => q, fun U _ _ => ⟨rfl, trivial⟩⟩ rfl rfl hl.1 rfl (lv_room (Nat.le_of_ble_eq_true rfl)) dX4_set_1 ⟨Nat.zero_le _, Nat.zero_le _⟩) ?_
  refine lv_if_ne (tgt := 9) hx hb dX4_set_4 (by decide) (fun c_4 => ?_) (fun c_4 => ?_)
  · refine lv_aload_n hx hb dX4_set_9 rfl (lv_at hl 0 rfl) ?_
    refine va_get (D := (dC, dI)) (ci := 2) (v := .ref aM) (C := RX4) (T := TX4) (N := 7) hx hb hB iX4 hown hK hP 0 rfl rfl 0 (by decide) (hB _ q_t1_70) (fun _ h9 => h9) rfl dX4_set_10 ?_
    refine lv_iload_n hx hb dX4_set_13 rfl (lv_at hl 1 rfl) ?_
    refine lv_iload_n hx hb dX4_set_14 rfl (lv_at hl 2 rfl) ?_
    refine k_mv (w := wD aH aM aW aC aR iW iR) wD_ad (va_runVN (As := [.int p0, .int p1]) (rest := []) ⟨hx, hb, hml, hown, hB⟩ (mX3_writeWord l dC dI aH aM aW aC aR iW iR s.heap.size x p0 p1) ⟨va_cnB 2 hB (good_in wX3_writeWord) rfl rfl rfl (hN _ (List.mem_of_getElem? (i := 10) rfl)) (hB _ q_t1_2) hX3_writeWord.2 ⟨Nat.le_of_ble_eq_true rfl, Nat.le_of_ble_eq_true rfl⟩, hB _ q_t1_104, hB _ q_s_0⟩ ⟨kM_blind NW_blind, va_recv hK hP (ci := 1) (q0 := 1) rfl rfl, kM_pre NW_warm hP hK hD hN⟩ rfl rfl hl.1 rfl (lv_room (Nat.le_of_ble_eq_true rfl)) dX4_set_15 ⟨Nat.zero_le _, Nat.zero_le _⟩) hD hS hA (fun u H locs hw hP hD hS => ?_)
    obtain rfl := hw
    refine lv_iconst (v := 1) hx hb dX4_set_18 (by decide) ?_
    exact W.zret (v := (1 : Int32)) hx hb hr rfl (fun t ht hW => ⟨⟨(1 : Int32), (fX3_writeWord p0 p1 x), rfl, ⟨(by unfold fX4_set; rw [if_neg c_4] <;> rfl), (by unfold fX4_set; rw [if_neg c_4] <;> rfl)⟩, hpT ht hP⟩, hS.F ht⟩) hS.2.2 dX4_set_19
  · refine lv_iconst (v := 0) hx hb dX4_set_7 (by decide) ?_
    exact W.zret (v := (0 : Int32)) hx hb hr rfl (fun t ht hW => ⟨⟨(0 : Int32), x, rfl, ⟨(by unfold fX4_set; rw [if_pos c_4] <;> rfl), (by unfold fX4_set; rw [if_pos c_4] <;> rfl)⟩, hpT ht hP⟩, hS.F ht⟩) hS.2.2 dX4_set_8
def fX4_line (p0 : Bool) (x : St) : St := s_line x p0
set_option maxHeartbeats 4000000 in
set_option maxRecDepth 100000 in
theorem mX4_line (l : Launch) (dC : Nat → ClassId) (dI : Nat → Nat → Nat) (aH aM aW aC aR iW iR : Nat) (sz : Nat) (x : St) (p0 : Bool) : Met l yX4_line wsX4_line ({ frames := 0, cells := 0, slots := 0, locals := 0 }) (va_Pc [.ref aH, .int (bi p0)] (kM (dC, dI) [(iW, .int), (iR, .int)] NW (wD aH aM aW aC aR iW iR x) sz)) (va_Qv (fun u => u = fX4_line p0 x) (fun u t => va_P (dC, dI) vwCl (wD aH aM aW aC aR iW iR u) t.heap) (va_A (wD aH aM aW aC aR iW iR x) sz)) 0 0 (va_A (wD aH aM aW aC aR iW iR x) sz) := by
  refine Met.ofW (cc := cX4_line) (maxL := 2) (ret := none) (by decide) rfl ?_
  intro p e s m args below meth c s₁ B hml hv
  obtain ⟨rfl, hsz, hD0, hP, hK, hN⟩ := hv
  have hx := B.exec
  have hb := B.bytes
  have hr := B.returns
  have hB := fun (w : Cond) (h : w ∈ BIG) => atoms_spec (ws := wsX4_line) B.pre w (List.mem_cons_of_mem _ h)
  have hown : s.vm.findClass RX4 = some m.cls := findClass_of_methodNamed B.named
  have hlocks := B.notSynchronized
  subst hsz
  have hD := hD0.self (sz := s.heap.size)
  generalize hAe : va_A (wD aH aM aW aC aR iW iR x) s.heap.size = A at hD ⊢
  have hA : ∀ q : Nat, s.heap.size ≤ q → A q := fun q h => by rw [← hAe]; exact Or.inr h
  have hS : va_S A s.heap s.heap [] := va_S.rf
  have hl := lv_entry ([.ref aH, .int (bi p0)]) (n := 2) (Nat.le_of_ble_eq_true rfl)
  rw [lg_entry_eq]
  generalize (lg_sl ([.ref aH, .int (bi p0)]) ++ List.replicate (2 - (lg_sl ([.ref aH, .int (bi p0)])).length) Slot.unset).toArray = ls at hl ⊢
  have hl : lv_has ls 2 [(0, .ref aH), (1, .int (bi p0))] := hl
  refine lv_aload_n hx hb dX4_line_0 rfl (lv_at hl 0 rfl) ?_
  refine va_get (D := (dC, dI)) (ci := 2) (v := .ref aC) (C := RX4) (T := TX4) (N := 7) hx hb hB iX4 hown hK hP 0 rfl rfl 1 (by decide) (hB _ q_t1_71) (fun _ h9 => h9) rfl dX4_line_1 ?_
  refine lv_iload_n hx hb dX4_line_4 rfl (lv_at hl 1 rfl) ?_
  refine va_putN (D := (dC, dI)) (ci := 0) (v := .int (bi p0)) (ty := .boolean) (C := RX2) (T := TX2) (N := 9) hx hb hB iX2 tyX2 tyX2_ok nmX2 hown hK hP hD hS 3 rfl rfl 8 (by decide) (va_Nw.use rfl (hN _ (List.mem_of_getElem? (i := 11) rfl))) (fun _ h9 => h9) rfl (by decide +kernel) (bi_nar _) (bi_fit _) (Nat.le_of_ble_eq_true rfl) dX4_line_5 (fun H locs hP hD hS => ?_)
  have hP : va_P (dC, dI) vwCl (wD aH aM aW aC aR iW iR (s_line x p0)) H := hP
  have hD : va_D A (wD aH aM aW aC aR iW iR (s_line x p0)) := hD
  exact W.vret hx hb hr (fun t ht hW => ⟨⟨(s_line x p0), rfl, rfl, hpT ht hP⟩, hS.F ht⟩) hS.2.2 dX4_line_8
def fX4_state (p0 : Int32) (x : St) : Int32 := if p0 = (0 : Int32) then
    if (bi (g_stop x)) = 0 then
      (0 : Int32)
    else
      (1 : Int32)
  else
    if p0 = (1 : Int32) then
      g_steps x
    else
      if p0 = (2 : Int32) then
        (g_done x) &&& (2147483647 : Int32)
      else
        if p0 = (3 : Int32) then
          g_traps x
        else
          if p0 = (4 : Int32) then
            if (bi (g_line x)) = 0 then
              (0 : Int32)
            else
              (1 : Int32)
          else
            (-1 : Int32)
set_option maxHeartbeats 4000000 in
set_option maxRecDepth 100000 in
theorem mX4_state (l : Launch) (dC : Nat → ClassId) (dI : Nat → Nat → Nat) (aH aM aW aC aR iW iR : Nat) (x : St) (p0 : Int32) : Met l yX4_state wsX4_state ({ frames := 0, cells := 0, slots := 0, locals := 0 }) (va_Pc [.ref aH, .int p0] (kP (dC, dI) [(iW, .int), (iR, .int)] NW (wD aH aM aW aC aR iW iR x))) (QcRead ((fX4_state p0 x))) 0 0 (fun _ => False) := by
  refine Met.ofW (cc := cX4_state) (maxL := 2) (ret := (some .int)) (by decide) rfl ?_
  intro p e s m args below meth c s₁ B hml hv
  obtain ⟨rfl, hP, hK, hN⟩ := hv
  have hx := B.exec
  have hb := B.bytes
  have hr := B.returns
  have hB := fun (w : Cond) (h : w ∈ BIG) => atoms_spec (ws := wsX4_state) B.pre w (List.mem_cons_of_mem _ h)
  have hown : s.vm.findClass RX4 = some m.cls := findClass_of_methodNamed B.named
  have hlocks := B.notSynchronized
  have hl := lv_entry ([.ref aH, .int p0]) (n := 2) (Nat.le_of_ble_eq_true rfl)
  rw [lg_entry_eq]
  generalize (lg_sl ([.ref aH, .int p0]) ++ List.replicate (2 - (lg_sl ([.ref aH, .int p0])).length) Slot.unset).toArray = ls at hl ⊢
  have hl : lv_has ls 2 [(0, .ref aH), (1, .int p0)] := hl
  refine lv_iload_n hx hb dX4_state_0 rfl (lv_at hl 1 rfl) ?_
  by_cases c_1_0 : p0 = (0 : Int32)
  · refine lv_tableIn (off := 35) (tgt := 36) hx hb dX4_state_1 (by rw [c_1_0]; decide) (by rw [c_1_0]; decide) (by rw [c_1_0]; rfl) (by decide) ?_
    refine lv_aload_n hx hb dX4_state_36 rfl (lv_at hl 0 rfl) ?_
    refine va_get (D := (dC, dI)) (ci := 2) (v := .int (bi (g_stop x))) (C := RX4) (T := TX4) (N := 7) hx hb hB iX4 hown hK hP 0 rfl rfl 4 (by decide) (hB _ q_t1_74) (fun _ h9 => h9) rfl dX4_state_37 ?_
    refine lv_if_eq (tgt := 47) hx hb dX4_state_40 (by decide) (fun c_40 => ?_) (fun c_40 => ?_)
    · refine lv_iconst (v := 0) hx hb dX4_state_47 (by decide) ?_
      exact W.iret (v := (0 : Int32)) hx hb hr (fun t ht hW => ⟨congrArg (fun z => Outcome.returned (some (Value.int z))) (by unfold fX4_state; rw [if_pos c_1_0, if_pos c_40] <;> rfl), ht⟩) (fun q h => nomatch h) dX4_state_48
    · refine lv_iconst (v := 1) hx hb dX4_state_43 (by decide) ?_
      refine lv_goto (tgt := 48) hx hb dX4_state_44 (by decide) ?_
      exact W.iret (v := (1 : Int32)) hx hb hr (fun t ht hW => ⟨congrArg (fun z => Outcome.returned (some (Value.int z))) (by unfold fX4_state; rw [if_pos c_1_0, if_neg c_40] <;> rfl), ht⟩) (fun q h => nomatch h) dX4_state_48
  by_cases c_1_1 : p0 = (1 : Int32)
  · refine lv_tableIn (off := 48) (tgt := 49) hx hb dX4_state_1 (by rw [c_1_1]; decide) (by rw [c_1_1]; decide) (by rw [c_1_1]; rfl) (by decide) ?_
    refine lv_aload_n hx hb dX4_state_49 rfl (lv_at hl 0 rfl) ?_
    refine va_get (D := (dC, dI)) (ci := 2) (v := .int (g_steps x)) (C := RX4) (T := TX4) (N := 7) hx hb hB iX4 hown hK hP 0 rfl rfl 5 (by decide) (hB _ q_t1_75) (fun _ h9 => h9) rfl dX4_state_50 ?_
    exact W.iret (v := g_steps x) hx hb hr (fun t ht hW => ⟨congrArg (fun z => Outcome.returned (some (Value.int z))) (by unfold fX4_state; rw [if_neg c_1_0, if_pos c_1_1] <;> rfl), ht⟩) (fun q h => nomatch h) dX4_state_53
  by_cases c_1_2 : p0 = (2 : Int32)
  · refine lv_tableIn (off := 53) (tgt := 54) hx hb dX4_state_1 (by rw [c_1_2]; decide) (by rw [c_1_2]; decide) (by rw [c_1_2]; rfl) (by decide) ?_
    refine lv_aload_n hx hb dX4_state_54 rfl (lv_at hl 0 rfl) ?_
    refine va_get (D := (dC, dI)) (ci := 2) (v := .ref aC) (C := RX4) (T := TX4) (N := 7) hx hb hB iX4 hown hK hP 0 rfl rfl 1 (by decide) (hB _ q_t1_71) (fun _ h9 => h9) rfl dX4_state_55 ?_
    refine va_getN (D := (dC, dI)) (ci := 0) (v := .int (g_done x)) (C := RX2) (T := TX2) (N := 9) hx hb hB iX2 hown hK hP 3 rfl rfl 7 (by decide) (va_Nw.use rfl (hN _ (List.mem_of_getElem? (i := 12) rfl))) (fun _ h9 => h9) rfl dX4_state_58 ?_
    refine lv_ldc (v := 2147483647) hx hb hown (hB _ q_t1_142) dX4_state_61 ?_
    refine lv_iand hx hb dX4_state_63 ?_
    exact W.iret (v := (g_done x) &&& (2147483647 : Int32)) hx hb hr (fun t ht hW => ⟨congrArg (fun z => Outcome.returned (some (Value.int z))) (by unfold fX4_state; rw [if_neg c_1_0, if_neg c_1_1, if_pos c_1_2] <;> rfl), ht⟩) (fun q h => nomatch h) dX4_state_64
  by_cases c_1_3 : p0 = (3 : Int32)
  · refine lv_tableIn (off := 64) (tgt := 65) hx hb dX4_state_1 (by rw [c_1_3]; decide) (by rw [c_1_3]; decide) (by rw [c_1_3]; rfl) (by decide) ?_
    refine lv_aload_n hx hb dX4_state_65 rfl (lv_at hl 0 rfl) ?_
    refine va_get (D := (dC, dI)) (ci := 2) (v := .int (g_traps x)) (C := RX4) (T := TX4) (N := 7) hx hb hB iX4 hown hK hP 0 rfl rfl 6 (by decide) (hB _ q_t1_76) (fun _ h9 => h9) rfl dX4_state_66 ?_
    exact W.iret (v := g_traps x) hx hb hr (fun t ht hW => ⟨congrArg (fun z => Outcome.returned (some (Value.int z))) (by unfold fX4_state; rw [if_neg c_1_0, if_neg c_1_1, if_neg c_1_2, if_pos c_1_3] <;> rfl), ht⟩) (fun q h => nomatch h) dX4_state_69
  by_cases c_1_4 : p0 = (4 : Int32)
  · refine lv_tableIn (off := 69) (tgt := 70) hx hb dX4_state_1 (by rw [c_1_4]; decide) (by rw [c_1_4]; decide) (by rw [c_1_4]; rfl) (by decide) ?_
    refine lv_aload_n hx hb dX4_state_70 rfl (lv_at hl 0 rfl) ?_
    refine va_get (D := (dC, dI)) (ci := 2) (v := .ref aC) (C := RX4) (T := TX4) (N := 7) hx hb hB iX4 hown hK hP 0 rfl rfl 1 (by decide) (hB _ q_t1_71) (fun _ h9 => h9) rfl dX4_state_71 ?_
    refine va_getN (D := (dC, dI)) (ci := 0) (v := .int (bi (g_line x))) (C := RX2) (T := TX2) (N := 9) hx hb hB iX2 hown hK hP 3 rfl rfl 8 (by decide) (va_Nw.use rfl (hN _ (List.mem_of_getElem? (i := 11) rfl))) (fun _ h9 => h9) rfl dX4_state_74 ?_
    refine lv_if_eq (tgt := 84) hx hb dX4_state_77 (by decide) (fun c_77 => ?_) (fun c_77 => ?_)
    · refine lv_iconst (v := 0) hx hb dX4_state_84 (by decide) ?_
      exact W.iret (v := (0 : Int32)) hx hb hr (fun t ht hW => ⟨congrArg (fun z => Outcome.returned (some (Value.int z))) (by unfold fX4_state; rw [if_neg c_1_0, if_neg c_1_1, if_neg c_1_2, if_neg c_1_3, if_pos c_1_4, if_pos c_77] <;> rfl), ht⟩) (fun q h => nomatch h) dX4_state_85
    · refine lv_iconst (v := 1) hx hb dX4_state_80 (by decide) ?_
      refine lv_goto (tgt := 85) hx hb dX4_state_81 (by decide) ?_
      exact W.iret (v := (1 : Int32)) hx hb hr (fun t ht hW => ⟨congrArg (fun z => Outcome.returned (some (Value.int z))) (by unfold fX4_state; rw [if_neg c_1_0, if_neg c_1_1, if_neg c_1_2, if_neg c_1_3, if_pos c_1_4, if_neg c_77] <;> rfl), ht⟩) (fun q h => nomatch h) dX4_state_85
  refine lv_tableOut (tgt := 86) hx hb dX4_state_1 (by have h0 := lv_neT (a := 0) c_1_0 (by decide); have h1 := lv_neT (a := 1) c_1_1 (by decide); have h2 := lv_neT (a := 2) c_1_2 (by decide); have h3 := lv_neT (a := 3) c_1_3 (by decide); have h4 := lv_neT (a := 4) c_1_4 (by decide); omega) (by decide) ?_
  refine lv_iconst (v := -1) hx hb dX4_state_86 (by decide) ?_
  exact W.iret (v := (-1 : Int32)) hx hb hr (fun t ht hW => ⟨congrArg (fun z => Outcome.returned (some (Value.int z))) (by unfold fX4_state; rw [if_neg c_1_0, if_neg c_1_1, if_neg c_1_2, if_neg c_1_3, if_neg c_1_4] <;> rfl), ht⟩) (fun q h => nomatch h) dX4_state_87
def fX4_reset (p0 : Bool) (x : St) : St := if (bi p0) = 0 then
    s_traps (s_stop (s_pc (fX2_clear (s_reg x (fillf 32 (0 : Int32) (g_reg x)))) (0 : Int32)) false) (0 : Int32)
  else
    fX3_clear (s_traps (s_stop (s_pc (fX2_clear (s_reg x (fillf 32 (0 : Int32) (g_reg x)))) (0 : Int32)) false) (0 : Int32))
set_option maxHeartbeats 4000000 in
set_option maxRecDepth 100000 in
theorem mX4_reset (l : Launch) (dC : Nat → ClassId) (dI : Nat → Nat → Nat) (aH aM aW aC aR iW iR : Nat) (sz : Nat) (x : St) (p0 : Bool) : Met l yX4_reset wsX4_reset ({ frames := 2, cells := 0, slots := 0, locals := 43 }) (va_Pc [.ref aH, .int (bi p0)] (kM (dC, dI) [(iW, .int), (iR, .int)] NW (wD aH aM aW aC aR iW iR x) sz)) (va_Qv (fun u => u = fX4_reset p0 x) (fun u t => va_P (dC, dI) vwCl (wD aH aM aW aC aR iW iR u) t.heap) (va_A (wD aH aM aW aC aR iW iR x) sz)) 0 0 (va_A (wD aH aM aW aC aR iW iR x) sz) := by
  refine Met.ofW (cc := cX4_reset) (maxL := 2) (ret := none) (by decide) rfl ?_
  intro p e s m args below meth c s₁ B hml hv
  obtain ⟨rfl, hsz, hD0, hP, hK, hN⟩ := hv
  have hx := B.exec
  have hb := B.bytes
  have hr := B.returns
  have hB := fun (w : Cond) (h : w ∈ BIG) => atoms_spec (ws := wsX4_reset) B.pre w (List.mem_cons_of_mem _ h)
  have hown : s.vm.findClass RX4 = some m.cls := findClass_of_methodNamed B.named
  have hlocks := B.notSynchronized
  subst hsz
  have hD := hD0.self (sz := s.heap.size)
  generalize hAe : va_A (wD aH aM aW aC aR iW iR x) s.heap.size = A at hD ⊢
  have hA : ∀ q : Nat, s.heap.size ≤ q → A q := fun q h => by rw [← hAe]; exact Or.inr h
  have hS : va_S A s.heap s.heap [] := va_S.rf
  have hl := lv_entry ([.ref aH, .int (bi p0)]) (n := 2) (Nat.le_of_ble_eq_true rfl)
  rw [lg_entry_eq]
  generalize (lg_sl ([.ref aH, .int (bi p0)]) ++ List.replicate (2 - (lg_sl ([.ref aH, .int (bi p0)])).length) Slot.unset).toArray = ls at hl ⊢
  have hl : lv_has ls 2 [(0, .ref aH), (1, .int (bi p0))] := hl
  refine lv_aload_n hx hb dX4_reset_0 rfl (lv_at hl 0 rfl) ?_
  refine va_get (D := (dC, dI)) (ci := 2) (v := .ref aR) (C := RX4) (T := TX4) (N := 7) hx hb hB iX4 hown hK hP 0 rfl rfl 2 (by decide) (hB _ q_t1_72) (fun _ h9 => h9) rfl dX4_reset_1 ?_
  refine lv_iconst (v := 0) hx hb dX4_reset_4 (by decide) ?_
  refine k_mv (w := fun u : Nat → Int32 => (wD aH aM aW aC aR iW iR x).set 4 (aR, .inl (iR, 32, .inl u))) (x := g_reg x) (fun _ _ => rfl) (va_runS (As := [.ref aR, .int (0 : Int32)]) (rest := []) ⟨hx, hb, hml, hown, hB⟩ (m_fill l dC dI (wD aH aM aW aC aR iW iR x) [(iW, .int), (iR, .int)] 4 1 aR iR 32 (g_reg x) (0 : Int32) s.heap.size rfl rfl (by decide)) (va_cwS 2 hB (gS q_t1_126 q_t1_127 q_t1_12 wJ7_fill) rfl rfl rfl hJ7_fill.2 ⟨Nat.le_of_ble_eq_true rfl, Nat.le_of_ble_eq_true rfl⟩) ⟨kM_blind NW_blind, kM_pre NW_warm hP hK hD hN⟩ rfl rfl hl.1 rfl (lv_room (Nat.le_of_ble_eq_true rfl)) dX4_reset_5 ⟨Nat.zero_le _, Nat.zero_le _⟩) hD hS hA (fun u H locs hw hP hD hS => ?_)
  obtain rfl := hw
  have hP : va_P (dC, dI) vwCl (wD aH aM aW aC aR iW iR (s_reg x (fillf 32 (0 : Int32) (g_reg x)))) H := hP
  have hD : va_D A (wD aH aM aW aC aR iW iR (s_reg x (fillf 32 (0 : Int32) (g_reg x)))) := hD
  refine lv_aload_n hx hb dX4_reset_8 rfl (lv_at hl 0 rfl) ?_
  refine va_get (D := (dC, dI)) (ci := 2) (v := .ref aC) (C := RX4) (T := TX4) (N := 7) hx hb hB iX4 hown hK hP 0 rfl rfl 1 (by decide) (hB _ q_t1_71) (fun _ h9 => h9) rfl dX4_reset_9 ?_
  refine k_mv (w := wD aH aM aW aC aR iW iR) wD_ad (va_runVN (As := []) (rest := []) ⟨hx, hb, hml, hown, hB⟩ (mX2_clear l dC dI aH aM aW aC aR iW iR H.size (s_reg x (fillf 32 (0 : Int32) (g_reg x)))) ⟨va_cnB 0 hB (good_in wX2_clear) rfl rfl rfl (hN _ (List.mem_of_getElem? (i := 13) rfl)) (hB _ q_t1_3) hX2_clear.2 ⟨Nat.le_of_ble_eq_true rfl, Nat.le_of_ble_eq_true rfl⟩, hB _ q_t1_131, hB _ q_s_3⟩ ⟨kM_blind NW_blind, va_recv hK hP (ci := 0) (q0 := 3) rfl rfl, kM_pre NW_warm hP hK hD hN⟩ rfl rfl hl.1 rfl (lv_room (Nat.le_of_ble_eq_true rfl)) dX4_reset_12 ⟨Nat.zero_le _, Nat.zero_le _⟩) hD hS hA (fun u H locs hw hP hD hS => ?_)
  obtain rfl := hw
  refine lv_aload_n hx hb dX4_reset_15 rfl (lv_at hl 0 rfl) ?_
  refine lv_iconst (v := 0) hx hb dX4_reset_16 (by decide) ?_
  refine va_put (D := (dC, dI)) (ci := 2) (v := .int (0 : Int32)) (ty := .int) (C := RX4) (T := TX4) (N := 7) hx hb hB iX4 tyX4 tyX4_ok nmX4 hown hK hP hD hS 0 rfl rfl 3 (by decide) (hB _ q_t1_73) (fun _ h9 => h9) rfl (by decide +kernel) rfl rfl (Nat.le_of_ble_eq_true rfl) dX4_reset_17 (fun H locs hP hD hS => ?_)
  have hP : va_P (dC, dI) vwCl (wD aH aM aW aC aR iW iR (s_pc (fX2_clear (s_reg x (fillf 32 (0 : Int32) (g_reg x)))) (0 : Int32))) H := hP
  have hD : va_D A (wD aH aM aW aC aR iW iR (s_pc (fX2_clear (s_reg x (fillf 32 (0 : Int32) (g_reg x)))) (0 : Int32))) := hD
  refine lv_aload_n hx hb dX4_reset_20 rfl (lv_at hl 0 rfl) ?_
  refine lv_iconst (v := 0) hx hb dX4_reset_21 (by decide) ?_
  refine va_put (D := (dC, dI)) (ci := 2) (v := .int 0) (ty := .boolean) (C := RX4) (T := TX4) (N := 7) hx hb hB iX4 tyX4 tyX4_ok nmX4 hown hK hP hD hS 0 rfl rfl 4 (by decide) (hB _ q_t1_74) (fun _ h9 => h9) rfl (by decide +kernel) rfl rfl (Nat.le_of_ble_eq_true rfl) dX4_reset_22 (fun H locs hP hD hS => ?_)
  have hP : va_P (dC, dI) vwCl (wD aH aM aW aC aR iW iR (s_stop (s_pc (fX2_clear (s_reg x (fillf 32 (0 : Int32) (g_reg x)))) (0 : Int32)) false)) H := hP
  have hD : va_D A (wD aH aM aW aC aR iW iR (s_stop (s_pc (fX2_clear (s_reg x (fillf 32 (0 : Int32) (g_reg x)))) (0 : Int32)) false)) := hD
  refine lv_aload_n hx hb dX4_reset_25 rfl (lv_at hl 0 rfl) ?_
  refine lv_iconst (v := 0) hx hb dX4_reset_26 (by decide) ?_
  refine va_put (D := (dC, dI)) (ci := 2) (v := .int (0 : Int32)) (ty := .int) (C := RX4) (T := TX4) (N := 7) hx hb hB iX4 tyX4 tyX4_ok nmX4 hown hK hP hD hS 0 rfl rfl 6 (by decide) (hB _ q_t1_76) (fun _ h9 => h9) rfl (by decide +kernel) rfl rfl (Nat.le_of_ble_eq_true rfl) dX4_reset_27 (fun H locs hP hD hS => ?_)
  have hP : va_P (dC, dI) vwCl (wD aH aM aW aC aR iW iR (s_traps (s_stop (s_pc (fX2_clear (s_reg x (fillf 32 (0 : Int32) (g_reg x)))) (0 : Int32)) false) (0 : Int32))) H := hP
  have hD : va_D A (wD aH aM aW aC aR iW iR (s_traps (s_stop (s_pc (fX2_clear (s_reg x (fillf 32 (0 : Int32) (g_reg x)))) (0 : Int32)) false) (0 : Int32))) := hD
  refine lv_iload_n hx hb dX4_reset_30 rfl (lv_at hl 1 rfl) ?_
  refine lv_if_eq (tgt := 41) hx hb dX4_reset_31 (by decide) (fun c_31 => ?_) (fun c_31 => ?_)
  · exact W.vret hx hb hr (fun t ht hW => ⟨⟨(s_traps (s_stop (s_pc (fX2_clear (s_reg x (fillf 32 (0 : Int32) (g_reg x)))) (0 : Int32)) false) (0 : Int32)), rfl, (by unfold fX4_reset; rw [if_pos c_31] <;> rfl), hpT ht hP⟩, hS.F ht⟩) hS.2.2 dX4_reset_41
  · refine lv_aload_n hx hb dX4_reset_34 rfl (lv_at hl 0 rfl) ?_
    refine va_get (D := (dC, dI)) (ci := 2) (v := .ref aM) (C := RX4) (T := TX4) (N := 7) hx hb hB iX4 hown hK hP 0 rfl rfl 0 (by decide) (hB _ q_t1_70) (fun _ h9 => h9) rfl dX4_reset_35 ?_
    refine k_mv (w := wD aH aM aW aC aR iW iR) wD_ad (va_runVN (As := []) (rest := []) ⟨hx, hb, hml, hown, hB⟩ (mX3_clear l dC dI aH aM aW aC aR iW iR H.size (s_traps (s_stop (s_pc (fX2_clear (s_reg x (fillf 32 (0 : Int32) (g_reg x)))) (0 : Int32)) false) (0 : Int32))) ⟨va_cnB 0 hB (good_in wX3_clear) rfl rfl rfl (hN _ (List.mem_of_getElem? (i := 14) rfl)) (hB _ q_t1_2) hX3_clear.2 ⟨Nat.le_of_ble_eq_true rfl, Nat.le_of_ble_eq_true rfl⟩, hB _ q_t1_135, hB _ q_s_4⟩ ⟨kM_blind NW_blind, va_recv hK hP (ci := 1) (q0 := 1) rfl rfl, kM_pre NW_warm hP hK hD hN⟩ rfl rfl hl.1 rfl (lv_room (Nat.le_of_ble_eq_true rfl)) dX4_reset_38 ⟨Nat.zero_le _, Nat.zero_le _⟩) hD hS hA (fun u H locs hw hP hD hS => ?_)
    obtain rfl := hw
    exact W.vret hx hb hr (fun t ht hW => ⟨⟨(fX3_clear (s_traps (s_stop (s_pc (fX2_clear (s_reg x (fillf 32 (0 : Int32) (g_reg x)))) (0 : Int32)) false) (0 : Int32))), rfl, (by unfold fX4_reset; rw [if_neg c_31] <;> rfl), hpT ht hP⟩, hS.F ht⟩) hS.2.2 dX4_reset_41
end
section
def fX4_load (p0 : Int32) (x : St) : Bool × St := if (fX1_f p0) = (3 : Int32) then
    ((fX4_unknown p0 x).1, (fX4_unknown p0 x).2)
  else
    if (fX1_f p0) ≤ (5 : Int32) then
      if (bi (fX3_isBy ((fX4_valueA p0 x) + (fX1_numberI p0)) ((fX1_f p0) &&& (3 : Int32)))) = 0 then
        ((fX4_trap (4 : Int32) ((fX4_valueA p0 x) + (fX1_numberI p0)) x).1, (fX4_trap (4 : Int32) ((fX4_valueA p0 x) + (fX1_numberI p0)) x).2)
      else
        if (bi (fX3_holds ((fX4_valueA p0 x) + (fX1_numberI p0)))) = 0 then
          ((fX4_trap (5 : Int32) ((fX4_valueA p0 x) + (fX1_numberI p0)) x).1, (fX4_trap (5 : Int32) ((fX4_valueA p0 x) + (fX1_numberI p0)) x).2)
        else
          ((fX4_goOnWith p0 (fX3_readPart ((fX4_valueA p0 x) + (fX1_numberI p0)) (fX1_f p0) x) x).1, (fX4_goOnWith p0 (fX3_readPart ((fX4_valueA p0 x) + (fX1_numberI p0)) (fX1_f p0) x) x).2)
    else
      ((fX4_unknown p0 x).1, (fX4_unknown p0 x).2)
set_option maxHeartbeats 4000000 in
set_option maxRecDepth 100000 in
theorem mX4_load (l : Launch) (dC : Nat → ClassId) (dI : Nat → Nat → Nat) (aH aM aW aC aR iW iR : Nat) (sz : Nat) (x : St) (p0 : Int32) : Met l yX4_load wsX4_load ({ frames := 3, cells := 0, slots := 0, locals := 66 }) (va_Pc [.ref aH, .int p0] (kM (dC, dI) [(iW, .int), (iR, .int)] NW (wD aH aM aW aC aR iW iR x) sz)) (va_Qi (fun r u => r = bi (fX4_load p0 x).1 ∧ u = (fX4_load p0 x).2) (fun u t => va_P (dC, dI) vwCl (wD aH aM aW aC aR iW iR u) t.heap) (va_A (wD aH aM aW aC aR iW iR x) sz)) 0 0 (va_A (wD aH aM aW aC aR iW iR x) sz) := by
  refine Met.ofW (cc := cX4_load) (maxL := 4) (ret := (some .boolean)) (by decide) rfl ?_
  intro p e s m args below meth c s₁ B hml hv
  obtain ⟨rfl, hsz, hD0, hP, hK, hN⟩ := hv
  have hx := B.exec
  have hb := B.bytes
  have hr := B.returns
  have hB := fun (w : Cond) (h : w ∈ BIG) => atoms_spec (ws := wsX4_load) B.pre w (List.mem_cons_of_mem _ h)
  have hown : s.vm.findClass RX4 = some m.cls := findClass_of_methodNamed B.named
  have hlocks := B.notSynchronized
  subst hsz
  have hD := hD0.self (sz := s.heap.size)
  generalize hAe : va_A (wD aH aM aW aC aR iW iR x) s.heap.size = A at hD ⊢
  have hA : ∀ q : Nat, s.heap.size ≤ q → A q := fun q h => by rw [← hAe]; exact Or.inr h
  have hS : va_S A s.heap s.heap [] := va_S.rf
  have hl := lv_entry ([.ref aH, .int p0]) (n := 4) (Nat.le_of_ble_eq_true rfl)
  rw [lg_entry_eq]
  generalize (lg_sl ([.ref aH, .int p0]) ++ List.replicate (4 - (lg_sl ([.ref aH, .int p0])).length) Slot.unset).toArray = ls at hl ⊢
  have hl : lv_has ls 4 [(0, .ref aH), (1, .int p0)] := hl
  refine lv_iload_n hx hb dX4_load_0 rfl (lv_at hl 1 rfl) ?_
  refine k_ri (va_runSN (As := [.int p0]) (rest := []) ⟨hx, hb, hml, hown, hB⟩ (mX1_f l p0) ⟨va_cnB 1 hB (good_in wX1_f) rfl rfl rfl (hN _ (List.mem_of_getElem? (i := 5) rfl)) (hB _ q_t1_10) hX1_f.2 ⟨Nat.le_of_ble_eq_true rfl, Nat.le_of_ble_eq_true rfl⟩, hB _ q_t2_56, trivial⟩ ⟨fun _ _ _ _ q => q, fun U _ _ => ⟨rfl, trivial⟩⟩ rfl rfl hl.1 rfl (lv_room (Nat.le_of_ble_eq_true rfl)) dX4_load_1 ⟨Nat.zero_le _, Nat.zero_le _⟩) ?_
  refine lv_istore_n (lv' := [(2, .int (fX1_f p0)), (0, .ref aH), (1, .int p0)]) hx hb dX4_load_4 rfl hl (by decide) rfl (fun ls hl => ?_)
  refine lv_iload_n hx hb dX4_load_5 rfl (lv_at hl 0 rfl) ?_
  refine lv_iconst (v := 3) hx hb dX4_load_6 (by decide) ?_
  refine lv_icmp_eq (tgt := 15) hx hb dX4_load_7 (by decide) (fun c_7 => ?_) (fun c_7 => ?_)
  · refine lv_aload_n hx hb dX4_load_15 rfl (lv_at hl 1 rfl) ?_
    refine lv_iload_n hx hb dX4_load_16 rfl (lv_at hl 2 rfl) ?_
    refine k_mi (w := wD aH aM aW aC aR iW iR) wD_ad (va_runV (As := [.int p0]) (rest := []) ⟨hx, hb, hml, hown, hB⟩ (mX4_unknown l dC dI aH aM aW aC aR iW iR s.heap.size x p0) (cwV 1 hB (gV q_t2_58 q_t2_60 q_s_17 q_t1_1 wX4_unknown) rfl rfl rfl hX4_unknown ⟨Nat.le_of_ble_eq_true rfl, Nat.le_of_ble_eq_true rfl⟩) ⟨kM_blind NW_blind, va_recv hK hP (ci := 2) (q0 := 0) rfl rfl, kM_pre NW_warm hP hK hD hN⟩ rfl rfl hl.1 rfl (lv_room (Nat.le_of_ble_eq_true rfl)) dX4_load_17 ⟨Nat.zero_le _, Nat.zero_le _⟩) hD hS hA (fun r u H locs hw hP hD hS => ?_)
    obtain ⟨rfl, rfl⟩ := hw
    exact W.zret (v := bi (fX4_unknown p0 x).1) hx hb hr (bi_nar _) (fun t ht hW => ⟨⟨bi (fX4_unknown p0 x).1, ((fX4_unknown p0 x).2), rfl, ⟨(by unfold fX4_load; rw [if_pos c_7] <;> rfl), (by unfold fX4_load; rw [if_pos c_7] <;> rfl)⟩, hpT ht hP⟩, hS.F ht⟩) hS.2.2 dX4_load_20
  · refine lv_iload_n hx hb dX4_load_10 rfl (lv_at hl 0 rfl) ?_
    refine lv_iconst (v := 5) hx hb dX4_load_11 (by decide) ?_
    refine lv_icmp_le (tgt := 21) hx hb dX4_load_12 (by decide) (fun c_12 => ?_) (fun c_12 => ?_)
    · refine lv_aload_n hx hb dX4_load_21 rfl (lv_at hl 1 rfl) ?_
      refine lv_iload_n hx hb dX4_load_22 rfl (lv_at hl 2 rfl) ?_
      refine k_ri (va_runV (As := [.int p0]) (rest := []) ⟨hx, hb, hml, hown, hB⟩ (mX4_valueA l dC dI aH aM aW aC aR iW iR x p0) (cwV 1 hB (gV q_t2_62 q_t2_64 q_s_18 q_t1_1 wX4_valueA) rfl rfl rfl hX4_valueA ⟨Nat.le_of_ble_eq_true rfl, Nat.le_of_ble_eq_true rfl⟩) ⟨kP_blind NW_blind, va_recv hK hP (ci := 2) (q0 := 0) rfl rfl, kP_pre NW_warm hP hK hN⟩ rfl rfl hl.1 rfl (lv_room (Nat.le_of_ble_eq_true rfl)) dX4_load_23 ⟨Nat.zero_le _, Nat.zero_le _⟩) ?_
      refine lv_iload_n hx hb dX4_load_26 rfl (lv_at hl 2 rfl) ?_
      refine k_ri (va_runSN (As := [.int p0]) (rest := [.int (fX4_valueA p0 x)]) ⟨hx, hb, hml, hown, hB⟩ (mX1_numberI l p0) ⟨va_cnB 1 hB (good_in wX1_numberI) rfl rfl rfl (hN _ (List.mem_of_getElem? (i := 6) rfl)) (hB _ q_t1_10) hX1_numberI.2 ⟨Nat.le_of_ble_eq_true rfl, Nat.le_of_ble_eq_true rfl⟩, hB _ q_t2_74, trivial⟩ ⟨fun _ _ _ _ q => q, fun U _ _ => ⟨rfl, trivial⟩⟩ rfl rfl hl.1 rfl (lv_room (Nat.le_of_ble_eq_true rfl)) dX4_load_27 ⟨Nat.zero_le _, Nat.zero_le _⟩) ?_
      refine lv_iadd hx hb dX4_load_30 ?_
      refine lv_istore_n (lv' := [(3, .int ((fX4_valueA p0 x) + (fX1_numberI p0))), (2, .int (fX1_f p0)), (0, .ref aH), (1, .int p0)]) hx hb dX4_load_31 rfl hl (by decide) rfl (fun ls hl => ?_)
      refine lv_iload_n hx hb dX4_load_32 rfl (lv_at hl 0 rfl) ?_
      refine lv_iload_n hx hb dX4_load_33 rfl (lv_at hl 1 rfl) ?_
      refine lv_iconst (v := 3) hx hb dX4_load_34 (by decide) ?_
      refine lv_iand hx hb dX4_load_35 ?_
      refine k_ri (va_runSN (As := [.int ((fX4_valueA p0 x) + (fX1_numberI p0)), .int ((fX1_f p0) &&& (3 : Int32))]) (rest := []) ⟨hx, hb, hml, hown, hB⟩ (mX3_isBy l ((fX4_valueA p0 x) + (fX1_numberI p0)) ((fX1_f p0) &&& (3 : Int32))) ⟨va_cnB 2 hB (good_in wX3_isBy) rfl rfl rfl (hN _ (List.mem_of_getElem? (i := 15) rfl)) (hB _ q_t1_2) hX3_isBy.2 ⟨Nat.le_of_ble_eq_true rfl, Nat.le_of_ble_eq_true rfl⟩, hB _ q_t2_102, trivial⟩ ⟨fun _ _ _ _ q => q, fun U _ _ => ⟨rfl, trivial⟩⟩ rfl rfl hl.1 rfl (lv_room (Nat.le_of_ble_eq_true rfl)) dX4_load_36 ⟨Nat.zero_le _, Nat.zero_le _⟩) ?_
      refine lv_if_ne (tgt := 49) hx hb dX4_load_39 (by decide) (fun c_39 => ?_) (fun c_39 => ?_)
      · refine lv_iload_n hx hb dX4_load_49 rfl (lv_at hl 0 rfl) ?_
        refine k_ri (va_runSN (As := [.int ((fX4_valueA p0 x) + (fX1_numberI p0))]) (rest := []) ⟨hx, hb, hml, hown, hB⟩ (mX3_holds l ((fX4_valueA p0 x) + (fX1_numberI p0))) ⟨va_cnB 1 hB (good_in wX3_holds) rfl rfl rfl (hN _ (List.mem_of_getElem? (i := 16) rfl)) (hB _ q_t1_2) hX3_holds.2 ⟨Nat.le_of_ble_eq_true rfl, Nat.le_of_ble_eq_true rfl⟩, hB _ q_t1_100, trivial⟩ ⟨fun _ _ _ _ q => q, fun U _ _ => ⟨rfl, trivial⟩⟩ rfl rfl hl.1 rfl (lv_room (Nat.le_of_ble_eq_true rfl)) dX4_load_50 ⟨Nat.zero_le _, Nat.zero_le _⟩) ?_
        refine lv_if_ne (tgt := 63) hx hb dX4_load_53 (by decide) (fun c_53 => ?_) (fun c_53 => ?_)
        · refine lv_aload_n hx hb dX4_load_63 rfl (lv_at hl 2 rfl) ?_
          refine lv_iload_n hx hb dX4_load_64 rfl (lv_at hl 3 rfl) ?_
          refine lv_aload_n hx hb dX4_load_65 rfl (lv_at hl 2 rfl) ?_
          refine va_get (D := (dC, dI)) (ci := 2) (v := .ref aM) (C := RX4) (T := TX4) (N := 7) hx hb hB iX4 hown hK hP 0 rfl rfl 0 (by decide) (hB _ q_t1_70) (fun _ h9 => h9) rfl dX4_load_66 ?_
          refine lv_iload_n hx hb dX4_load_69 rfl (lv_at hl 0 rfl) ?_
          refine lv_iload_n hx hb dX4_load_70 rfl (lv_at hl 1 rfl) ?_
          refine k_ri (va_runVN (As := [.int ((fX4_valueA p0 x) + (fX1_numberI p0)), .int (fX1_f p0)]) (rest := [.int p0, .ref aH]) ⟨hx, hb, hml, hown, hB⟩ (mX3_readPart l dC dI aH aM aW aC aR iW iR x ((fX4_valueA p0 x) + (fX1_numberI p0)) (fX1_f p0)) ⟨va_cnB 2 hB (good_in wX3_readPart) rfl rfl rfl (hN _ (List.mem_of_getElem? (i := 17) rfl)) (hB _ q_t1_2) hX3_readPart.2 ⟨Nat.le_of_ble_eq_true rfl, Nat.le_of_ble_eq_true rfl⟩, hB _ q_t2_106, hB _ q_s_23⟩ ⟨kP_blind NW_blind, va_recv hK hP (ci := 1) (q0 := 1) rfl rfl, kP_pre NW_warm hP hK hN⟩ rfl rfl hl.1 rfl (lv_room (Nat.le_of_ble_eq_true rfl)) dX4_load_71 ⟨Nat.zero_le _, Nat.zero_le _⟩) ?_
          refine k_mi (w := wD aH aM aW aC aR iW iR) wD_ad (va_runV (As := [.int p0, .int (fX3_readPart ((fX4_valueA p0 x) + (fX1_numberI p0)) (fX1_f p0) x)]) (rest := []) ⟨hx, hb, hml, hown, hB⟩ (mX4_goOnWith l dC dI aH aM aW aC aR iW iR s.heap.size x p0 (fX3_readPart ((fX4_valueA p0 x) + (fX1_numberI p0)) (fX1_f p0) x)) (cwV 2 hB (gV q_t2_33 q_t2_35 q_s_13 q_t1_1 wX4_goOnWith) rfl rfl rfl hX4_goOnWith ⟨Nat.le_of_ble_eq_true rfl, Nat.le_of_ble_eq_true rfl⟩) ⟨kM_blind NW_blind, va_recv hK hP (ci := 2) (q0 := 0) rfl rfl, kM_pre NW_warm hP hK hD hN⟩ rfl rfl hl.1 rfl (lv_room (Nat.le_of_ble_eq_true rfl)) dX4_load_74 ⟨Nat.zero_le _, Nat.zero_le _⟩) hD hS hA (fun r u H locs hw hP hD hS => ?_)
          obtain ⟨rfl, rfl⟩ := hw
          exact W.zret (v := bi (fX4_goOnWith p0 (fX3_readPart ((fX4_valueA p0 x) + (fX1_numberI p0)) (fX1_f p0) x) x).1) hx hb hr (bi_nar _) (fun t ht hW => ⟨⟨bi (fX4_goOnWith p0 (fX3_readPart ((fX4_valueA p0 x) + (fX1_numberI p0)) (fX1_f p0) x) x).1, ((fX4_goOnWith p0 (fX3_readPart ((fX4_valueA p0 x) + (fX1_numberI p0)) (fX1_f p0) x) x).2), rfl, ⟨(by unfold fX4_load; rw [if_neg c_7, if_pos c_12, if_neg c_39, if_neg c_53] <;> rfl), (by unfold fX4_load; rw [if_neg c_7, if_pos c_12, if_neg c_39, if_neg c_53] <;> rfl)⟩, hpT ht hP⟩, hS.F ht⟩) hS.2.2 dX4_load_77
        · refine lv_aload_n hx hb dX4_load_56 rfl (lv_at hl 2 rfl) ?_
          refine lv_iconst (v := 5) hx hb dX4_load_57 (by decide) ?_
          refine lv_iload_n hx hb dX4_load_58 rfl (lv_at hl 0 rfl) ?_
          refine k_mi (w := wD aH aM aW aC aR iW iR) wD_ad (va_runV (As := [.int (5 : Int32), .int ((fX4_valueA p0 x) + (fX1_numberI p0))]) (rest := []) ⟨hx, hb, hml, hown, hB⟩ (mX4_trap l dC dI aH aM aW aC aR iW iR s.heap.size x (5 : Int32) ((fX4_valueA p0 x) + (fX1_numberI p0))) (cwV 2 hB (gV q_t2_10 q_t2_12 q_s_9 q_t1_1 wX4_trap) rfl rfl rfl hX4_trap ⟨Nat.le_of_ble_eq_true rfl, Nat.le_of_ble_eq_true rfl⟩) ⟨kM_blind NW_blind, va_recv hK hP (ci := 2) (q0 := 0) rfl rfl, kM_pre NW_warm hP hK hD hN⟩ rfl rfl hl.1 rfl (lv_room (Nat.le_of_ble_eq_true rfl)) dX4_load_59 ⟨Nat.zero_le _, Nat.zero_le _⟩) hD hS hA (fun r u H locs hw hP hD hS => ?_)
          obtain ⟨rfl, rfl⟩ := hw
          exact W.zret (v := bi (fX4_trap (5 : Int32) ((fX4_valueA p0 x) + (fX1_numberI p0)) x).1) hx hb hr (bi_nar _) (fun t ht hW => ⟨⟨bi (fX4_trap (5 : Int32) ((fX4_valueA p0 x) + (fX1_numberI p0)) x).1, ((fX4_trap (5 : Int32) ((fX4_valueA p0 x) + (fX1_numberI p0)) x).2), rfl, ⟨(by unfold fX4_load; rw [if_neg c_7, if_pos c_12, if_neg c_39, if_pos c_53] <;> rfl), (by unfold fX4_load; rw [if_neg c_7, if_pos c_12, if_neg c_39, if_pos c_53] <;> rfl)⟩, hpT ht hP⟩, hS.F ht⟩) hS.2.2 dX4_load_62
      · refine lv_aload_n hx hb dX4_load_42 rfl (lv_at hl 2 rfl) ?_
        refine lv_iconst (v := 4) hx hb dX4_load_43 (by decide) ?_
        refine lv_iload_n hx hb dX4_load_44 rfl (lv_at hl 0 rfl) ?_
        refine k_mi (w := wD aH aM aW aC aR iW iR) wD_ad (va_runV (As := [.int (4 : Int32), .int ((fX4_valueA p0 x) + (fX1_numberI p0))]) (rest := []) ⟨hx, hb, hml, hown, hB⟩ (mX4_trap l dC dI aH aM aW aC aR iW iR s.heap.size x (4 : Int32) ((fX4_valueA p0 x) + (fX1_numberI p0))) (cwV 2 hB (gV q_t2_10 q_t2_12 q_s_9 q_t1_1 wX4_trap) rfl rfl rfl hX4_trap ⟨Nat.le_of_ble_eq_true rfl, Nat.le_of_ble_eq_true rfl⟩) ⟨kM_blind NW_blind, va_recv hK hP (ci := 2) (q0 := 0) rfl rfl, kM_pre NW_warm hP hK hD hN⟩ rfl rfl hl.1 rfl (lv_room (Nat.le_of_ble_eq_true rfl)) dX4_load_45 ⟨Nat.zero_le _, Nat.zero_le _⟩) hD hS hA (fun r u H locs hw hP hD hS => ?_)
        obtain ⟨rfl, rfl⟩ := hw
        exact W.zret (v := bi (fX4_trap (4 : Int32) ((fX4_valueA p0 x) + (fX1_numberI p0)) x).1) hx hb hr (bi_nar _) (fun t ht hW => ⟨⟨bi (fX4_trap (4 : Int32) ((fX4_valueA p0 x) + (fX1_numberI p0)) x).1, ((fX4_trap (4 : Int32) ((fX4_valueA p0 x) + (fX1_numberI p0)) x).2), rfl, ⟨(by unfold fX4_load; rw [if_neg c_7, if_pos c_12, if_pos c_39] <;> rfl), (by unfold fX4_load; rw [if_neg c_7, if_pos c_12, if_pos c_39] <;> rfl)⟩, hpT ht hP⟩, hS.F ht⟩) hS.2.2 dX4_load_48
    · refine lv_aload_n hx hb dX4_load_15 rfl (lv_at hl 1 rfl) ?_
      refine lv_iload_n hx hb dX4_load_16 rfl (lv_at hl 2 rfl) ?_
      refine k_mi (w := wD aH aM aW aC aR iW iR) wD_ad (va_runV (As := [.int p0]) (rest := []) ⟨hx, hb, hml, hown, hB⟩ (mX4_unknown l dC dI aH aM aW aC aR iW iR s.heap.size x p0) (cwV 1 hB (gV q_t2_58 q_t2_60 q_s_17 q_t1_1 wX4_unknown) rfl rfl rfl hX4_unknown ⟨Nat.le_of_ble_eq_true rfl, Nat.le_of_ble_eq_true rfl⟩) ⟨kM_blind NW_blind, va_recv hK hP (ci := 2) (q0 := 0) rfl rfl, kM_pre NW_warm hP hK hD hN⟩ rfl rfl hl.1 rfl (lv_room (Nat.le_of_ble_eq_true rfl)) dX4_load_17 ⟨Nat.zero_le _, Nat.zero_le _⟩) hD hS hA (fun r u H locs hw hP hD hS => ?_)
      obtain ⟨rfl, rfl⟩ := hw
      exact W.zret (v := bi (fX4_unknown p0 x).1) hx hb hr (bi_nar _) (fun t ht hW => ⟨⟨bi (fX4_unknown p0 x).1, ((fX4_unknown p0 x).2), rfl, ⟨(by unfold fX4_load; rw [if_neg c_7, if_neg c_12] <;> rfl), (by unfold fX4_load; rw [if_neg c_7, if_neg c_12] <;> rfl)⟩, hpT ht hP⟩, hS.F ht⟩) hS.2.2 dX4_load_20
def fX4_store (p0 : Int32) (x : St) : Bool × St := if (fX1_f p0) ≤ (2 : Int32) then
    if (bi (fX3_isBy ((fX4_valueA p0 x) + (fX1_numberS p0)) (fX1_f p0))) = 0 then
      ((fX4_trap (6 : Int32) ((fX4_valueA p0 x) + (fX1_numberS p0)) x).1, (fX4_trap (6 : Int32) ((fX4_valueA p0 x) + (fX1_numberS p0)) x).2)
    else
      if (bi (fX3_holds ((fX4_valueA p0 x) + (fX1_numberS p0)))) = 0 then
        ((fX4_trap (7 : Int32) ((fX4_valueA p0 x) + (fX1_numberS p0)) x).1, (fX4_trap (7 : Int32) ((fX4_valueA p0 x) + (fX1_numberS p0)) x).2)
      else
        ((fX4_goOn (fX3_writePart ((fX4_valueA p0 x) + (fX1_numberS p0)) (fX1_f p0) (fX4_valueB p0 x) x)).1, (fX4_goOn (fX3_writePart ((fX4_valueA p0 x) + (fX1_numberS p0)) (fX1_f p0) (fX4_valueB p0 x) x)).2)
  else
    ((fX4_unknown p0 x).1, (fX4_unknown p0 x).2)
set_option maxHeartbeats 4000000 in
set_option maxRecDepth 100000 in
theorem mX4_store (l : Launch) (dC : Nat → ClassId) (dI : Nat → Nat → Nat) (aH aM aW aC aR iW iR : Nat) (sz : Nat) (x : St) (p0 : Int32) : Met l yX4_store wsX4_store ({ frames := 3, cells := 0, slots := 0, locals := 66 }) (va_Pc [.ref aH, .int p0] (kM (dC, dI) [(iW, .int), (iR, .int)] NW (wD aH aM aW aC aR iW iR x) sz)) (va_Qi (fun r u => r = bi (fX4_store p0 x).1 ∧ u = (fX4_store p0 x).2) (fun u t => va_P (dC, dI) vwCl (wD aH aM aW aC aR iW iR u) t.heap) (va_A (wD aH aM aW aC aR iW iR x) sz)) 0 0 (va_A (wD aH aM aW aC aR iW iR x) sz) := by
  refine Met.ofW (cc := cX4_store) (maxL := 4) (ret := (some .boolean)) (by decide) rfl ?_
  intro p e s m args below meth c s₁ B hml hv
  obtain ⟨rfl, hsz, hD0, hP, hK, hN⟩ := hv
  have hx := B.exec
  have hb := B.bytes
  have hr := B.returns
  have hB := fun (w : Cond) (h : w ∈ BIG) => atoms_spec (ws := wsX4_store) B.pre w (List.mem_cons_of_mem _ h)
  have hown : s.vm.findClass RX4 = some m.cls := findClass_of_methodNamed B.named
  have hlocks := B.notSynchronized
  subst hsz
  have hD := hD0.self (sz := s.heap.size)
  generalize hAe : va_A (wD aH aM aW aC aR iW iR x) s.heap.size = A at hD ⊢
  have hA : ∀ q : Nat, s.heap.size ≤ q → A q := fun q h => by rw [← hAe]; exact Or.inr h
  have hS : va_S A s.heap s.heap [] := va_S.rf
  have hl := lv_entry ([.ref aH, .int p0]) (n := 4) (Nat.le_of_ble_eq_true rfl)
  rw [lg_entry_eq]
  generalize (lg_sl ([.ref aH, .int p0]) ++ List.replicate (4 - (lg_sl ([.ref aH, .int p0])).length) Slot.unset).toArray = ls at hl ⊢
  have hl : lv_has ls 4 [(0, .ref aH), (1, .int p0)] := hl
  refine lv_iload_n hx hb dX4_store_0 rfl (lv_at hl 1 rfl) ?_
  refine k_ri (va_runSN (As := [.int p0]) (rest := []) ⟨hx, hb, hml, hown, hB⟩ (mX1_f l p0) ⟨va_cnB 1 hB (good_in wX1_f) rfl rfl rfl (hN _ (List.mem_of_getElem? (i := 5) rfl)) (hB _ q_t1_10) hX1_f.2 ⟨Nat.le_of_ble_eq_true rfl, Nat.le_of_ble_eq_true rfl⟩, hB _ q_t2_56, trivial⟩ ⟨fun _ _ _ _ q => q, fun U _ _ => ⟨rfl, trivial⟩⟩ rfl rfl hl.1 rfl (lv_room (Nat.le_of_ble_eq_true rfl)) dX4_store_1 ⟨Nat.zero_le _, Nat.zero_le _⟩) ?_
  refine lv_istore_n (lv' := [(2, .int (fX1_f p0)), (0, .ref aH), (1, .int p0)]) hx hb dX4_store_4 rfl hl (by decide) rfl (fun ls hl => ?_)
  refine lv_iload_n hx hb dX4_store_5 rfl (lv_at hl 0 rfl) ?_
  refine lv_iconst (v := 2) hx hb dX4_store_6 (by decide) ?_
  refine lv_icmp_le (tgt := 16) hx hb dX4_store_7 (by decide) (fun c_7 => ?_) (fun c_7 => ?_)
  · refine lv_aload_n hx hb dX4_store_16 rfl (lv_at hl 1 rfl) ?_
    refine lv_iload_n hx hb dX4_store_17 rfl (lv_at hl 2 rfl) ?_
    refine k_ri (va_runV (As := [.int p0]) (rest := []) ⟨hx, hb, hml, hown, hB⟩ (mX4_valueA l dC dI aH aM aW aC aR iW iR x p0) (cwV 1 hB (gV q_t2_62 q_t2_64 q_s_18 q_t1_1 wX4_valueA) rfl rfl rfl hX4_valueA ⟨Nat.le_of_ble_eq_true rfl, Nat.le_of_ble_eq_true rfl⟩) ⟨kP_blind NW_blind, va_recv hK hP (ci := 2) (q0 := 0) rfl rfl, kP_pre NW_warm hP hK hN⟩ rfl rfl hl.1 rfl (lv_room (Nat.le_of_ble_eq_true rfl)) dX4_store_18 ⟨Nat.zero_le _, Nat.zero_le _⟩) ?_
    refine lv_iload_n hx hb dX4_store_21 rfl (lv_at hl 2 rfl) ?_
    refine k_ri (va_runSN (As := [.int p0]) (rest := [.int (fX4_valueA p0 x)]) ⟨hx, hb, hml, hown, hB⟩ (mX1_numberS l p0) ⟨va_cnB 1 hB (good_in wX1_numberS) rfl rfl rfl (hN _ (List.mem_of_getElem? (i := 18) rfl)) (hB _ q_t1_10) hX1_numberS.2 ⟨Nat.le_of_ble_eq_true rfl, Nat.le_of_ble_eq_true rfl⟩, hB _ q_t2_118, trivial⟩ ⟨fun _ _ _ _ q => q, fun U _ _ => ⟨rfl, trivial⟩⟩ rfl rfl hl.1 rfl (lv_room (Nat.le_of_ble_eq_true rfl)) dX4_store_22 ⟨Nat.zero_le _, Nat.zero_le _⟩) ?_
    refine lv_iadd hx hb dX4_store_25 ?_
    refine lv_istore_n (lv' := [(3, .int ((fX4_valueA p0 x) + (fX1_numberS p0))), (2, .int (fX1_f p0)), (0, .ref aH), (1, .int p0)]) hx hb dX4_store_26 rfl hl (by decide) rfl (fun ls hl => ?_)
    refine lv_iload_n hx hb dX4_store_27 rfl (lv_at hl 0 rfl) ?_
    refine lv_iload_n hx hb dX4_store_28 rfl (lv_at hl 1 rfl) ?_
    refine k_ri (va_runSN (As := [.int ((fX4_valueA p0 x) + (fX1_numberS p0)), .int (fX1_f p0)]) (rest := []) ⟨hx, hb, hml, hown, hB⟩ (mX3_isBy l ((fX4_valueA p0 x) + (fX1_numberS p0)) (fX1_f p0)) ⟨va_cnB 2 hB (good_in wX3_isBy) rfl rfl rfl (hN _ (List.mem_of_getElem? (i := 15) rfl)) (hB _ q_t1_2) hX3_isBy.2 ⟨Nat.le_of_ble_eq_true rfl, Nat.le_of_ble_eq_true rfl⟩, hB _ q_t2_102, trivial⟩ ⟨fun _ _ _ _ q => q, fun U _ _ => ⟨rfl, trivial⟩⟩ rfl rfl hl.1 rfl (lv_room (Nat.le_of_ble_eq_true rfl)) dX4_store_29 ⟨Nat.zero_le _, Nat.zero_le _⟩) ?_
    refine lv_if_ne (tgt := 43) hx hb dX4_store_32 (by decide) (fun c_32 => ?_) (fun c_32 => ?_)
    · refine lv_iload_n hx hb dX4_store_43 rfl (lv_at hl 0 rfl) ?_
      refine k_ri (va_runSN (As := [.int ((fX4_valueA p0 x) + (fX1_numberS p0))]) (rest := []) ⟨hx, hb, hml, hown, hB⟩ (mX3_holds l ((fX4_valueA p0 x) + (fX1_numberS p0))) ⟨va_cnB 1 hB (good_in wX3_holds) rfl rfl rfl (hN _ (List.mem_of_getElem? (i := 16) rfl)) (hB _ q_t1_2) hX3_holds.2 ⟨Nat.le_of_ble_eq_true rfl, Nat.le_of_ble_eq_true rfl⟩, hB _ q_t1_100, trivial⟩ ⟨fun _ _ _ _ q => q, fun U _ _ => ⟨rfl, trivial⟩⟩ rfl rfl hl.1 rfl (lv_room (Nat.le_of_ble_eq_true rfl)) dX4_store_44 ⟨Nat.zero_le _, Nat.zero_le _⟩) ?_
      refine lv_if_ne (tgt := 58) hx hb dX4_store_47 (by decide) (fun c_47 => ?_) (fun c_47 => ?_)
      · refine lv_aload_n hx hb dX4_store_58 rfl (lv_at hl 2 rfl) ?_
        refine va_get (D := (dC, dI)) (ci := 2) (v := .ref aM) (C := RX4) (T := TX4) (N := 7) hx hb hB iX4 hown hK hP 0 rfl rfl 0 (by decide) (hB _ q_t1_70) (fun _ h9 => h9) rfl dX4_store_59 ?_
        refine lv_iload_n hx hb dX4_store_62 rfl (lv_at hl 0 rfl) ?_
        refine lv_iload_n hx hb dX4_store_63 rfl (lv_at hl 1 rfl) ?_
        refine lv_aload_n hx hb dX4_store_64 rfl (lv_at hl 2 rfl) ?_
        refine lv_iload_n hx hb dX4_store_65 rfl (lv_at hl 3 rfl) ?_
        refine k_ri (va_runV (As := [.int p0]) (rest := [.int (fX1_f p0), .int ((fX4_valueA p0 x) + (fX1_numberS p0)), .ref aM]) ⟨hx, hb, hml, hown, hB⟩ (mX4_valueB l dC dI aH aM aW aC aR iW iR x p0) (cwV 1 hB (gV q_t2_80 q_t2_82 q_s_21 q_t1_1 wX4_valueB) rfl rfl rfl hX4_valueB ⟨Nat.le_of_ble_eq_true rfl, Nat.le_of_ble_eq_true rfl⟩) ⟨kP_blind NW_blind, va_recv hK hP (ci := 2) (q0 := 0) rfl rfl, kP_pre NW_warm hP hK hN⟩ rfl rfl hl.1 rfl (lv_room (Nat.le_of_ble_eq_true rfl)) dX4_store_66 ⟨Nat.zero_le _, Nat.zero_le _⟩) ?_
        refine k_mv (w := wD aH aM aW aC aR iW iR) wD_ad (va_runVN (As := [.int ((fX4_valueA p0 x) + (fX1_numberS p0)), .int (fX1_f p0), .int (fX4_valueB p0 x)]) (rest := []) ⟨hx, hb, hml, hown, hB⟩ (mX3_writePart l dC dI aH aM aW aC aR iW iR s.heap.size x ((fX4_valueA p0 x) + (fX1_numberS p0)) (fX1_f p0) (fX4_valueB p0 x)) ⟨va_cnB 3 hB (good_in wX3_writePart) rfl rfl rfl (hN _ (List.mem_of_getElem? (i := 19) rfl)) (hB _ q_t1_2) hX3_writePart.2 ⟨Nat.le_of_ble_eq_true rfl, Nat.le_of_ble_eq_true rfl⟩, hB _ q_t2_123, hB _ q_s_25⟩ ⟨kM_blind NW_blind, va_recv hK hP (ci := 1) (q0 := 1) rfl rfl, kM_pre NW_warm hP hK hD hN⟩ rfl rfl hl.1 rfl (lv_room (Nat.le_of_ble_eq_true rfl)) dX4_store_69 ⟨Nat.zero_le _, Nat.zero_le _⟩) hD hS hA (fun u H locs hw hP hD hS => ?_)
        obtain rfl := hw
        refine lv_aload_n hx hb dX4_store_72 rfl (lv_at hl 2 rfl) ?_
        refine k_mi (w := wD aH aM aW aC aR iW iR) wD_ad (va_runV (As := []) (rest := []) ⟨hx, hb, hml, hown, hB⟩ (mX4_goOn l dC dI aH aM aW aC aR iW iR H.size (fX3_writePart ((fX4_valueA p0 x) + (fX1_numberS p0)) (fX1_f p0) (fX4_valueB p0 x) x)) (cwV 0 hB (gV q_t2_40 q_t2_42 q_s_14 q_t1_1 wX4_goOn) rfl rfl rfl hX4_goOn ⟨Nat.le_of_ble_eq_true rfl, Nat.le_of_ble_eq_true rfl⟩) ⟨kM_blind NW_blind, va_recv hK hP (ci := 2) (q0 := 0) rfl rfl, kM_pre NW_warm hP hK hD hN⟩ rfl rfl hl.1 rfl (lv_room (Nat.le_of_ble_eq_true rfl)) dX4_store_73 ⟨Nat.zero_le _, Nat.zero_le _⟩) hD hS hA (fun r u H locs hw hP hD hS => ?_)
        obtain ⟨rfl, rfl⟩ := hw
        exact W.zret (v := bi (fX4_goOn (fX3_writePart ((fX4_valueA p0 x) + (fX1_numberS p0)) (fX1_f p0) (fX4_valueB p0 x) x)).1) hx hb hr (bi_nar _) (fun t ht hW => ⟨⟨bi (fX4_goOn (fX3_writePart ((fX4_valueA p0 x) + (fX1_numberS p0)) (fX1_f p0) (fX4_valueB p0 x) x)).1, ((fX4_goOn (fX3_writePart ((fX4_valueA p0 x) + (fX1_numberS p0)) (fX1_f p0) (fX4_valueB p0 x) x)).2), rfl, ⟨(by unfold fX4_store; rw [if_pos c_7, if_neg c_32, if_neg c_47] <;> rfl), (by unfold fX4_store; rw [if_pos c_7, if_neg c_32, if_neg c_47] <;> rfl)⟩, hpT ht hP⟩, hS.F ht⟩) hS.2.2 dX4_store_76
      · refine lv_aload_n hx hb dX4_store_50 rfl (lv_at hl 2 rfl) ?_
        refine lv_bipush (v := 7) hx hb dX4_store_51 (by decide) ?_
        refine lv_iload_n hx hb dX4_store_53 rfl (lv_at hl 0 rfl) ?_
        refine k_mi (w := wD aH aM aW aC aR iW iR) wD_ad (va_runV (As := [.int (7 : Int32), .int ((fX4_valueA p0 x) + (fX1_numberS p0))]) (rest := []) ⟨hx, hb, hml, hown, hB⟩ (mX4_trap l dC dI aH aM aW aC aR iW iR s.heap.size x (7 : Int32) ((fX4_valueA p0 x) + (fX1_numberS p0))) (cwV 2 hB (gV q_t2_10 q_t2_12 q_s_9 q_t1_1 wX4_trap) rfl rfl rfl hX4_trap ⟨Nat.le_of_ble_eq_true rfl, Nat.le_of_ble_eq_true rfl⟩) ⟨kM_blind NW_blind, va_recv hK hP (ci := 2) (q0 := 0) rfl rfl, kM_pre NW_warm hP hK hD hN⟩ rfl rfl hl.1 rfl (lv_room (Nat.le_of_ble_eq_true rfl)) dX4_store_54 ⟨Nat.zero_le _, Nat.zero_le _⟩) hD hS hA (fun r u H locs hw hP hD hS => ?_)
        obtain ⟨rfl, rfl⟩ := hw
        exact W.zret (v := bi (fX4_trap (7 : Int32) ((fX4_valueA p0 x) + (fX1_numberS p0)) x).1) hx hb hr (bi_nar _) (fun t ht hW => ⟨⟨bi (fX4_trap (7 : Int32) ((fX4_valueA p0 x) + (fX1_numberS p0)) x).1, ((fX4_trap (7 : Int32) ((fX4_valueA p0 x) + (fX1_numberS p0)) x).2), rfl, ⟨(by unfold fX4_store; rw [if_pos c_7, if_neg c_32, if_pos c_47] <;> rfl), (by unfold fX4_store; rw [if_pos c_7, if_neg c_32, if_pos c_47] <;> rfl)⟩, hpT ht hP⟩, hS.F ht⟩) hS.2.2 dX4_store_57
    · refine lv_aload_n hx hb dX4_store_35 rfl (lv_at hl 2 rfl) ?_
      refine lv_bipush (v := 6) hx hb dX4_store_36 (by decide) ?_
      refine lv_iload_n hx hb dX4_store_38 rfl (lv_at hl 0 rfl) ?_
      refine k_mi (w := wD aH aM aW aC aR iW iR) wD_ad (va_runV (As := [.int (6 : Int32), .int ((fX4_valueA p0 x) + (fX1_numberS p0))]) (rest := []) ⟨hx, hb, hml, hown, hB⟩ (mX4_trap l dC dI aH aM aW aC aR iW iR s.heap.size x (6 : Int32) ((fX4_valueA p0 x) + (fX1_numberS p0))) (cwV 2 hB (gV q_t2_10 q_t2_12 q_s_9 q_t1_1 wX4_trap) rfl rfl rfl hX4_trap ⟨Nat.le_of_ble_eq_true rfl, Nat.le_of_ble_eq_true rfl⟩) ⟨kM_blind NW_blind, va_recv hK hP (ci := 2) (q0 := 0) rfl rfl, kM_pre NW_warm hP hK hD hN⟩ rfl rfl hl.1 rfl (lv_room (Nat.le_of_ble_eq_true rfl)) dX4_store_39 ⟨Nat.zero_le _, Nat.zero_le _⟩) hD hS hA (fun r u H locs hw hP hD hS => ?_)
      obtain ⟨rfl, rfl⟩ := hw
      exact W.zret (v := bi (fX4_trap (6 : Int32) ((fX4_valueA p0 x) + (fX1_numberS p0)) x).1) hx hb hr (bi_nar _) (fun t ht hW => ⟨⟨bi (fX4_trap (6 : Int32) ((fX4_valueA p0 x) + (fX1_numberS p0)) x).1, ((fX4_trap (6 : Int32) ((fX4_valueA p0 x) + (fX1_numberS p0)) x).2), rfl, ⟨(by unfold fX4_store; rw [if_pos c_7, if_pos c_32] <;> rfl), (by unfold fX4_store; rw [if_pos c_7, if_pos c_32] <;> rfl)⟩, hpT ht hP⟩, hS.F ht⟩) hS.2.2 dX4_store_42
  · refine lv_aload_n hx hb dX4_store_10 rfl (lv_at hl 1 rfl) ?_
    refine lv_iload_n hx hb dX4_store_11 rfl (lv_at hl 2 rfl) ?_
    refine k_mi (w := wD aH aM aW aC aR iW iR) wD_ad (va_runV (As := [.int p0]) (rest := []) ⟨hx, hb, hml, hown, hB⟩ (mX4_unknown l dC dI aH aM aW aC aR iW iR s.heap.size x p0) (cwV 1 hB (gV q_t2_58 q_t2_60 q_s_17 q_t1_1 wX4_unknown) rfl rfl rfl hX4_unknown ⟨Nat.le_of_ble_eq_true rfl, Nat.le_of_ble_eq_true rfl⟩) ⟨kM_blind NW_blind, va_recv hK hP (ci := 2) (q0 := 0) rfl rfl, kM_pre NW_warm hP hK hD hN⟩ rfl rfl hl.1 rfl (lv_room (Nat.le_of_ble_eq_true rfl)) dX4_store_12 ⟨Nat.zero_le _, Nat.zero_le _⟩) hD hS hA (fun r u H locs hw hP hD hS => ?_)
    obtain ⟨rfl, rfl⟩ := hw
    exact W.zret (v := bi (fX4_unknown p0 x).1) hx hb hr (bi_nar _) (fun t ht hW => ⟨⟨bi (fX4_unknown p0 x).1, ((fX4_unknown p0 x).2), rfl, ⟨(by unfold fX4_store; rw [if_neg c_7] <;> rfl), (by unfold fX4_store; rw [if_neg c_7] <;> rfl)⟩, hpT ht hP⟩, hS.F ht⟩) hS.2.2 dX4_store_15
def fX4_callSystem (p0 : Int32) (x : St) : Bool × St := if p0 = (115 : Int32) then
    ((fX4_trap (11 : Int32) (0 : Int32) x).1, (fX4_trap (11 : Int32) (0 : Int32) x).2)
  else
    if p0 = (1048691 : Int32) then
      ((fX4_trap (3 : Int32) (g_pc x) x).1, (fX4_trap (3 : Int32) (g_pc x) x).2)
    else
      if p0 = (807403635 : Int32) then
        (true, s_pc ((fX2_leaveTrap x).2) ((fX2_leaveTrap x).1))
      else
        ((fX4_unknown p0 x).1, (fX4_unknown p0 x).2)
set_option maxHeartbeats 4000000 in
set_option maxRecDepth 100000 in
theorem mX4_callSystem (l : Launch) (dC : Nat → ClassId) (dI : Nat → Nat → Nat) (aH aM aW aC aR iW iR : Nat) (sz : Nat) (x : St) (p0 : Int32) : Met l yX4_callSystem wsX4_callSystem ({ frames := 3, cells := 0, slots := 0, locals := 66 }) (va_Pc [.ref aH, .int p0] (kM (dC, dI) [(iW, .int), (iR, .int)] NW (wD aH aM aW aC aR iW iR x) sz)) (va_Qi (fun r u => r = bi (fX4_callSystem p0 x).1 ∧ u = (fX4_callSystem p0 x).2) (fun u t => va_P (dC, dI) vwCl (wD aH aM aW aC aR iW iR u) t.heap) (va_A (wD aH aM aW aC aR iW iR x) sz)) 0 0 (va_A (wD aH aM aW aC aR iW iR x) sz) := by
  refine Met.ofW (cc := cX4_callSystem) (maxL := 2) (ret := (some .boolean)) (by decide) rfl ?_
  intro p e s m args below meth c s₁ B hml hv
  obtain ⟨rfl, hsz, hD0, hP, hK, hN⟩ := hv
  have hx := B.exec
  have hb := B.bytes
  have hr := B.returns
  have hB := fun (w : Cond) (h : w ∈ BIG) => atoms_spec (ws := wsX4_callSystem) B.pre w (List.mem_cons_of_mem _ h)
  have hown : s.vm.findClass RX4 = some m.cls := findClass_of_methodNamed B.named
  have hlocks := B.notSynchronized
  subst hsz
  have hD := hD0.self (sz := s.heap.size)
  generalize hAe : va_A (wD aH aM aW aC aR iW iR x) s.heap.size = A at hD ⊢
  have hA : ∀ q : Nat, s.heap.size ≤ q → A q := fun q h => by rw [← hAe]; exact Or.inr h
  have hS : va_S A s.heap s.heap [] := va_S.rf
  have hl := lv_entry ([.ref aH, .int p0]) (n := 2) (Nat.le_of_ble_eq_true rfl)
  rw [lg_entry_eq]
  generalize (lg_sl ([.ref aH, .int p0]) ++ List.replicate (2 - (lg_sl ([.ref aH, .int p0])).length) Slot.unset).toArray = ls at hl ⊢
  have hl : lv_has ls 2 [(0, .ref aH), (1, .int p0)] := hl
  refine lv_iload_n hx hb dX4_callSystem_0 rfl (lv_at hl 1 rfl) ?_
  by_cases c_1_115 : p0 = (115 : Int32)
  · refine lv_lookup (off := 35) (tgt := 36) hx hb dX4_callSystem_1 (by decide) (by rw [c_1_115]; decide) (by decide) ?_
    refine lv_aload_n hx hb dX4_callSystem_36 rfl (lv_at hl 0 rfl) ?_
    refine lv_bipush (v := 11) hx hb dX4_callSystem_37 (by decide) ?_
    refine lv_iconst (v := 0) hx hb dX4_callSystem_39 (by decide) ?_
    refine k_mi (w := wD aH aM aW aC aR iW iR) wD_ad (va_runV (As := [.int (11 : Int32), .int (0 : Int32)]) (rest := []) ⟨hx, hb, hml, hown, hB⟩ (mX4_trap l dC dI aH aM aW aC aR iW iR s.heap.size x (11 : Int32) (0 : Int32)) (cwV 2 hB (gV q_t2_10 q_t2_12 q_s_9 q_t1_1 wX4_trap) rfl rfl rfl hX4_trap ⟨Nat.le_of_ble_eq_true rfl, Nat.le_of_ble_eq_true rfl⟩) ⟨kM_blind NW_blind, va_recv hK hP (ci := 2) (q0 := 0) rfl rfl, kM_pre NW_warm hP hK hD hN⟩ rfl rfl hl.1 rfl (lv_room (Nat.le_of_ble_eq_true rfl)) dX4_callSystem_40 ⟨Nat.zero_le _, Nat.zero_le _⟩) hD hS hA (fun r u H locs hw hP hD hS => ?_)
    obtain ⟨rfl, rfl⟩ := hw
    exact W.zret (v := bi (fX4_trap (11 : Int32) (0 : Int32) x).1) hx hb hr (bi_nar _) (fun t ht hW => ⟨⟨bi (fX4_trap (11 : Int32) (0 : Int32) x).1, ((fX4_trap (11 : Int32) (0 : Int32) x).2), rfl, ⟨(by unfold fX4_callSystem; rw [if_pos c_1_115] <;> rfl), (by unfold fX4_callSystem; rw [if_pos c_1_115] <;> rfl)⟩, hpT ht hP⟩, hS.F ht⟩) hS.2.2 dX4_callSystem_43
  by_cases c_1_1048691 : p0 = (1048691 : Int32)
  · refine lv_lookup (off := 43) (tgt := 44) hx hb dX4_callSystem_1 (by decide) (by rw [c_1_1048691]; decide) (by decide) ?_
    refine lv_aload_n hx hb dX4_callSystem_44 rfl (lv_at hl 0 rfl) ?_
    refine lv_iconst (v := 3) hx hb dX4_callSystem_45 (by decide) ?_
    refine lv_aload_n hx hb dX4_callSystem_46 rfl (lv_at hl 0 rfl) ?_
    refine va_get (D := (dC, dI)) (ci := 2) (v := .int (g_pc x)) (C := RX4) (T := TX4) (N := 7) hx hb hB iX4 hown hK hP 0 rfl rfl 3 (by decide) (hB _ q_t1_73) (fun _ h9 => h9) rfl dX4_callSystem_47 ?_
    refine k_mi (w := wD aH aM aW aC aR iW iR) wD_ad (va_runV (As := [.int (3 : Int32), .int (g_pc x)]) (rest := []) ⟨hx, hb, hml, hown, hB⟩ (mX4_trap l dC dI aH aM aW aC aR iW iR s.heap.size x (3 : Int32) (g_pc x)) (cwV 2 hB (gV q_t2_10 q_t2_12 q_s_9 q_t1_1 wX4_trap) rfl rfl rfl hX4_trap ⟨Nat.le_of_ble_eq_true rfl, Nat.le_of_ble_eq_true rfl⟩) ⟨kM_blind NW_blind, va_recv hK hP (ci := 2) (q0 := 0) rfl rfl, kM_pre NW_warm hP hK hD hN⟩ rfl rfl hl.1 rfl (lv_room (Nat.le_of_ble_eq_true rfl)) dX4_callSystem_50 ⟨Nat.zero_le _, Nat.zero_le _⟩) hD hS hA (fun r u H locs hw hP hD hS => ?_)
    obtain ⟨rfl, rfl⟩ := hw
    exact W.zret (v := bi (fX4_trap (3 : Int32) (g_pc x) x).1) hx hb hr (bi_nar _) (fun t ht hW => ⟨⟨bi (fX4_trap (3 : Int32) (g_pc x) x).1, ((fX4_trap (3 : Int32) (g_pc x) x).2), rfl, ⟨(by unfold fX4_callSystem; rw [if_neg c_1_115, if_pos c_1_1048691] <;> rfl), (by unfold fX4_callSystem; rw [if_neg c_1_115, if_pos c_1_1048691] <;> rfl)⟩, hpT ht hP⟩, hS.F ht⟩) hS.2.2 dX4_callSystem_53
  by_cases c_1_807403635 : p0 = (807403635 : Int32)
  · refine lv_lookup (off := 53) (tgt := 54) hx hb dX4_callSystem_1 (by decide) (by rw [c_1_807403635]; decide) (by decide) ?_
    refine lv_aload_n hx hb dX4_callSystem_54 rfl (lv_at hl 0 rfl) ?_
    refine lv_aload_n hx hb dX4_callSystem_55 rfl (lv_at hl 0 rfl) ?_
    refine va_get (D := (dC, dI)) (ci := 2) (v := .ref aC) (C := RX4) (T := TX4) (N := 7) hx hb hB iX4 hown hK hP 0 rfl rfl 1 (by decide) (hB _ q_t1_71) (fun _ h9 => h9) rfl dX4_callSystem_56 ?_
    refine k_mi (w := wD aH aM aW aC aR iW iR) wD_ad (va_runVN (As := []) (rest := [.ref aH]) ⟨hx, hb, hml, hown, hB⟩ (mX2_leaveTrap l dC dI aH aM aW aC aR iW iR s.heap.size x) ⟨va_cnB 0 hB (good_in wX2_leaveTrap) rfl rfl rfl (hN _ (List.mem_of_getElem? (i := 20) rfl)) (hB _ q_t1_3) hX2_leaveTrap.2 ⟨Nat.le_of_ble_eq_true rfl, Nat.le_of_ble_eq_true rfl⟩, hB _ q_t2_158, hB _ q_s_29⟩ ⟨kM_blind NW_blind, va_recv hK hP (ci := 0) (q0 := 3) rfl rfl, kM_pre NW_warm hP hK hD hN⟩ rfl rfl hl.1 rfl (lv_room (Nat.le_of_ble_eq_true rfl)) dX4_callSystem_59 ⟨Nat.zero_le _, Nat.zero_le _⟩) hD hS hA (fun r u H locs hw hP hD hS => ?_)
    obtain ⟨rfl, rfl⟩ := hw
    refine va_put (D := (dC, dI)) (ci := 2) (v := .int ((fX2_leaveTrap x).1)) (ty := .int) (C := RX4) (T := TX4) (N := 7) hx hb hB iX4 tyX4 tyX4_ok nmX4 hown hK hP hD hS 0 rfl rfl 3 (by decide) (hB _ q_t1_73) (fun _ h9 => h9) rfl (by decide +kernel) rfl rfl (Nat.le_of_ble_eq_true rfl) dX4_callSystem_62 (fun H locs hP hD hS => ?_)
    have hP : va_P (dC, dI) vwCl (wD aH aM aW aC aR iW iR (s_pc ((fX2_leaveTrap x).2) ((fX2_leaveTrap x).1))) H := hP
    have hD : va_D A (wD aH aM aW aC aR iW iR (s_pc ((fX2_leaveTrap x).2) ((fX2_leaveTrap x).1))) := hD
    refine lv_iconst (v := 1) hx hb dX4_callSystem_65 (by decide) ?_
    exact W.zret (v := (1 : Int32)) hx hb hr rfl (fun t ht hW => ⟨⟨(1 : Int32), (s_pc ((fX2_leaveTrap x).2) ((fX2_leaveTrap x).1)), rfl, ⟨(by unfold fX4_callSystem; rw [if_neg c_1_115, if_neg c_1_1048691, if_pos c_1_807403635] <;> rfl), (by unfold fX4_callSystem; rw [if_neg c_1_115, if_neg c_1_1048691, if_pos c_1_807403635] <;> rfl)⟩, hpT ht hP⟩, hS.F ht⟩) hS.2.2 dX4_callSystem_66
  refine lv_lookup (off := 66) (tgt := 67) hx hb dX4_callSystem_1 (by decide) ((lv_osw c_1_115 (by decide)).trans ((lv_osw c_1_1048691 (by decide)).trans ((lv_osw c_1_807403635 (by decide)).trans rfl))) (by decide) ?_
  refine lv_aload_n hx hb dX4_callSystem_67 rfl (lv_at hl 0 rfl) ?_
  refine lv_iload_n hx hb dX4_callSystem_68 rfl (lv_at hl 1 rfl) ?_
  refine k_mi (w := wD aH aM aW aC aR iW iR) wD_ad (va_runV (As := [.int p0]) (rest := []) ⟨hx, hb, hml, hown, hB⟩ (mX4_unknown l dC dI aH aM aW aC aR iW iR s.heap.size x p0) (cwV 1 hB (gV q_t2_58 q_t2_60 q_s_17 q_t1_1 wX4_unknown) rfl rfl rfl hX4_unknown ⟨Nat.le_of_ble_eq_true rfl, Nat.le_of_ble_eq_true rfl⟩) ⟨kM_blind NW_blind, va_recv hK hP (ci := 2) (q0 := 0) rfl rfl, kM_pre NW_warm hP hK hD hN⟩ rfl rfl hl.1 rfl (lv_room (Nat.le_of_ble_eq_true rfl)) dX4_callSystem_69 ⟨Nat.zero_le _, Nat.zero_le _⟩) hD hS hA (fun r u H locs hw hP hD hS => ?_)
  obtain ⟨rfl, rfl⟩ := hw
  exact W.zret (v := bi (fX4_unknown p0 x).1) hx hb hr (bi_nar _) (fun t ht hW => ⟨⟨bi (fX4_unknown p0 x).1, ((fX4_unknown p0 x).2), rfl, ⟨(by unfold fX4_callSystem; rw [if_neg c_1_115, if_neg c_1_1048691, if_neg c_1_807403635] <;> rfl), (by unfold fX4_callSystem; rw [if_neg c_1_115, if_neg c_1_1048691, if_neg c_1_807403635] <;> rfl)⟩, hpT ht hP⟩, hS.F ht⟩) hS.2.2 dX4_callSystem_72
end
section
def fX4_computeWithNumber (p0 : Int32) (x : St) : Bool × St := if (fX1_f p0) = (1 : Int32) then
    if (fX1_s p0) = 0 then
      ((fX4_goOnWith p0 (fX0_basic (fX1_f p0) (fX4_valueA p0 x) (fX1_b p0)) x).1, (fX4_goOnWith p0 (fX0_basic (fX1_f p0) (fX4_valueA p0 x) (fX1_b p0)) x).2)
    else
      if (fX1_s p0) = (32 : Int32) then
        if (fX1_f p0) = (5 : Int32) then
          ((fX4_goOnWith p0 ((fX4_valueA p0 x) >>> ((fX1_b p0) &&& 31)) x).1, (fX4_goOnWith p0 ((fX4_valueA p0 x) >>> ((fX1_b p0) &&& 31)) x).2)
        else
          ((fX4_unknown p0 x).1, (fX4_unknown p0 x).2)
      else
        ((fX4_unknown p0 x).1, (fX4_unknown p0 x).2)
  else
    if (fX1_f p0) = (5 : Int32) then
      if (fX1_s p0) = 0 then
        ((fX4_goOnWith p0 (fX0_basic (fX1_f p0) (fX4_valueA p0 x) (fX1_b p0)) x).1, (fX4_goOnWith p0 (fX0_basic (fX1_f p0) (fX4_valueA p0 x) (fX1_b p0)) x).2)
      else
        if (fX1_s p0) = (32 : Int32) then
          ((fX4_goOnWith p0 ((fX4_valueA p0 x) >>> ((fX1_b p0) &&& 31)) x).1, (fX4_goOnWith p0 ((fX4_valueA p0 x) >>> ((fX1_b p0) &&& 31)) x).2)
        else
          ((fX4_unknown p0 x).1, (fX4_unknown p0 x).2)
    else
      ((fX4_goOnWith p0 (fX0_basic (fX1_f p0) (fX4_valueA p0 x) (fX1_numberI p0)) x).1, (fX4_goOnWith p0 (fX0_basic (fX1_f p0) (fX4_valueA p0 x) (fX1_numberI p0)) x).2)
set_option maxHeartbeats 4000000 in
set_option maxRecDepth 100000 in
theorem mX4_computeWithNumber (l : Launch) (dC : Nat → ClassId) (dI : Nat → Nat → Nat) (aH aM aW aC aR iW iR : Nat) (sz : Nat) (x : St) (p0 : Int32) : Met l yX4_computeWithNumber wsX4_computeWithNumber ({ frames := 3, cells := 0, slots := 0, locals := 66 }) (va_Pc [.ref aH, .int p0] (kM (dC, dI) [(iW, .int), (iR, .int)] NW (wD aH aM aW aC aR iW iR x) sz)) (va_Qi (fun r u => r = bi (fX4_computeWithNumber p0 x).1 ∧ u = (fX4_computeWithNumber p0 x).2) (fun u t => va_P (dC, dI) vwCl (wD aH aM aW aC aR iW iR u) t.heap) (va_A (wD aH aM aW aC aR iW iR x) sz)) 0 0 (va_A (wD aH aM aW aC aR iW iR x) sz) := by
  refine Met.ofW (cc := cX4_computeWithNumber) (maxL := 4) (ret := (some .boolean)) (by decide) rfl ?_
  intro p e s m args below meth c s₁ B hml hv
  obtain ⟨rfl, hsz, hD0, hP, hK, hN⟩ := hv
  have hx := B.exec
  have hb := B.bytes
  have hr := B.returns
  have hB := fun (w : Cond) (h : w ∈ BIG) => atoms_spec (ws := wsX4_computeWithNumber) B.pre w (List.mem_cons_of_mem _ h)
  have hown : s.vm.findClass RX4 = some m.cls := findClass_of_methodNamed B.named
  have hlocks := B.notSynchronized
  subst hsz
  have hD := hD0.self (sz := s.heap.size)
  generalize hAe : va_A (wD aH aM aW aC aR iW iR x) s.heap.size = A at hD ⊢
  have hA : ∀ q : Nat, s.heap.size ≤ q → A q := fun q h => by rw [← hAe]; exact Or.inr h
  have hS : va_S A s.heap s.heap [] := va_S.rf
  have hl := lv_entry ([.ref aH, .int p0]) (n := 4) (Nat.le_of_ble_eq_true rfl)
  rw [lg_entry_eq]
  generalize (lg_sl ([.ref aH, .int p0]) ++ List.replicate (4 - (lg_sl ([.ref aH, .int p0])).length) Slot.unset).toArray = ls at hl ⊢
  have hl : lv_has ls 4 [(0, .ref aH), (1, .int p0)] := hl
  refine lv_iload_n hx hb dX4_computeWithNumber_0 rfl (lv_at hl 1 rfl) ?_
  refine k_ri (va_runSN (As := [.int p0]) (rest := []) ⟨hx, hb, hml, hown, hB⟩ (mX1_f l p0) ⟨va_cnB 1 hB (good_in wX1_f) rfl rfl rfl (hN _ (List.mem_of_getElem? (i := 5) rfl)) (hB _ q_t1_10) hX1_f.2 ⟨Nat.le_of_ble_eq_true rfl, Nat.le_of_ble_eq_true rfl⟩, hB _ q_t2_56, trivial⟩ ⟨fun _ _ _ _ q => q, fun U _ _ => ⟨rfl, trivial⟩⟩ rfl rfl hl.1 rfl (lv_room (Nat.le_of_ble_eq_true rfl)) dX4_computeWithNumber_1 ⟨Nat.zero_le _, Nat.zero_le _⟩) ?_
  refine lv_istore_n (lv' := [(2, .int (fX1_f p0)), (0, .ref aH), (1, .int p0)]) hx hb dX4_computeWithNumber_4 rfl hl (by decide) rfl (fun ls hl => ?_)
  refine lv_iload_n hx hb dX4_computeWithNumber_5 rfl (lv_at hl 2 rfl) ?_
  refine k_ri (va_runSN (As := [.int p0]) (rest := []) ⟨hx, hb, hml, hown, hB⟩ (mX1_s l p0) ⟨va_cnB 1 hB (good_in wX1_s) rfl rfl rfl (hN _ (List.mem_of_getElem? (i := 21) rfl)) (hB _ q_t1_10) hX1_s.2 ⟨Nat.le_of_ble_eq_true rfl, Nat.le_of_ble_eq_true rfl⟩, hB _ q_t2_134, trivial⟩ ⟨fun _ _ _ _ q => q, fun U _ _ => ⟨rfl, trivial⟩⟩ rfl rfl hl.1 rfl (lv_room (Nat.le_of_ble_eq_true rfl)) dX4_computeWithNumber_6 ⟨Nat.zero_le _, Nat.zero_le _⟩) ?_
  refine lv_istore_n (lv' := [(3, .int (fX1_s p0)), (2, .int (fX1_f p0)), (0, .ref aH), (1, .int p0)]) hx hb dX4_computeWithNumber_9 rfl hl (by decide) rfl (fun ls hl => ?_)
  refine lv_iload_n hx hb dX4_computeWithNumber_10 rfl (lv_at hl 1 rfl) ?_
  refine lv_iconst (v := 1) hx hb dX4_computeWithNumber_11 (by decide) ?_
  refine lv_icmp_eq (tgt := 39) hx hb dX4_computeWithNumber_12 (by decide) (fun c_12 => ?_) (fun c_12 => ?_)
  · refine lv_iload_n hx hb dX4_computeWithNumber_39 rfl (lv_at hl 0 rfl) ?_
    refine lv_if_ne (tgt := 62) hx hb dX4_computeWithNumber_40 (by decide) (fun c_40 => ?_) (fun c_40 => ?_)
    · refine lv_iload_n hx hb dX4_computeWithNumber_62 rfl (lv_at hl 0 rfl) ?_
      refine lv_bipush (v := 32) hx hb dX4_computeWithNumber_63 (by decide) ?_
      refine lv_icmp_ne (tgt := 89) hx hb dX4_computeWithNumber_65 (by decide) (fun c_65 => ?_) (fun c_65 => ?_)
      · refine lv_aload_n hx hb dX4_computeWithNumber_89 rfl (lv_at hl 2 rfl) ?_
        refine lv_iload_n hx hb dX4_computeWithNumber_90 rfl (lv_at hl 3 rfl) ?_
        refine k_mi (w := wD aH aM aW aC aR iW iR) wD_ad (va_runV (As := [.int p0]) (rest := []) ⟨hx, hb, hml, hown, hB⟩ (mX4_unknown l dC dI aH aM aW aC aR iW iR s.heap.size x p0) (cwV 1 hB (gV q_t2_58 q_t2_60 q_s_17 q_t1_1 wX4_unknown) rfl rfl rfl hX4_unknown ⟨Nat.le_of_ble_eq_true rfl, Nat.le_of_ble_eq_true rfl⟩) ⟨kM_blind NW_blind, va_recv hK hP (ci := 2) (q0 := 0) rfl rfl, kM_pre NW_warm hP hK hD hN⟩ rfl rfl hl.1 rfl (lv_room (Nat.le_of_ble_eq_true rfl)) dX4_computeWithNumber_91 ⟨Nat.zero_le _, Nat.zero_le _⟩) hD hS hA (fun r u H locs hw hP hD hS => ?_)
        obtain ⟨rfl, rfl⟩ := hw
        exact W.zret (v := bi (fX4_unknown p0 x).1) hx hb hr (bi_nar _) (fun t ht hW => ⟨⟨bi (fX4_unknown p0 x).1, ((fX4_unknown p0 x).2), rfl, ⟨(by unfold fX4_computeWithNumber; rw [if_pos c_12, if_neg c_40, if_neg c_65] <;> rfl), (by unfold fX4_computeWithNumber; rw [if_pos c_12, if_neg c_40, if_neg c_65] <;> rfl)⟩, hpT ht hP⟩, hS.F ht⟩) hS.2.2 dX4_computeWithNumber_94
      · refine lv_iload_n hx hb dX4_computeWithNumber_68 rfl (lv_at hl 1 rfl) ?_
        refine lv_iconst (v := 5) hx hb dX4_computeWithNumber_69 (by decide) ?_
        refine lv_icmp_ne (tgt := 89) hx hb dX4_computeWithNumber_70 (by decide) (fun c_70 => ?_) (fun c_70 => ?_)
        · refine lv_aload_n hx hb dX4_computeWithNumber_89 rfl (lv_at hl 2 rfl) ?_
          refine lv_iload_n hx hb dX4_computeWithNumber_90 rfl (lv_at hl 3 rfl) ?_
          refine k_mi (w := wD aH aM aW aC aR iW iR) wD_ad (va_runV (As := [.int p0]) (rest := []) ⟨hx, hb, hml, hown, hB⟩ (mX4_unknown l dC dI aH aM aW aC aR iW iR s.heap.size x p0) (cwV 1 hB (gV q_t2_58 q_t2_60 q_s_17 q_t1_1 wX4_unknown) rfl rfl rfl hX4_unknown ⟨Nat.le_of_ble_eq_true rfl, Nat.le_of_ble_eq_true rfl⟩) ⟨kM_blind NW_blind, va_recv hK hP (ci := 2) (q0 := 0) rfl rfl, kM_pre NW_warm hP hK hD hN⟩ rfl rfl hl.1 rfl (lv_room (Nat.le_of_ble_eq_true rfl)) dX4_computeWithNumber_91 ⟨Nat.zero_le _, Nat.zero_le _⟩) hD hS hA (fun r u H locs hw hP hD hS => ?_)
          obtain ⟨rfl, rfl⟩ := hw
          exact W.zret (v := bi (fX4_unknown p0 x).1) hx hb hr (bi_nar _) (fun t ht hW => ⟨⟨bi (fX4_unknown p0 x).1, ((fX4_unknown p0 x).2), rfl, ⟨(by unfold fX4_computeWithNumber; rw [if_pos c_12, if_neg c_40, if_pos c_65, if_neg c_70] <;> rfl), (by unfold fX4_computeWithNumber; rw [if_pos c_12, if_neg c_40, if_pos c_65, if_neg c_70] <;> rfl)⟩, hpT ht hP⟩, hS.F ht⟩) hS.2.2 dX4_computeWithNumber_94
        · refine lv_aload_n hx hb dX4_computeWithNumber_73 rfl (lv_at hl 2 rfl) ?_
          refine lv_iload_n hx hb dX4_computeWithNumber_74 rfl (lv_at hl 3 rfl) ?_
          refine lv_aload_n hx hb dX4_computeWithNumber_75 rfl (lv_at hl 2 rfl) ?_
          refine lv_iload_n hx hb dX4_computeWithNumber_76 rfl (lv_at hl 3 rfl) ?_
          refine k_ri (va_runV (As := [.int p0]) (rest := [.int p0, .ref aH]) ⟨hx, hb, hml, hown, hB⟩ (mX4_valueA l dC dI aH aM aW aC aR iW iR x p0) (cwV 1 hB (gV q_t2_62 q_t2_64 q_s_18 q_t1_1 wX4_valueA) rfl rfl rfl hX4_valueA ⟨Nat.le_of_ble_eq_true rfl, Nat.le_of_ble_eq_true rfl⟩) ⟨kP_blind NW_blind, va_recv hK hP (ci := 2) (q0 := 0) rfl rfl, kP_pre NW_warm hP hK hN⟩ rfl rfl hl.1 rfl (lv_room (Nat.le_of_ble_eq_true rfl)) dX4_computeWithNumber_77 ⟨Nat.zero_le _, Nat.zero_le _⟩) ?_
          refine lv_iload_n hx hb dX4_computeWithNumber_80 rfl (lv_at hl 3 rfl) ?_
          refine k_ri (va_runSN (As := [.int p0]) (rest := [.int (fX4_valueA p0 x), .int p0, .ref aH]) ⟨hx, hb, hml, hown, hB⟩ (mX1_b l p0) ⟨va_cnB 1 hB (good_in wX1_b) rfl rfl rfl (hN _ (List.mem_of_getElem? (i := 1) rfl)) (hB _ q_t1_10) hX1_b.2 ⟨Nat.le_of_ble_eq_true rfl, Nat.le_of_ble_eq_true rfl⟩, hB _ q_t2_85, trivial⟩ ⟨fun _ _ _ _ q => q, fun U _ _ => ⟨rfl, trivial⟩⟩ rfl rfl hl.1 rfl (lv_room (Nat.le_of_ble_eq_true rfl)) dX4_computeWithNumber_81 ⟨Nat.zero_le _, Nat.zero_le _⟩) ?_
          refine lv_ishr hx hb dX4_computeWithNumber_84 ?_
          refine k_mi (w := wD aH aM aW aC aR iW iR) wD_ad (va_runV (As := [.int p0, .int ((fX4_valueA p0 x) >>> ((fX1_b p0) &&& 31))]) (rest := []) ⟨hx, hb, hml, hown, hB⟩ (mX4_goOnWith l dC dI aH aM aW aC aR iW iR s.heap.size x p0 ((fX4_valueA p0 x) >>> ((fX1_b p0) &&& 31))) (cwV 2 hB (gV q_t2_33 q_t2_35 q_s_13 q_t1_1 wX4_goOnWith) rfl rfl rfl hX4_goOnWith ⟨Nat.le_of_ble_eq_true rfl, Nat.le_of_ble_eq_true rfl⟩) ⟨kM_blind NW_blind, va_recv hK hP (ci := 2) (q0 := 0) rfl rfl, kM_pre NW_warm hP hK hD hN⟩ rfl rfl hl.1 rfl (lv_room (Nat.le_of_ble_eq_true rfl)) dX4_computeWithNumber_85 ⟨Nat.zero_le _, Nat.zero_le _⟩) hD hS hA (fun r u H locs hw hP hD hS => ?_)
          obtain ⟨rfl, rfl⟩ := hw
          exact W.zret (v := bi (fX4_goOnWith p0 ((fX4_valueA p0 x) >>> ((fX1_b p0) &&& 31)) x).1) hx hb hr (bi_nar _) (fun t ht hW => ⟨⟨bi (fX4_goOnWith p0 ((fX4_valueA p0 x) >>> ((fX1_b p0) &&& 31)) x).1, ((fX4_goOnWith p0 ((fX4_valueA p0 x) >>> ((fX1_b p0) &&& 31)) x).2), rfl, ⟨(by unfold fX4_computeWithNumber; rw [if_pos c_12, if_neg c_40, if_pos c_65, if_pos c_70] <;> rfl), (by unfold fX4_computeWithNumber; rw [if_pos c_12, if_neg c_40, if_pos c_65, if_pos c_70] <;> rfl)⟩, hpT ht hP⟩, hS.F ht⟩) hS.2.2 dX4_computeWithNumber_88
    · refine lv_aload_n hx hb dX4_computeWithNumber_43 rfl (lv_at hl 2 rfl) ?_
      refine lv_iload_n hx hb dX4_computeWithNumber_44 rfl (lv_at hl 3 rfl) ?_
      refine lv_iload_n hx hb dX4_computeWithNumber_45 rfl (lv_at hl 1 rfl) ?_
      refine lv_aload_n hx hb dX4_computeWithNumber_46 rfl (lv_at hl 2 rfl) ?_
      refine lv_iload_n hx hb dX4_computeWithNumber_47 rfl (lv_at hl 3 rfl) ?_
      refine k_ri (va_runV (As := [.int p0]) (rest := [.int (fX1_f p0), .int p0, .ref aH]) ⟨hx, hb, hml, hown, hB⟩ (mX4_valueA l dC dI aH aM aW aC aR iW iR x p0) (cwV 1 hB (gV q_t2_62 q_t2_64 q_s_18 q_t1_1 wX4_valueA) rfl rfl rfl hX4_valueA ⟨Nat.le_of_ble_eq_true rfl, Nat.le_of_ble_eq_true rfl⟩) ⟨kP_blind NW_blind, va_recv hK hP (ci := 2) (q0 := 0) rfl rfl, kP_pre NW_warm hP hK hN⟩ rfl rfl hl.1 rfl (lv_room (Nat.le_of_ble_eq_true rfl)) dX4_computeWithNumber_48 ⟨Nat.zero_le _, Nat.zero_le _⟩) ?_
      refine lv_iload_n hx hb dX4_computeWithNumber_51 rfl (lv_at hl 3 rfl) ?_
      refine k_ri (va_runSN (As := [.int p0]) (rest := [.int (fX4_valueA p0 x), .int (fX1_f p0), .int p0, .ref aH]) ⟨hx, hb, hml, hown, hB⟩ (mX1_b l p0) ⟨va_cnB 1 hB (good_in wX1_b) rfl rfl rfl (hN _ (List.mem_of_getElem? (i := 1) rfl)) (hB _ q_t1_10) hX1_b.2 ⟨Nat.le_of_ble_eq_true rfl, Nat.le_of_ble_eq_true rfl⟩, hB _ q_t2_85, trivial⟩ ⟨fun _ _ _ _ q => q, fun U _ _ => ⟨rfl, trivial⟩⟩ rfl rfl hl.1 rfl (lv_room (Nat.le_of_ble_eq_true rfl)) dX4_computeWithNumber_52 ⟨Nat.zero_le _, Nat.zero_le _⟩) ?_
      refine k_ri (va_runSN (As := [.int (fX1_f p0), .int (fX4_valueA p0 x), .int (fX1_b p0)]) (rest := [.int p0, .ref aH]) ⟨hx, hb, hml, hown, hB⟩ (mX0_basic l (fX1_f p0) (fX4_valueA p0 x) (fX1_b p0)) ⟨va_cnB 3 hB (good_in wX0_basic) rfl rfl rfl (hN _ (List.mem_of_getElem? (i := 22) rfl)) (hB _ q_t1_11) hX0_basic.2 ⟨Nat.le_of_ble_eq_true rfl, Nat.le_of_ble_eq_true rfl⟩, hB _ q_t2_137, trivial⟩ ⟨fun _ _ _ _ q => q, fun U _ _ => ⟨rfl, trivial⟩⟩ rfl rfl hl.1 rfl (lv_room (Nat.le_of_ble_eq_true rfl)) dX4_computeWithNumber_55 ⟨Nat.zero_le _, Nat.zero_le _⟩) ?_
      refine k_mi (w := wD aH aM aW aC aR iW iR) wD_ad (va_runV (As := [.int p0, .int (fX0_basic (fX1_f p0) (fX4_valueA p0 x) (fX1_b p0))]) (rest := []) ⟨hx, hb, hml, hown, hB⟩ (mX4_goOnWith l dC dI aH aM aW aC aR iW iR s.heap.size x p0 (fX0_basic (fX1_f p0) (fX4_valueA p0 x) (fX1_b p0))) (cwV 2 hB (gV q_t2_33 q_t2_35 q_s_13 q_t1_1 wX4_goOnWith) rfl rfl rfl hX4_goOnWith ⟨Nat.le_of_ble_eq_true rfl, Nat.le_of_ble_eq_true rfl⟩) ⟨kM_blind NW_blind, va_recv hK hP (ci := 2) (q0 := 0) rfl rfl, kM_pre NW_warm hP hK hD hN⟩ rfl rfl hl.1 rfl (lv_room (Nat.le_of_ble_eq_true rfl)) dX4_computeWithNumber_58 ⟨Nat.zero_le _, Nat.zero_le _⟩) hD hS hA (fun r u H locs hw hP hD hS => ?_)
      obtain ⟨rfl, rfl⟩ := hw
      exact W.zret (v := bi (fX4_goOnWith p0 (fX0_basic (fX1_f p0) (fX4_valueA p0 x) (fX1_b p0)) x).1) hx hb hr (bi_nar _) (fun t ht hW => ⟨⟨bi (fX4_goOnWith p0 (fX0_basic (fX1_f p0) (fX4_valueA p0 x) (fX1_b p0)) x).1, ((fX4_goOnWith p0 (fX0_basic (fX1_f p0) (fX4_valueA p0 x) (fX1_b p0)) x).2), rfl, ⟨(by unfold fX4_computeWithNumber; rw [if_pos c_12, if_pos c_40] <;> rfl), (by unfold fX4_computeWithNumber; rw [if_pos c_12, if_pos c_40] <;> rfl)⟩, hpT ht hP⟩, hS.F ht⟩) hS.2.2 dX4_computeWithNumber_61
  · refine lv_iload_n hx hb dX4_computeWithNumber_15 rfl (lv_at hl 1 rfl) ?_
    refine lv_iconst (v := 5) hx hb dX4_computeWithNumber_16 (by decide) ?_
    refine lv_icmp_eq (tgt := 39) hx hb dX4_computeWithNumber_17 (by decide) (fun c_17 => ?_) (fun c_17 => ?_)
    · refine lv_iload_n hx hb dX4_computeWithNumber_39 rfl (lv_at hl 0 rfl) ?_
      refine lv_if_ne (tgt := 62) hx hb dX4_computeWithNumber_40 (by decide) (fun c_40 => ?_) (fun c_40 => ?_)
      · refine lv_iload_n hx hb dX4_computeWithNumber_62 rfl (lv_at hl 0 rfl) ?_
        refine lv_bipush (v := 32) hx hb dX4_computeWithNumber_63 (by decide) ?_
        refine lv_icmp_ne (tgt := 89) hx hb dX4_computeWithNumber_65 (by decide) (fun c_65 => ?_) (fun c_65 => ?_)
        · refine lv_aload_n hx hb dX4_computeWithNumber_89 rfl (lv_at hl 2 rfl) ?_
          refine lv_iload_n hx hb dX4_computeWithNumber_90 rfl (lv_at hl 3 rfl) ?_
          refine k_mi (w := wD aH aM aW aC aR iW iR) wD_ad (va_runV (As := [.int p0]) (rest := []) ⟨hx, hb, hml, hown, hB⟩ (mX4_unknown l dC dI aH aM aW aC aR iW iR s.heap.size x p0) (cwV 1 hB (gV q_t2_58 q_t2_60 q_s_17 q_t1_1 wX4_unknown) rfl rfl rfl hX4_unknown ⟨Nat.le_of_ble_eq_true rfl, Nat.le_of_ble_eq_true rfl⟩) ⟨kM_blind NW_blind, va_recv hK hP (ci := 2) (q0 := 0) rfl rfl, kM_pre NW_warm hP hK hD hN⟩ rfl rfl hl.1 rfl (lv_room (Nat.le_of_ble_eq_true rfl)) dX4_computeWithNumber_91 ⟨Nat.zero_le _, Nat.zero_le _⟩) hD hS hA (fun r u H locs hw hP hD hS => ?_)
          obtain ⟨rfl, rfl⟩ := hw
          exact W.zret (v := bi (fX4_unknown p0 x).1) hx hb hr (bi_nar _) (fun t ht hW => ⟨⟨bi (fX4_unknown p0 x).1, ((fX4_unknown p0 x).2), rfl, ⟨(by unfold fX4_computeWithNumber; rw [if_neg c_12, if_pos c_17, if_neg c_40, if_neg c_65] <;> rfl), (by unfold fX4_computeWithNumber; rw [if_neg c_12, if_pos c_17, if_neg c_40, if_neg c_65] <;> rfl)⟩, hpT ht hP⟩, hS.F ht⟩) hS.2.2 dX4_computeWithNumber_94
        · refine lv_iload_n hx hb dX4_computeWithNumber_68 rfl (lv_at hl 1 rfl) ?_
          refine lv_iconst (v := 5) hx hb dX4_computeWithNumber_69 (by decide) ?_
          refine lv_icmp_ne (tgt := 89) hx hb dX4_computeWithNumber_70 (by decide) (fun h9 => absurd c_17 h9) (fun _ => ?_)
          refine lv_aload_n hx hb dX4_computeWithNumber_73 rfl (lv_at hl 2 rfl) ?_
          refine lv_iload_n hx hb dX4_computeWithNumber_74 rfl (lv_at hl 3 rfl) ?_
          refine lv_aload_n hx hb dX4_computeWithNumber_75 rfl (lv_at hl 2 rfl) ?_
          refine lv_iload_n hx hb dX4_computeWithNumber_76 rfl (lv_at hl 3 rfl) ?_
          refine k_ri (va_runV (As := [.int p0]) (rest := [.int p0, .ref aH]) ⟨hx, hb, hml, hown, hB⟩ (mX4_valueA l dC dI aH aM aW aC aR iW iR x p0) (cwV 1 hB (gV q_t2_62 q_t2_64 q_s_18 q_t1_1 wX4_valueA) rfl rfl rfl hX4_valueA ⟨Nat.le_of_ble_eq_true rfl, Nat.le_of_ble_eq_true rfl⟩) ⟨kP_blind NW_blind, va_recv hK hP (ci := 2) (q0 := 0) rfl rfl, kP_pre NW_warm hP hK hN⟩ rfl rfl hl.1 rfl (lv_room (Nat.le_of_ble_eq_true rfl)) dX4_computeWithNumber_77 ⟨Nat.zero_le _, Nat.zero_le _⟩) ?_
          refine lv_iload_n hx hb dX4_computeWithNumber_80 rfl (lv_at hl 3 rfl) ?_
          refine k_ri (va_runSN (As := [.int p0]) (rest := [.int (fX4_valueA p0 x), .int p0, .ref aH]) ⟨hx, hb, hml, hown, hB⟩ (mX1_b l p0) ⟨va_cnB 1 hB (good_in wX1_b) rfl rfl rfl (hN _ (List.mem_of_getElem? (i := 1) rfl)) (hB _ q_t1_10) hX1_b.2 ⟨Nat.le_of_ble_eq_true rfl, Nat.le_of_ble_eq_true rfl⟩, hB _ q_t2_85, trivial⟩ ⟨fun _ _ _ _ q => q, fun U _ _ => ⟨rfl, trivial⟩⟩ rfl rfl hl.1 rfl (lv_room (Nat.le_of_ble_eq_true rfl)) dX4_computeWithNumber_81 ⟨Nat.zero_le _, Nat.zero_le _⟩) ?_
          refine lv_ishr hx hb dX4_computeWithNumber_84 ?_
          refine k_mi (w := wD aH aM aW aC aR iW iR) wD_ad (va_runV (As := [.int p0, .int ((fX4_valueA p0 x) >>> ((fX1_b p0) &&& 31))]) (rest := []) ⟨hx, hb, hml, hown, hB⟩ (mX4_goOnWith l dC dI aH aM aW aC aR iW iR s.heap.size x p0 ((fX4_valueA p0 x) >>> ((fX1_b p0) &&& 31))) (cwV 2 hB (gV q_t2_33 q_t2_35 q_s_13 q_t1_1 wX4_goOnWith) rfl rfl rfl hX4_goOnWith ⟨Nat.le_of_ble_eq_true rfl, Nat.le_of_ble_eq_true rfl⟩) ⟨kM_blind NW_blind, va_recv hK hP (ci := 2) (q0 := 0) rfl rfl, kM_pre NW_warm hP hK hD hN⟩ rfl rfl hl.1 rfl (lv_room (Nat.le_of_ble_eq_true rfl)) dX4_computeWithNumber_85 ⟨Nat.zero_le _, Nat.zero_le _⟩) hD hS hA (fun r u H locs hw hP hD hS => ?_)
          obtain ⟨rfl, rfl⟩ := hw
          exact W.zret (v := bi (fX4_goOnWith p0 ((fX4_valueA p0 x) >>> ((fX1_b p0) &&& 31)) x).1) hx hb hr (bi_nar _) (fun t ht hW => ⟨⟨bi (fX4_goOnWith p0 ((fX4_valueA p0 x) >>> ((fX1_b p0) &&& 31)) x).1, ((fX4_goOnWith p0 ((fX4_valueA p0 x) >>> ((fX1_b p0) &&& 31)) x).2), rfl, ⟨(by unfold fX4_computeWithNumber; rw [if_neg c_12, if_pos c_17, if_neg c_40, if_pos c_65] <;> rfl), (by unfold fX4_computeWithNumber; rw [if_neg c_12, if_pos c_17, if_neg c_40, if_pos c_65] <;> rfl)⟩, hpT ht hP⟩, hS.F ht⟩) hS.2.2 dX4_computeWithNumber_88
      · refine lv_aload_n hx hb dX4_computeWithNumber_43 rfl (lv_at hl 2 rfl) ?_
        refine lv_iload_n hx hb dX4_computeWithNumber_44 rfl (lv_at hl 3 rfl) ?_
        refine lv_iload_n hx hb dX4_computeWithNumber_45 rfl (lv_at hl 1 rfl) ?_
        refine lv_aload_n hx hb dX4_computeWithNumber_46 rfl (lv_at hl 2 rfl) ?_
        refine lv_iload_n hx hb dX4_computeWithNumber_47 rfl (lv_at hl 3 rfl) ?_
        refine k_ri (va_runV (As := [.int p0]) (rest := [.int (fX1_f p0), .int p0, .ref aH]) ⟨hx, hb, hml, hown, hB⟩ (mX4_valueA l dC dI aH aM aW aC aR iW iR x p0) (cwV 1 hB (gV q_t2_62 q_t2_64 q_s_18 q_t1_1 wX4_valueA) rfl rfl rfl hX4_valueA ⟨Nat.le_of_ble_eq_true rfl, Nat.le_of_ble_eq_true rfl⟩) ⟨kP_blind NW_blind, va_recv hK hP (ci := 2) (q0 := 0) rfl rfl, kP_pre NW_warm hP hK hN⟩ rfl rfl hl.1 rfl (lv_room (Nat.le_of_ble_eq_true rfl)) dX4_computeWithNumber_48 ⟨Nat.zero_le _, Nat.zero_le _⟩) ?_
        refine lv_iload_n hx hb dX4_computeWithNumber_51 rfl (lv_at hl 3 rfl) ?_
        refine k_ri (va_runSN (As := [.int p0]) (rest := [.int (fX4_valueA p0 x), .int (fX1_f p0), .int p0, .ref aH]) ⟨hx, hb, hml, hown, hB⟩ (mX1_b l p0) ⟨va_cnB 1 hB (good_in wX1_b) rfl rfl rfl (hN _ (List.mem_of_getElem? (i := 1) rfl)) (hB _ q_t1_10) hX1_b.2 ⟨Nat.le_of_ble_eq_true rfl, Nat.le_of_ble_eq_true rfl⟩, hB _ q_t2_85, trivial⟩ ⟨fun _ _ _ _ q => q, fun U _ _ => ⟨rfl, trivial⟩⟩ rfl rfl hl.1 rfl (lv_room (Nat.le_of_ble_eq_true rfl)) dX4_computeWithNumber_52 ⟨Nat.zero_le _, Nat.zero_le _⟩) ?_
        refine k_ri (va_runSN (As := [.int (fX1_f p0), .int (fX4_valueA p0 x), .int (fX1_b p0)]) (rest := [.int p0, .ref aH]) ⟨hx, hb, hml, hown, hB⟩ (mX0_basic l (fX1_f p0) (fX4_valueA p0 x) (fX1_b p0)) ⟨va_cnB 3 hB (good_in wX0_basic) rfl rfl rfl (hN _ (List.mem_of_getElem? (i := 22) rfl)) (hB _ q_t1_11) hX0_basic.2 ⟨Nat.le_of_ble_eq_true rfl, Nat.le_of_ble_eq_true rfl⟩, hB _ q_t2_137, trivial⟩ ⟨fun _ _ _ _ q => q, fun U _ _ => ⟨rfl, trivial⟩⟩ rfl rfl hl.1 rfl (lv_room (Nat.le_of_ble_eq_true rfl)) dX4_computeWithNumber_55 ⟨Nat.zero_le _, Nat.zero_le _⟩) ?_
        refine k_mi (w := wD aH aM aW aC aR iW iR) wD_ad (va_runV (As := [.int p0, .int (fX0_basic (fX1_f p0) (fX4_valueA p0 x) (fX1_b p0))]) (rest := []) ⟨hx, hb, hml, hown, hB⟩ (mX4_goOnWith l dC dI aH aM aW aC aR iW iR s.heap.size x p0 (fX0_basic (fX1_f p0) (fX4_valueA p0 x) (fX1_b p0))) (cwV 2 hB (gV q_t2_33 q_t2_35 q_s_13 q_t1_1 wX4_goOnWith) rfl rfl rfl hX4_goOnWith ⟨Nat.le_of_ble_eq_true rfl, Nat.le_of_ble_eq_true rfl⟩) ⟨kM_blind NW_blind, va_recv hK hP (ci := 2) (q0 := 0) rfl rfl, kM_pre NW_warm hP hK hD hN⟩ rfl rfl hl.1 rfl (lv_room (Nat.le_of_ble_eq_true rfl)) dX4_computeWithNumber_58 ⟨Nat.zero_le _, Nat.zero_le _⟩) hD hS hA (fun r u H locs hw hP hD hS => ?_)
        obtain ⟨rfl, rfl⟩ := hw
        exact W.zret (v := bi (fX4_goOnWith p0 (fX0_basic (fX1_f p0) (fX4_valueA p0 x) (fX1_b p0)) x).1) hx hb hr (bi_nar _) (fun t ht hW => ⟨⟨bi (fX4_goOnWith p0 (fX0_basic (fX1_f p0) (fX4_valueA p0 x) (fX1_b p0)) x).1, ((fX4_goOnWith p0 (fX0_basic (fX1_f p0) (fX4_valueA p0 x) (fX1_b p0)) x).2), rfl, ⟨(by unfold fX4_computeWithNumber; rw [if_neg c_12, if_pos c_17, if_pos c_40] <;> rfl), (by unfold fX4_computeWithNumber; rw [if_neg c_12, if_pos c_17, if_pos c_40] <;> rfl)⟩, hpT ht hP⟩, hS.F ht⟩) hS.2.2 dX4_computeWithNumber_61
    · refine lv_aload_n hx hb dX4_computeWithNumber_20 rfl (lv_at hl 2 rfl) ?_
      refine lv_iload_n hx hb dX4_computeWithNumber_21 rfl (lv_at hl 3 rfl) ?_
      refine lv_iload_n hx hb dX4_computeWithNumber_22 rfl (lv_at hl 1 rfl) ?_
      refine lv_aload_n hx hb dX4_computeWithNumber_23 rfl (lv_at hl 2 rfl) ?_
      refine lv_iload_n hx hb dX4_computeWithNumber_24 rfl (lv_at hl 3 rfl) ?_
      refine k_ri (va_runV (As := [.int p0]) (rest := [.int (fX1_f p0), .int p0, .ref aH]) ⟨hx, hb, hml, hown, hB⟩ (mX4_valueA l dC dI aH aM aW aC aR iW iR x p0) (cwV 1 hB (gV q_t2_62 q_t2_64 q_s_18 q_t1_1 wX4_valueA) rfl rfl rfl hX4_valueA ⟨Nat.le_of_ble_eq_true rfl, Nat.le_of_ble_eq_true rfl⟩) ⟨kP_blind NW_blind, va_recv hK hP (ci := 2) (q0 := 0) rfl rfl, kP_pre NW_warm hP hK hN⟩ rfl rfl hl.1 rfl (lv_room (Nat.le_of_ble_eq_true rfl)) dX4_computeWithNumber_25 ⟨Nat.zero_le _, Nat.zero_le _⟩) ?_
      refine lv_iload_n hx hb dX4_computeWithNumber_28 rfl (lv_at hl 3 rfl) ?_
      refine k_ri (va_runSN (As := [.int p0]) (rest := [.int (fX4_valueA p0 x), .int (fX1_f p0), .int p0, .ref aH]) ⟨hx, hb, hml, hown, hB⟩ (mX1_numberI l p0) ⟨va_cnB 1 hB (good_in wX1_numberI) rfl rfl rfl (hN _ (List.mem_of_getElem? (i := 6) rfl)) (hB _ q_t1_10) hX1_numberI.2 ⟨Nat.le_of_ble_eq_true rfl, Nat.le_of_ble_eq_true rfl⟩, hB _ q_t2_74, trivial⟩ ⟨fun _ _ _ _ q => q, fun U _ _ => ⟨rfl, trivial⟩⟩ rfl rfl hl.1 rfl (lv_room (Nat.le_of_ble_eq_true rfl)) dX4_computeWithNumber_29 ⟨Nat.zero_le _, Nat.zero_le _⟩) ?_
      refine k_ri (va_runSN (As := [.int (fX1_f p0), .int (fX4_valueA p0 x), .int (fX1_numberI p0)]) (rest := [.int p0, .ref aH]) ⟨hx, hb, hml, hown, hB⟩ (mX0_basic l (fX1_f p0) (fX4_valueA p0 x) (fX1_numberI p0)) ⟨va_cnB 3 hB (good_in wX0_basic) rfl rfl rfl (hN _ (List.mem_of_getElem? (i := 22) rfl)) (hB _ q_t1_11) hX0_basic.2 ⟨Nat.le_of_ble_eq_true rfl, Nat.le_of_ble_eq_true rfl⟩, hB _ q_t2_137, trivial⟩ ⟨fun _ _ _ _ q => q, fun U _ _ => ⟨rfl, trivial⟩⟩ rfl rfl hl.1 rfl (lv_room (Nat.le_of_ble_eq_true rfl)) dX4_computeWithNumber_32 ⟨Nat.zero_le _, Nat.zero_le _⟩) ?_
      refine k_mi (w := wD aH aM aW aC aR iW iR) wD_ad (va_runV (As := [.int p0, .int (fX0_basic (fX1_f p0) (fX4_valueA p0 x) (fX1_numberI p0))]) (rest := []) ⟨hx, hb, hml, hown, hB⟩ (mX4_goOnWith l dC dI aH aM aW aC aR iW iR s.heap.size x p0 (fX0_basic (fX1_f p0) (fX4_valueA p0 x) (fX1_numberI p0))) (cwV 2 hB (gV q_t2_33 q_t2_35 q_s_13 q_t1_1 wX4_goOnWith) rfl rfl rfl hX4_goOnWith ⟨Nat.le_of_ble_eq_true rfl, Nat.le_of_ble_eq_true rfl⟩) ⟨kM_blind NW_blind, va_recv hK hP (ci := 2) (q0 := 0) rfl rfl, kM_pre NW_warm hP hK hD hN⟩ rfl rfl hl.1 rfl (lv_room (Nat.le_of_ble_eq_true rfl)) dX4_computeWithNumber_35 ⟨Nat.zero_le _, Nat.zero_le _⟩) hD hS hA (fun r u H locs hw hP hD hS => ?_)
      obtain ⟨rfl, rfl⟩ := hw
      exact W.zret (v := bi (fX4_goOnWith p0 (fX0_basic (fX1_f p0) (fX4_valueA p0 x) (fX1_numberI p0)) x).1) hx hb hr (bi_nar _) (fun t ht hW => ⟨⟨bi (fX4_goOnWith p0 (fX0_basic (fX1_f p0) (fX4_valueA p0 x) (fX1_numberI p0)) x).1, ((fX4_goOnWith p0 (fX0_basic (fX1_f p0) (fX4_valueA p0 x) (fX1_numberI p0)) x).2), rfl, ⟨(by unfold fX4_computeWithNumber; rw [if_neg c_12, if_neg c_17] <;> rfl), (by unfold fX4_computeWithNumber; rw [if_neg c_12, if_neg c_17] <;> rfl)⟩, hpT ht hP⟩, hS.F ht⟩) hS.2.2 dX4_computeWithNumber_38
def fX4_computeWithRegister (p0 : Int32) (x : St) : Bool × St := if (fX1_s p0) = 0 then
    ((fX4_goOnWith p0 (fX0_basic (fX1_f p0) (fX4_valueA p0 x) (fX4_valueB p0 x)) x).1, (fX4_goOnWith p0 (fX0_basic (fX1_f p0) (fX4_valueA p0 x) (fX4_valueB p0 x)) x).2)
  else
    if (fX1_s p0) = (1 : Int32) then
      ((fX4_goOnWith p0 (fX0_productOrQuotient (fX1_f p0) (fX4_valueA p0 x) (fX4_valueB p0 x)) x).1, (fX4_goOnWith p0 (fX0_productOrQuotient (fX1_f p0) (fX4_valueA p0 x) (fX4_valueB p0 x)) x).2)
    else
      if (fX1_s p0) = (32 : Int32) then
        if (fX1_f p0) = 0 then
          ((fX4_goOnWith p0 ((fX4_valueA p0 x) - (fX4_valueB p0 x)) x).1, (fX4_goOnWith p0 ((fX4_valueA p0 x) - (fX4_valueB p0 x)) x).2)
        else
          if (fX1_f p0) = (5 : Int32) then
            ((fX4_goOnWith p0 ((fX4_valueA p0 x) >>> (((fX4_valueB p0 x) &&& (31 : Int32)) &&& 31)) x).1, (fX4_goOnWith p0 ((fX4_valueA p0 x) >>> (((fX4_valueB p0 x) &&& (31 : Int32)) &&& 31)) x).2)
          else
            ((fX4_unknown p0 x).1, (fX4_unknown p0 x).2)
      else
        ((fX4_unknown p0 x).1, (fX4_unknown p0 x).2)
set_option maxHeartbeats 4000000 in
set_option maxRecDepth 100000 in
theorem mX4_computeWithRegister (l : Launch) (dC : Nat → ClassId) (dI : Nat → Nat → Nat) (aH aM aW aC aR iW iR : Nat) (sz : Nat) (x : St) (p0 : Int32) : Met l yX4_computeWithRegister wsX4_computeWithRegister ({ frames := 3, cells := 0, slots := 0, locals := 66 }) (va_Pc [.ref aH, .int p0] (kM (dC, dI) [(iW, .int), (iR, .int)] NW (wD aH aM aW aC aR iW iR x) sz)) (va_Qi (fun r u => r = bi (fX4_computeWithRegister p0 x).1 ∧ u = (fX4_computeWithRegister p0 x).2) (fun u t => va_P (dC, dI) vwCl (wD aH aM aW aC aR iW iR u) t.heap) (va_A (wD aH aM aW aC aR iW iR x) sz)) 0 0 (va_A (wD aH aM aW aC aR iW iR x) sz) := by
  refine Met.ofW (cc := cX4_computeWithRegister) (maxL := 4) (ret := (some .boolean)) (by decide) rfl ?_
  intro p e s m args below meth c s₁ B hml hv
  obtain ⟨rfl, hsz, hD0, hP, hK, hN⟩ := hv
  have hx := B.exec
  have hb := B.bytes
  have hr := B.returns
  have hB := fun (w : Cond) (h : w ∈ BIG) => atoms_spec (ws := wsX4_computeWithRegister) B.pre w (List.mem_cons_of_mem _ h)
  have hown : s.vm.findClass RX4 = some m.cls := findClass_of_methodNamed B.named
  have hlocks := B.notSynchronized
  subst hsz
  have hD := hD0.self (sz := s.heap.size)
  generalize hAe : va_A (wD aH aM aW aC aR iW iR x) s.heap.size = A at hD ⊢
  have hA : ∀ q : Nat, s.heap.size ≤ q → A q := fun q h => by rw [← hAe]; exact Or.inr h
  have hS : va_S A s.heap s.heap [] := va_S.rf
  have hl := lv_entry ([.ref aH, .int p0]) (n := 4) (Nat.le_of_ble_eq_true rfl)
  rw [lg_entry_eq]
  generalize (lg_sl ([.ref aH, .int p0]) ++ List.replicate (4 - (lg_sl ([.ref aH, .int p0])).length) Slot.unset).toArray = ls at hl ⊢
  have hl : lv_has ls 4 [(0, .ref aH), (1, .int p0)] := hl
  refine lv_iload_n hx hb dX4_computeWithRegister_0 rfl (lv_at hl 1 rfl) ?_
  refine k_ri (va_runSN (As := [.int p0]) (rest := []) ⟨hx, hb, hml, hown, hB⟩ (mX1_f l p0) ⟨va_cnB 1 hB (good_in wX1_f) rfl rfl rfl (hN _ (List.mem_of_getElem? (i := 5) rfl)) (hB _ q_t1_10) hX1_f.2 ⟨Nat.le_of_ble_eq_true rfl, Nat.le_of_ble_eq_true rfl⟩, hB _ q_t2_56, trivial⟩ ⟨fun _ _ _ _ q => q, fun U _ _ => ⟨rfl, trivial⟩⟩ rfl rfl hl.1 rfl (lv_room (Nat.le_of_ble_eq_true rfl)) dX4_computeWithRegister_1 ⟨Nat.zero_le _, Nat.zero_le _⟩) ?_
  refine lv_istore_n (lv' := [(2, .int (fX1_f p0)), (0, .ref aH), (1, .int p0)]) hx hb dX4_computeWithRegister_4 rfl hl (by decide) rfl (fun ls hl => ?_)
  refine lv_iload_n hx hb dX4_computeWithRegister_5 rfl (lv_at hl 2 rfl) ?_
  refine k_ri (va_runSN (As := [.int p0]) (rest := []) ⟨hx, hb, hml, hown, hB⟩ (mX1_s l p0) ⟨va_cnB 1 hB (good_in wX1_s) rfl rfl rfl (hN _ (List.mem_of_getElem? (i := 21) rfl)) (hB _ q_t1_10) hX1_s.2 ⟨Nat.le_of_ble_eq_true rfl, Nat.le_of_ble_eq_true rfl⟩, hB _ q_t2_134, trivial⟩ ⟨fun _ _ _ _ q => q, fun U _ _ => ⟨rfl, trivial⟩⟩ rfl rfl hl.1 rfl (lv_room (Nat.le_of_ble_eq_true rfl)) dX4_computeWithRegister_6 ⟨Nat.zero_le _, Nat.zero_le _⟩) ?_
  refine lv_istore_n (lv' := [(3, .int (fX1_s p0)), (2, .int (fX1_f p0)), (0, .ref aH), (1, .int p0)]) hx hb dX4_computeWithRegister_9 rfl hl (by decide) rfl (fun ls hl => ?_)
  refine lv_iload_n hx hb dX4_computeWithRegister_10 rfl (lv_at hl 0 rfl) ?_
  refine lv_if_ne (tgt := 34) hx hb dX4_computeWithRegister_11 (by decide) (fun c_11 => ?_) (fun c_11 => ?_)
  · refine lv_iload_n hx hb dX4_computeWithRegister_34 rfl (lv_at hl 0 rfl) ?_
    refine lv_iconst (v := 1) hx hb dX4_computeWithRegister_35 (by decide) ?_
    refine lv_icmp_ne (tgt := 59) hx hb dX4_computeWithRegister_36 (by decide) (fun c_36 => ?_) (fun c_36 => ?_)
    · refine lv_iload_n hx hb dX4_computeWithRegister_59 rfl (lv_at hl 0 rfl) ?_
      refine lv_bipush (v := 32) hx hb dX4_computeWithRegister_60 (by decide) ?_
      refine lv_icmp_ne (tgt := 86) hx hb dX4_computeWithRegister_62 (by decide) (fun c_62 => ?_) (fun c_62 => ?_)
      · refine lv_iload_n hx hb dX4_computeWithRegister_86 rfl (lv_at hl 0 rfl) ?_
        refine lv_bipush (v := 32) hx hb dX4_computeWithRegister_87 (by decide) ?_
        refine lv_icmp_ne (tgt := 117) hx hb dX4_computeWithRegister_89 (by decide) (fun _ => ?_) (fun h9 => absurd h9 c_62)
        refine lv_aload_n hx hb dX4_computeWithRegister_117 rfl (lv_at hl 2 rfl) ?_
        refine lv_iload_n hx hb dX4_computeWithRegister_118 rfl (lv_at hl 3 rfl) ?_
        refine k_mi (w := wD aH aM aW aC aR iW iR) wD_ad (va_runV (As := [.int p0]) (rest := []) ⟨hx, hb, hml, hown, hB⟩ (mX4_unknown l dC dI aH aM aW aC aR iW iR s.heap.size x p0) (cwV 1 hB (gV q_t2_58 q_t2_60 q_s_17 q_t1_1 wX4_unknown) rfl rfl rfl hX4_unknown ⟨Nat.le_of_ble_eq_true rfl, Nat.le_of_ble_eq_true rfl⟩) ⟨kM_blind NW_blind, va_recv hK hP (ci := 2) (q0 := 0) rfl rfl, kM_pre NW_warm hP hK hD hN⟩ rfl rfl hl.1 rfl (lv_room (Nat.le_of_ble_eq_true rfl)) dX4_computeWithRegister_119 ⟨Nat.zero_le _, Nat.zero_le _⟩) hD hS hA (fun r u H locs hw hP hD hS => ?_)
        obtain ⟨rfl, rfl⟩ := hw
        exact W.zret (v := bi (fX4_unknown p0 x).1) hx hb hr (bi_nar _) (fun t ht hW => ⟨⟨bi (fX4_unknown p0 x).1, ((fX4_unknown p0 x).2), rfl, ⟨(by unfold fX4_computeWithRegister; rw [if_neg c_11, if_neg c_36, if_neg c_62] <;> rfl), (by unfold fX4_computeWithRegister; rw [if_neg c_11, if_neg c_36, if_neg c_62] <;> rfl)⟩, hpT ht hP⟩, hS.F ht⟩) hS.2.2 dX4_computeWithRegister_122
      · refine lv_iload_n hx hb dX4_computeWithRegister_65 rfl (lv_at hl 1 rfl) ?_
        refine lv_if_ne (tgt := 86) hx hb dX4_computeWithRegister_66 (by decide) (fun c_66 => ?_) (fun c_66 => ?_)
        · refine lv_iload_n hx hb dX4_computeWithRegister_86 rfl (lv_at hl 0 rfl) ?_
          refine lv_bipush (v := 32) hx hb dX4_computeWithRegister_87 (by decide) ?_
          refine lv_icmp_ne (tgt := 117) hx hb dX4_computeWithRegister_89 (by decide) (fun h9 => absurd c_62 h9) (fun _ => ?_)
          refine lv_iload_n hx hb dX4_computeWithRegister_92 rfl (lv_at hl 1 rfl) ?_
          refine lv_iconst (v := 5) hx hb dX4_computeWithRegister_93 (by decide) ?_
          refine lv_icmp_ne (tgt := 117) hx hb dX4_computeWithRegister_94 (by decide) (fun c_94 => ?_) (fun c_94 => ?_)
          · refine lv_aload_n hx hb dX4_computeWithRegister_117 rfl (lv_at hl 2 rfl) ?_
            refine lv_iload_n hx hb dX4_computeWithRegister_118 rfl (lv_at hl 3 rfl) ?_
            refine k_mi (w := wD aH aM aW aC aR iW iR) wD_ad (va_runV (As := [.int p0]) (rest := []) ⟨hx, hb, hml, hown, hB⟩ (mX4_unknown l dC dI aH aM aW aC aR iW iR s.heap.size x p0) (cwV 1 hB (gV q_t2_58 q_t2_60 q_s_17 q_t1_1 wX4_unknown) rfl rfl rfl hX4_unknown ⟨Nat.le_of_ble_eq_true rfl, Nat.le_of_ble_eq_true rfl⟩) ⟨kM_blind NW_blind, va_recv hK hP (ci := 2) (q0 := 0) rfl rfl, kM_pre NW_warm hP hK hD hN⟩ rfl rfl hl.1 rfl (lv_room (Nat.le_of_ble_eq_true rfl)) dX4_computeWithRegister_119 ⟨Nat.zero_le _, Nat.zero_le _⟩) hD hS hA (fun r u H locs hw hP hD hS => ?_)
            obtain ⟨rfl, rfl⟩ := hw
            exact W.zret (v := bi (fX4_unknown p0 x).1) hx hb hr (bi_nar _) (fun t ht hW => ⟨⟨bi (fX4_unknown p0 x).1, ((fX4_unknown p0 x).2), rfl, ⟨(by unfold fX4_computeWithRegister; rw [if_neg c_11, if_neg c_36, if_pos c_62, if_neg c_66, if_neg c_94] <;> rfl), (by unfold fX4_computeWithRegister; rw [if_neg c_11, if_neg c_36, if_pos c_62, if_neg c_66, if_neg c_94] <;> rfl)⟩, hpT ht hP⟩, hS.F ht⟩) hS.2.2 dX4_computeWithRegister_122
          · refine lv_aload_n hx hb dX4_computeWithRegister_97 rfl (lv_at hl 2 rfl) ?_
            refine lv_iload_n hx hb dX4_computeWithRegister_98 rfl (lv_at hl 3 rfl) ?_
            refine lv_aload_n hx hb dX4_computeWithRegister_99 rfl (lv_at hl 2 rfl) ?_
            refine lv_iload_n hx hb dX4_computeWithRegister_100 rfl (lv_at hl 3 rfl) ?_
            refine k_ri (va_runV (As := [.int p0]) (rest := [.int p0, .ref aH]) ⟨hx, hb, hml, hown, hB⟩ (mX4_valueA l dC dI aH aM aW aC aR iW iR x p0) (cwV 1 hB (gV q_t2_62 q_t2_64 q_s_18 q_t1_1 wX4_valueA) rfl rfl rfl hX4_valueA ⟨Nat.le_of_ble_eq_true rfl, Nat.le_of_ble_eq_true rfl⟩) ⟨kP_blind NW_blind, va_recv hK hP (ci := 2) (q0 := 0) rfl rfl, kP_pre NW_warm hP hK hN⟩ rfl rfl hl.1 rfl (lv_room (Nat.le_of_ble_eq_true rfl)) dX4_computeWithRegister_101 ⟨Nat.zero_le _, Nat.zero_le _⟩) ?_
            refine lv_aload_n hx hb dX4_computeWithRegister_104 rfl (lv_at hl 2 rfl) ?_
            refine lv_iload_n hx hb dX4_computeWithRegister_105 rfl (lv_at hl 3 rfl) ?_
            refine k_ri (va_runV (As := [.int p0]) (rest := [.int (fX4_valueA p0 x), .int p0, .ref aH]) ⟨hx, hb, hml, hown, hB⟩ (mX4_valueB l dC dI aH aM aW aC aR iW iR x p0) (cwV 1 hB (gV q_t2_80 q_t2_82 q_s_21 q_t1_1 wX4_valueB) rfl rfl rfl hX4_valueB ⟨Nat.le_of_ble_eq_true rfl, Nat.le_of_ble_eq_true rfl⟩) ⟨kP_blind NW_blind, va_recv hK hP (ci := 2) (q0 := 0) rfl rfl, kP_pre NW_warm hP hK hN⟩ rfl rfl hl.1 rfl (lv_room (Nat.le_of_ble_eq_true rfl)) dX4_computeWithRegister_106 ⟨Nat.zero_le _, Nat.zero_le _⟩) ?_
            refine lv_bipush (v := 31) hx hb dX4_computeWithRegister_109 (by decide) ?_
            refine lv_iand hx hb dX4_computeWithRegister_111 ?_
            refine lv_ishr hx hb dX4_computeWithRegister_112 ?_
            refine k_mi (w := wD aH aM aW aC aR iW iR) wD_ad (va_runV (As := [.int p0, .int ((fX4_valueA p0 x) >>> (((fX4_valueB p0 x) &&& (31 : Int32)) &&& 31))]) (rest := []) ⟨hx, hb, hml, hown, hB⟩ (mX4_goOnWith l dC dI aH aM aW aC aR iW iR s.heap.size x p0 ((fX4_valueA p0 x) >>> (((fX4_valueB p0 x) &&& (31 : Int32)) &&& 31))) (cwV 2 hB (gV q_t2_33 q_t2_35 q_s_13 q_t1_1 wX4_goOnWith) rfl rfl rfl hX4_goOnWith ⟨Nat.le_of_ble_eq_true rfl, Nat.le_of_ble_eq_true rfl⟩) ⟨kM_blind NW_blind, va_recv hK hP (ci := 2) (q0 := 0) rfl rfl, kM_pre NW_warm hP hK hD hN⟩ rfl rfl hl.1 rfl (lv_room (Nat.le_of_ble_eq_true rfl)) dX4_computeWithRegister_113 ⟨Nat.zero_le _, Nat.zero_le _⟩) hD hS hA (fun r u H locs hw hP hD hS => ?_)
            obtain ⟨rfl, rfl⟩ := hw
            exact W.zret (v := bi (fX4_goOnWith p0 ((fX4_valueA p0 x) >>> (((fX4_valueB p0 x) &&& (31 : Int32)) &&& 31)) x).1) hx hb hr (bi_nar _) (fun t ht hW => ⟨⟨bi (fX4_goOnWith p0 ((fX4_valueA p0 x) >>> (((fX4_valueB p0 x) &&& (31 : Int32)) &&& 31)) x).1, ((fX4_goOnWith p0 ((fX4_valueA p0 x) >>> (((fX4_valueB p0 x) &&& (31 : Int32)) &&& 31)) x).2), rfl, ⟨(by unfold fX4_computeWithRegister; rw [if_neg c_11, if_neg c_36, if_pos c_62, if_neg c_66, if_pos c_94] <;> rfl), (by unfold fX4_computeWithRegister; rw [if_neg c_11, if_neg c_36, if_pos c_62, if_neg c_66, if_pos c_94] <;> rfl)⟩, hpT ht hP⟩, hS.F ht⟩) hS.2.2 dX4_computeWithRegister_116
        · refine lv_aload_n hx hb dX4_computeWithRegister_69 rfl (lv_at hl 2 rfl) ?_
          refine lv_iload_n hx hb dX4_computeWithRegister_70 rfl (lv_at hl 3 rfl) ?_
          refine lv_aload_n hx hb dX4_computeWithRegister_71 rfl (lv_at hl 2 rfl) ?_
          refine lv_iload_n hx hb dX4_computeWithRegister_72 rfl (lv_at hl 3 rfl) ?_
          refine k_ri (va_runV (As := [.int p0]) (rest := [.int p0, .ref aH]) ⟨hx, hb, hml, hown, hB⟩ (mX4_valueA l dC dI aH aM aW aC aR iW iR x p0) (cwV 1 hB (gV q_t2_62 q_t2_64 q_s_18 q_t1_1 wX4_valueA) rfl rfl rfl hX4_valueA ⟨Nat.le_of_ble_eq_true rfl, Nat.le_of_ble_eq_true rfl⟩) ⟨kP_blind NW_blind, va_recv hK hP (ci := 2) (q0 := 0) rfl rfl, kP_pre NW_warm hP hK hN⟩ rfl rfl hl.1 rfl (lv_room (Nat.le_of_ble_eq_true rfl)) dX4_computeWithRegister_73 ⟨Nat.zero_le _, Nat.zero_le _⟩) ?_
          refine lv_aload_n hx hb dX4_computeWithRegister_76 rfl (lv_at hl 2 rfl) ?_
          refine lv_iload_n hx hb dX4_computeWithRegister_77 rfl (lv_at hl 3 rfl) ?_
          refine k_ri (va_runV (As := [.int p0]) (rest := [.int (fX4_valueA p0 x), .int p0, .ref aH]) ⟨hx, hb, hml, hown, hB⟩ (mX4_valueB l dC dI aH aM aW aC aR iW iR x p0) (cwV 1 hB (gV q_t2_80 q_t2_82 q_s_21 q_t1_1 wX4_valueB) rfl rfl rfl hX4_valueB ⟨Nat.le_of_ble_eq_true rfl, Nat.le_of_ble_eq_true rfl⟩) ⟨kP_blind NW_blind, va_recv hK hP (ci := 2) (q0 := 0) rfl rfl, kP_pre NW_warm hP hK hN⟩ rfl rfl hl.1 rfl (lv_room (Nat.le_of_ble_eq_true rfl)) dX4_computeWithRegister_78 ⟨Nat.zero_le _, Nat.zero_le _⟩) ?_
          refine lv_isub hx hb dX4_computeWithRegister_81 ?_
          refine k_mi (w := wD aH aM aW aC aR iW iR) wD_ad (va_runV (As := [.int p0, .int ((fX4_valueA p0 x) - (fX4_valueB p0 x))]) (rest := []) ⟨hx, hb, hml, hown, hB⟩ (mX4_goOnWith l dC dI aH aM aW aC aR iW iR s.heap.size x p0 ((fX4_valueA p0 x) - (fX4_valueB p0 x))) (cwV 2 hB (gV q_t2_33 q_t2_35 q_s_13 q_t1_1 wX4_goOnWith) rfl rfl rfl hX4_goOnWith ⟨Nat.le_of_ble_eq_true rfl, Nat.le_of_ble_eq_true rfl⟩) ⟨kM_blind NW_blind, va_recv hK hP (ci := 2) (q0 := 0) rfl rfl, kM_pre NW_warm hP hK hD hN⟩ rfl rfl hl.1 rfl (lv_room (Nat.le_of_ble_eq_true rfl)) dX4_computeWithRegister_82 ⟨Nat.zero_le _, Nat.zero_le _⟩) hD hS hA (fun r u H locs hw hP hD hS => ?_)
          obtain ⟨rfl, rfl⟩ := hw
          exact W.zret (v := bi (fX4_goOnWith p0 ((fX4_valueA p0 x) - (fX4_valueB p0 x)) x).1) hx hb hr (bi_nar _) (fun t ht hW => ⟨⟨bi (fX4_goOnWith p0 ((fX4_valueA p0 x) - (fX4_valueB p0 x)) x).1, ((fX4_goOnWith p0 ((fX4_valueA p0 x) - (fX4_valueB p0 x)) x).2), rfl, ⟨(by unfold fX4_computeWithRegister; rw [if_neg c_11, if_neg c_36, if_pos c_62, if_pos c_66] <;> rfl), (by unfold fX4_computeWithRegister; rw [if_neg c_11, if_neg c_36, if_pos c_62, if_pos c_66] <;> rfl)⟩, hpT ht hP⟩, hS.F ht⟩) hS.2.2 dX4_computeWithRegister_85
    · refine lv_aload_n hx hb dX4_computeWithRegister_39 rfl (lv_at hl 2 rfl) ?_
      refine lv_iload_n hx hb dX4_computeWithRegister_40 rfl (lv_at hl 3 rfl) ?_
      refine lv_iload_n hx hb dX4_computeWithRegister_41 rfl (lv_at hl 1 rfl) ?_
      refine lv_aload_n hx hb dX4_computeWithRegister_42 rfl (lv_at hl 2 rfl) ?_
      refine lv_iload_n hx hb dX4_computeWithRegister_43 rfl (lv_at hl 3 rfl) ?_
      refine k_ri (va_runV (As := [.int p0]) (rest := [.int (fX1_f p0), .int p0, .ref aH]) ⟨hx, hb, hml, hown, hB⟩ (mX4_valueA l dC dI aH aM aW aC aR iW iR x p0) (cwV 1 hB (gV q_t2_62 q_t2_64 q_s_18 q_t1_1 wX4_valueA) rfl rfl rfl hX4_valueA ⟨Nat.le_of_ble_eq_true rfl, Nat.le_of_ble_eq_true rfl⟩) ⟨kP_blind NW_blind, va_recv hK hP (ci := 2) (q0 := 0) rfl rfl, kP_pre NW_warm hP hK hN⟩ rfl rfl hl.1 rfl (lv_room (Nat.le_of_ble_eq_true rfl)) dX4_computeWithRegister_44 ⟨Nat.zero_le _, Nat.zero_le _⟩) ?_
      refine lv_aload_n hx hb dX4_computeWithRegister_47 rfl (lv_at hl 2 rfl) ?_
      refine lv_iload_n hx hb dX4_computeWithRegister_48 rfl (lv_at hl 3 rfl) ?_
      refine k_ri (va_runV (As := [.int p0]) (rest := [.int (fX4_valueA p0 x), .int (fX1_f p0), .int p0, .ref aH]) ⟨hx, hb, hml, hown, hB⟩ (mX4_valueB l dC dI aH aM aW aC aR iW iR x p0) (cwV 1 hB (gV q_t2_80 q_t2_82 q_s_21 q_t1_1 wX4_valueB) rfl rfl rfl hX4_valueB ⟨Nat.le_of_ble_eq_true rfl, Nat.le_of_ble_eq_true rfl⟩) ⟨kP_blind NW_blind, va_recv hK hP (ci := 2) (q0 := 0) rfl rfl, kP_pre NW_warm hP hK hN⟩ rfl rfl hl.1 rfl (lv_room (Nat.le_of_ble_eq_true rfl)) dX4_computeWithRegister_49 ⟨Nat.zero_le _, Nat.zero_le _⟩) ?_
      refine k_ri (va_runSN (As := [.int (fX1_f p0), .int (fX4_valueA p0 x), .int (fX4_valueB p0 x)]) (rest := [.int p0, .ref aH]) ⟨hx, hb, hml, hown, hB⟩ (mX0_productOrQuotient l (fX1_f p0) (fX4_valueA p0 x) (fX4_valueB p0 x)) ⟨va_cnB 3 hB (good_in wX0_productOrQuotient) rfl rfl rfl (hN _ (List.mem_of_getElem? (i := 23) rfl)) (hB _ q_t1_11) hX0_productOrQuotient.2 ⟨Nat.le_of_ble_eq_true rfl, Nat.le_of_ble_eq_true rfl⟩, hB _ q_t2_144, trivial⟩ ⟨fun _ _ _ _ q => q, fun U _ _ => ⟨rfl, trivial⟩⟩ rfl rfl hl.1 rfl (lv_room (Nat.le_of_ble_eq_true rfl)) dX4_computeWithRegister_52 ⟨Nat.zero_le _, Nat.zero_le _⟩) ?_
      refine k_mi (w := wD aH aM aW aC aR iW iR) wD_ad (va_runV (As := [.int p0, .int (fX0_productOrQuotient (fX1_f p0) (fX4_valueA p0 x) (fX4_valueB p0 x))]) (rest := []) ⟨hx, hb, hml, hown, hB⟩ (mX4_goOnWith l dC dI aH aM aW aC aR iW iR s.heap.size x p0 (fX0_productOrQuotient (fX1_f p0) (fX4_valueA p0 x) (fX4_valueB p0 x))) (cwV 2 hB (gV q_t2_33 q_t2_35 q_s_13 q_t1_1 wX4_goOnWith) rfl rfl rfl hX4_goOnWith ⟨Nat.le_of_ble_eq_true rfl, Nat.le_of_ble_eq_true rfl⟩) ⟨kM_blind NW_blind, va_recv hK hP (ci := 2) (q0 := 0) rfl rfl, kM_pre NW_warm hP hK hD hN⟩ rfl rfl hl.1 rfl (lv_room (Nat.le_of_ble_eq_true rfl)) dX4_computeWithRegister_55 ⟨Nat.zero_le _, Nat.zero_le _⟩) hD hS hA (fun r u H locs hw hP hD hS => ?_)
      obtain ⟨rfl, rfl⟩ := hw
      exact W.zret (v := bi (fX4_goOnWith p0 (fX0_productOrQuotient (fX1_f p0) (fX4_valueA p0 x) (fX4_valueB p0 x)) x).1) hx hb hr (bi_nar _) (fun t ht hW => ⟨⟨bi (fX4_goOnWith p0 (fX0_productOrQuotient (fX1_f p0) (fX4_valueA p0 x) (fX4_valueB p0 x)) x).1, ((fX4_goOnWith p0 (fX0_productOrQuotient (fX1_f p0) (fX4_valueA p0 x) (fX4_valueB p0 x)) x).2), rfl, ⟨(by unfold fX4_computeWithRegister; rw [if_neg c_11, if_pos c_36] <;> rfl), (by unfold fX4_computeWithRegister; rw [if_neg c_11, if_pos c_36] <;> rfl)⟩, hpT ht hP⟩, hS.F ht⟩) hS.2.2 dX4_computeWithRegister_58
  · refine lv_aload_n hx hb dX4_computeWithRegister_14 rfl (lv_at hl 2 rfl) ?_
    refine lv_iload_n hx hb dX4_computeWithRegister_15 rfl (lv_at hl 3 rfl) ?_
    refine lv_iload_n hx hb dX4_computeWithRegister_16 rfl (lv_at hl 1 rfl) ?_
    refine lv_aload_n hx hb dX4_computeWithRegister_17 rfl (lv_at hl 2 rfl) ?_
    refine lv_iload_n hx hb dX4_computeWithRegister_18 rfl (lv_at hl 3 rfl) ?_
    refine k_ri (va_runV (As := [.int p0]) (rest := [.int (fX1_f p0), .int p0, .ref aH]) ⟨hx, hb, hml, hown, hB⟩ (mX4_valueA l dC dI aH aM aW aC aR iW iR x p0) (cwV 1 hB (gV q_t2_62 q_t2_64 q_s_18 q_t1_1 wX4_valueA) rfl rfl rfl hX4_valueA ⟨Nat.le_of_ble_eq_true rfl, Nat.le_of_ble_eq_true rfl⟩) ⟨kP_blind NW_blind, va_recv hK hP (ci := 2) (q0 := 0) rfl rfl, kP_pre NW_warm hP hK hN⟩ rfl rfl hl.1 rfl (lv_room (Nat.le_of_ble_eq_true rfl)) dX4_computeWithRegister_19 ⟨Nat.zero_le _, Nat.zero_le _⟩) ?_
    refine lv_aload_n hx hb dX4_computeWithRegister_22 rfl (lv_at hl 2 rfl) ?_
    refine lv_iload_n hx hb dX4_computeWithRegister_23 rfl (lv_at hl 3 rfl) ?_
    refine k_ri (va_runV (As := [.int p0]) (rest := [.int (fX4_valueA p0 x), .int (fX1_f p0), .int p0, .ref aH]) ⟨hx, hb, hml, hown, hB⟩ (mX4_valueB l dC dI aH aM aW aC aR iW iR x p0) (cwV 1 hB (gV q_t2_80 q_t2_82 q_s_21 q_t1_1 wX4_valueB) rfl rfl rfl hX4_valueB ⟨Nat.le_of_ble_eq_true rfl, Nat.le_of_ble_eq_true rfl⟩) ⟨kP_blind NW_blind, va_recv hK hP (ci := 2) (q0 := 0) rfl rfl, kP_pre NW_warm hP hK hN⟩ rfl rfl hl.1 rfl (lv_room (Nat.le_of_ble_eq_true rfl)) dX4_computeWithRegister_24 ⟨Nat.zero_le _, Nat.zero_le _⟩) ?_
    refine k_ri (va_runSN (As := [.int (fX1_f p0), .int (fX4_valueA p0 x), .int (fX4_valueB p0 x)]) (rest := [.int p0, .ref aH]) ⟨hx, hb, hml, hown, hB⟩ (mX0_basic l (fX1_f p0) (fX4_valueA p0 x) (fX4_valueB p0 x)) ⟨va_cnB 3 hB (good_in wX0_basic) rfl rfl rfl (hN _ (List.mem_of_getElem? (i := 22) rfl)) (hB _ q_t1_11) hX0_basic.2 ⟨Nat.le_of_ble_eq_true rfl, Nat.le_of_ble_eq_true rfl⟩, hB _ q_t2_137, trivial⟩ ⟨fun _ _ _ _ q => q, fun U _ _ => ⟨rfl, trivial⟩⟩ rfl rfl hl.1 rfl (lv_room (Nat.le_of_ble_eq_true rfl)) dX4_computeWithRegister_27 ⟨Nat.zero_le _, Nat.zero_le _⟩) ?_
    refine k_mi (w := wD aH aM aW aC aR iW iR) wD_ad (va_runV (As := [.int p0, .int (fX0_basic (fX1_f p0) (fX4_valueA p0 x) (fX4_valueB p0 x))]) (rest := []) ⟨hx, hb, hml, hown, hB⟩ (mX4_goOnWith l dC dI aH aM aW aC aR iW iR s.heap.size x p0 (fX0_basic (fX1_f p0) (fX4_valueA p0 x) (fX4_valueB p0 x))) (cwV 2 hB (gV q_t2_33 q_t2_35 q_s_13 q_t1_1 wX4_goOnWith) rfl rfl rfl hX4_goOnWith ⟨Nat.le_of_ble_eq_true rfl, Nat.le_of_ble_eq_true rfl⟩) ⟨kM_blind NW_blind, va_recv hK hP (ci := 2) (q0 := 0) rfl rfl, kM_pre NW_warm hP hK hD hN⟩ rfl rfl hl.1 rfl (lv_room (Nat.le_of_ble_eq_true rfl)) dX4_computeWithRegister_30 ⟨Nat.zero_le _, Nat.zero_le _⟩) hD hS hA (fun r u H locs hw hP hD hS => ?_)
    obtain ⟨rfl, rfl⟩ := hw
    exact W.zret (v := bi (fX4_goOnWith p0 (fX0_basic (fX1_f p0) (fX4_valueA p0 x) (fX4_valueB p0 x)) x).1) hx hb hr (bi_nar _) (fun t ht hW => ⟨⟨bi (fX4_goOnWith p0 (fX0_basic (fX1_f p0) (fX4_valueA p0 x) (fX4_valueB p0 x)) x).1, ((fX4_goOnWith p0 (fX0_basic (fX1_f p0) (fX4_valueA p0 x) (fX4_valueB p0 x)) x).2), rfl, ⟨(by unfold fX4_computeWithRegister; rw [if_pos c_11] <;> rfl), (by unfold fX4_computeWithRegister; rw [if_pos c_11] <;> rfl)⟩, hpT ht hP⟩, hS.F ht⟩) hS.2.2 dX4_computeWithRegister_33
end
section
def fX4_exchangeControl (p0 : Int32) (x : St) : Bool × St := if ((fX1_f p0) &&& (3 : Int32)) = (1 : Int32) then
    if (fX1_f p0) = (4 : Int32) then
      ((fX4_unknown p0 x).1, (fX4_unknown p0 x).2)
    else
      if (bi (fX2_isWritable (fX1_controlNumber p0))) = 0 then
        ((fX4_unknown p0 x).1, (fX4_unknown p0 x).2)
      else
        if (fX1_f p0) ≤ (4 : Int32) then
          ((fX4_goOnWith p0 (fX2_read (fX1_controlNumber p0) x) (fX2_write (fX1_controlNumber p0) (fX0_exchanged ((fX1_f p0) &&& (3 : Int32)) (fX2_read (fX1_controlNumber p0) x) (fX4_valueA p0 x)) x)).1, (fX4_goOnWith p0 (fX2_read (fX1_controlNumber p0) x) (fX2_write (fX1_controlNumber p0) (fX0_exchanged ((fX1_f p0) &&& (3 : Int32)) (fX2_read (fX1_controlNumber p0) x) (fX4_valueA p0 x)) x)).2)
        else
          ((fX4_goOnWith p0 (fX2_read (fX1_controlNumber p0) x) (fX2_write (fX1_controlNumber p0) (fX0_exchanged ((fX1_f p0) &&& (3 : Int32)) (fX2_read (fX1_controlNumber p0) x) (fX1_a p0)) x)).1, (fX4_goOnWith p0 (fX2_read (fX1_controlNumber p0) x) (fX2_write (fX1_controlNumber p0) (fX0_exchanged ((fX1_f p0) &&& (3 : Int32)) (fX2_read (fX1_controlNumber p0) x) (fX1_a p0)) x)).2)
  else
    if (fX1_a p0) = 0 then
      if (fX1_f p0) = (4 : Int32) then
        ((fX4_unknown p0 x).1, (fX4_unknown p0 x).2)
      else
        if (bi (fX2_isKnown (fX1_controlNumber p0))) = 0 then
          ((fX4_unknown p0 x).1, (fX4_unknown p0 x).2)
        else
          ((fX4_goOnWith p0 (fX2_read (fX1_controlNumber p0) x) x).1, (fX4_goOnWith p0 (fX2_read (fX1_controlNumber p0) x) x).2)
    else
      if (fX1_f p0) = (4 : Int32) then
        ((fX4_unknown p0 x).1, (fX4_unknown p0 x).2)
      else
        if (bi (fX2_isWritable (fX1_controlNumber p0))) = 0 then
          ((fX4_unknown p0 x).1, (fX4_unknown p0 x).2)
        else
          if (fX1_f p0) ≤ (4 : Int32) then
            ((fX4_goOnWith p0 (fX2_read (fX1_controlNumber p0) x) (fX2_write (fX1_controlNumber p0) (fX0_exchanged ((fX1_f p0) &&& (3 : Int32)) (fX2_read (fX1_controlNumber p0) x) (fX4_valueA p0 x)) x)).1, (fX4_goOnWith p0 (fX2_read (fX1_controlNumber p0) x) (fX2_write (fX1_controlNumber p0) (fX0_exchanged ((fX1_f p0) &&& (3 : Int32)) (fX2_read (fX1_controlNumber p0) x) (fX4_valueA p0 x)) x)).2)
          else
            ((fX4_goOnWith p0 (fX2_read (fX1_controlNumber p0) x) (fX2_write (fX1_controlNumber p0) (fX0_exchanged ((fX1_f p0) &&& (3 : Int32)) (fX2_read (fX1_controlNumber p0) x) (fX1_a p0)) x)).1, (fX4_goOnWith p0 (fX2_read (fX1_controlNumber p0) x) (fX2_write (fX1_controlNumber p0) (fX0_exchanged ((fX1_f p0) &&& (3 : Int32)) (fX2_read (fX1_controlNumber p0) x) (fX1_a p0)) x)).2)
set_option maxHeartbeats 4000000 in
set_option maxRecDepth 100000 in
theorem mX4_exchangeControl (l : Launch) (dC : Nat → ClassId) (dI : Nat → Nat → Nat) (aH aM aW aC aR iW iR : Nat) (sz : Nat) (x : St) (p0 : Int32) : Met l yX4_exchangeControl wsX4_exchangeControl ({ frames := 3, cells := 0, slots := 0, locals := 66 }) (va_Pc [.ref aH, .int p0] (kM (dC, dI) [(iW, .int), (iR, .int)] NW (wD aH aM aW aC aR iW iR x) sz)) (va_Qi (fun r u => r = bi (fX4_exchangeControl p0 x).1 ∧ u = (fX4_exchangeControl p0 x).2) (fun u t => va_P (dC, dI) vwCl (wD aH aM aW aC aR iW iR u) t.heap) (va_A (wD aH aM aW aC aR iW iR x) sz)) 0 0 (va_A (wD aH aM aW aC aR iW iR x) sz) := by
  refine Met.ofW (cc := cX4_exchangeControl) (maxL := 8) (ret := (some .boolean)) (by decide) rfl ?_
  intro p e s m args below meth c s₁ B hml hv
  obtain ⟨rfl, hsz, hD0, hP, hK, hN⟩ := hv
  have hx := B.exec
  have hb := B.bytes
  have hr := B.returns
  have hB := fun (w : Cond) (h : w ∈ BIG) => atoms_spec (ws := wsX4_exchangeControl) B.pre w (List.mem_cons_of_mem _ h)
  have hown : s.vm.findClass RX4 = some m.cls := findClass_of_methodNamed B.named
  have hlocks := B.notSynchronized
  subst hsz
  have hD := hD0.self (sz := s.heap.size)
  generalize hAe : va_A (wD aH aM aW aC aR iW iR x) s.heap.size = A at hD ⊢
  have hA : ∀ q : Nat, s.heap.size ≤ q → A q := fun q h => by rw [← hAe]; exact Or.inr h
  have hS : va_S A s.heap s.heap [] := va_S.rf
  have hl := lv_entry ([.ref aH, .int p0]) (n := 8) (Nat.le_of_ble_eq_true rfl)
  rw [lg_entry_eq]
  generalize (lg_sl ([.ref aH, .int p0]) ++ List.replicate (8 - (lg_sl ([.ref aH, .int p0])).length) Slot.unset).toArray = ls at hl ⊢
  have hl : lv_has ls 8 [(0, .ref aH), (1, .int p0)] := hl
  refine lv_iload_n hx hb dX4_exchangeControl_0 rfl (lv_at hl 1 rfl) ?_
  refine k_ri (va_runSN (As := [.int p0]) (rest := []) ⟨hx, hb, hml, hown, hB⟩ (mX1_f l p0) ⟨va_cnB 1 hB (good_in wX1_f) rfl rfl rfl (hN _ (List.mem_of_getElem? (i := 5) rfl)) (hB _ q_t1_10) hX1_f.2 ⟨Nat.le_of_ble_eq_true rfl, Nat.le_of_ble_eq_true rfl⟩, hB _ q_t2_56, trivial⟩ ⟨fun _ _ _ _ q => q, fun U _ _ => ⟨rfl, trivial⟩⟩ rfl rfl hl.1 rfl (lv_room (Nat.le_of_ble_eq_true rfl)) dX4_exchangeControl_1 ⟨Nat.zero_le _, Nat.zero_le _⟩) ?_
  refine lv_istore_n (lv' := [(2, .int (fX1_f p0)), (0, .ref aH), (1, .int p0)]) hx hb dX4_exchangeControl_4 rfl hl (by decide) rfl (fun ls hl => ?_)
  refine lv_iload_n hx hb dX4_exchangeControl_5 rfl (lv_at hl 2 rfl) ?_
  refine k_ri (va_runSN (As := [.int p0]) (rest := []) ⟨hx, hb, hml, hown, hB⟩ (mX1_controlNumber l p0) ⟨va_cnB 1 hB (good_in wX1_controlNumber) rfl rfl rfl (hN _ (List.mem_of_getElem? (i := 24) rfl)) (hB _ q_t1_10) hX1_controlNumber.2 ⟨Nat.le_of_ble_eq_true rfl, Nat.le_of_ble_eq_true rfl⟩, hB _ q_t2_165, trivial⟩ ⟨fun _ _ _ _ q => q, fun U _ _ => ⟨rfl, trivial⟩⟩ rfl rfl hl.1 rfl (lv_room (Nat.le_of_ble_eq_true rfl)) dX4_exchangeControl_6 ⟨Nat.zero_le _, Nat.zero_le _⟩) ?_
  refine lv_istore_n (lv' := [(3, .int (fX1_controlNumber p0)), (2, .int (fX1_f p0)), (0, .ref aH), (1, .int p0)]) hx hb dX4_exchangeControl_9 rfl hl (by decide) rfl (fun ls hl => ?_)
  refine lv_iload_n hx hb dX4_exchangeControl_10 rfl (lv_at hl 1 rfl) ?_
  refine lv_iconst (v := 3) hx hb dX4_exchangeControl_11 (by decide) ?_
  refine lv_iand hx hb dX4_exchangeControl_12 ?_
  refine lv_iconst (v := 1) hx hb dX4_exchangeControl_13 (by decide) ?_
  refine lv_icmp_eq (tgt := 24) hx hb dX4_exchangeControl_14 (by decide) (fun c_14 => ?_) (fun c_14 => ?_)
  · refine lv_iconst (v := 1) hx hb dX4_exchangeControl_24 (by decide) ?_
    refine lv_goto (tgt := 29) hx hb dX4_exchangeControl_25 (by decide) ?_
    refine lv_istore (lv' := [(4, .int (1 : Int32)), (3, .int (fX1_controlNumber p0)), (2, .int (fX1_f p0)), (0, .ref aH), (1, .int p0)]) hx hb dX4_exchangeControl_29 hl (by decide) rfl (fun ls hl => ?_)
    refine lv_iload hx hb dX4_exchangeControl_31 (lv_at hl 0 rfl) ?_
    refine lv_if_eq (tgt := 43) hx hb dX4_exchangeControl_33 (by decide) (fun h9 => absurd h9 (by decide)) (fun _ => ?_)
    refine lv_iload_n hx hb dX4_exchangeControl_36 rfl (lv_at hl 1 rfl) ?_
    refine k_ri (va_runSN (As := [.int (fX1_controlNumber p0)]) (rest := []) ⟨hx, hb, hml, hown, hB⟩ (mX2_isWritable l (fX1_controlNumber p0)) ⟨va_cnB 1 hB (good_in wX2_isWritable) rfl rfl rfl (hN _ (List.mem_of_getElem? (i := 25) rfl)) (hB _ q_t1_3) hX2_isWritable.2 ⟨Nat.le_of_ble_eq_true rfl, Nat.le_of_ble_eq_true rfl⟩, hB _ q_t2_168, trivial⟩ ⟨fun _ _ _ _ q => q, fun U _ _ => ⟨rfl, trivial⟩⟩ rfl rfl hl.1 rfl (lv_room (Nat.le_of_ble_eq_true rfl)) dX4_exchangeControl_37 ⟨Nat.zero_le _, Nat.zero_le _⟩) ?_
    refine lv_goto (tgt := 47) hx hb dX4_exchangeControl_40 (by decide) ?_
    refine lv_istore (lv' := [(5, .int (bi (fX2_isWritable (fX1_controlNumber p0)))), (4, .int (1 : Int32)), (3, .int (fX1_controlNumber p0)), (2, .int (fX1_f p0)), (0, .ref aH), (1, .int p0)]) hx hb dX4_exchangeControl_47 hl (by decide) rfl (fun ls hl => ?_)
    refine lv_iload_n hx hb dX4_exchangeControl_49 rfl (lv_at hl 3 rfl) ?_
    refine lv_iconst (v := 4) hx hb dX4_exchangeControl_50 (by decide) ?_
    refine lv_icmp_eq (tgt := 59) hx hb dX4_exchangeControl_51 (by decide) (fun c_51 => ?_) (fun c_51 => ?_)
    · refine lv_aload_n hx hb dX4_exchangeControl_59 rfl (lv_at hl 4 rfl) ?_
      refine lv_iload_n hx hb dX4_exchangeControl_60 rfl (lv_at hl 5 rfl) ?_
      refine k_mi (w := wD aH aM aW aC aR iW iR) wD_ad (va_runV (As := [.int p0]) (rest := []) ⟨hx, hb, hml, hown, hB⟩ (mX4_unknown l dC dI aH aM aW aC aR iW iR s.heap.size x p0) (cwV 1 hB (gV q_t2_58 q_t2_60 q_s_17 q_t1_1 wX4_unknown) rfl rfl rfl hX4_unknown ⟨Nat.le_of_ble_eq_true rfl, Nat.le_of_ble_eq_true rfl⟩) ⟨kM_blind NW_blind, va_recv hK hP (ci := 2) (q0 := 0) rfl rfl, kM_pre NW_warm hP hK hD hN⟩ rfl rfl hl.1 rfl (lv_room (Nat.le_of_ble_eq_true rfl)) dX4_exchangeControl_61 ⟨Nat.zero_le _, Nat.zero_le _⟩) hD hS hA (fun r u H locs hw hP hD hS => ?_)
      obtain ⟨rfl, rfl⟩ := hw
      exact W.zret (v := bi (fX4_unknown p0 x).1) hx hb hr (bi_nar _) (fun t ht hW => ⟨⟨bi (fX4_unknown p0 x).1, ((fX4_unknown p0 x).2), rfl, ⟨(by unfold fX4_exchangeControl; rw [if_pos c_14, if_pos c_51] <;> rfl), (by unfold fX4_exchangeControl; rw [if_pos c_14, if_pos c_51] <;> rfl)⟩, hpT ht hP⟩, hS.F ht⟩) hS.2.2 dX4_exchangeControl_64
    · refine lv_iload hx hb dX4_exchangeControl_54 (lv_at hl 0 rfl) ?_
      refine lv_if_ne (tgt := 65) hx hb dX4_exchangeControl_56 (by decide) (fun c_56 => ?_) (fun c_56 => ?_)
      · refine lv_aload_n hx hb dX4_exchangeControl_65 rfl (lv_at hl 4 rfl) ?_
        refine va_get (D := (dC, dI)) (ci := 2) (v := .ref aC) (C := RX4) (T := TX4) (N := 7) hx hb hB iX4 hown hK hP 0 rfl rfl 1 (by decide) (hB _ q_t1_71) (fun _ h9 => h9) rfl dX4_exchangeControl_66 ?_
        refine lv_iload_n hx hb dX4_exchangeControl_69 rfl (lv_at hl 2 rfl) ?_
        refine k_ri (va_runVN (As := [.int (fX1_controlNumber p0)]) (rest := []) ⟨hx, hb, hml, hown, hB⟩ (mX2_read l dC dI aH aM aW aC aR iW iR x (fX1_controlNumber p0)) ⟨va_cnB 1 hB (good_in wX2_read) rfl rfl rfl (hN _ (List.mem_of_getElem? (i := 26) rfl)) (hB _ q_t1_3) hX2_read.2 ⟨Nat.le_of_ble_eq_true rfl, Nat.le_of_ble_eq_true rfl⟩, hB _ q_t2_176, hB _ q_s_31⟩ ⟨kP_blind NW_blind, va_recv hK hP (ci := 0) (q0 := 3) rfl rfl, kP_pre NW_warm hP hK hN⟩ rfl rfl hl.1 rfl (lv_room (Nat.le_of_ble_eq_true rfl)) dX4_exchangeControl_70 ⟨Nat.zero_le _, Nat.zero_le _⟩) ?_
        refine lv_istore (lv' := [(6, .int (fX2_read (fX1_controlNumber p0) x)), (5, .int (bi (fX2_isWritable (fX1_controlNumber p0)))), (4, .int (1 : Int32)), (3, .int (fX1_controlNumber p0)), (2, .int (fX1_f p0)), (0, .ref aH), (1, .int p0)]) hx hb dX4_exchangeControl_73 hl (by decide) rfl (fun ls hl => ?_)
        refine lv_iload hx hb dX4_exchangeControl_75 (lv_at hl 2 rfl) ?_
        refine lv_if_eq (tgt := 117) hx hb dX4_exchangeControl_77 (by decide) (fun h9 => absurd h9 (by decide)) (fun _ => ?_)
        refine lv_iload_n hx hb dX4_exchangeControl_80 rfl (lv_at hl 4 rfl) ?_
        refine lv_iconst (v := 4) hx hb dX4_exchangeControl_81 (by decide) ?_
        refine lv_icmp_le (tgt := 92) hx hb dX4_exchangeControl_82 (by decide) (fun c_82 => ?_) (fun c_82 => ?_)
        · refine lv_aload_n hx hb dX4_exchangeControl_92 rfl (lv_at hl 5 rfl) ?_
          refine lv_iload_n hx hb dX4_exchangeControl_93 rfl (lv_at hl 6 rfl) ?_
          refine k_ri (va_runV (As := [.int p0]) (rest := []) ⟨hx, hb, hml, hown, hB⟩ (mX4_valueA l dC dI aH aM aW aC aR iW iR x p0) (cwV 1 hB (gV q_t2_62 q_t2_64 q_s_18 q_t1_1 wX4_valueA) rfl rfl rfl hX4_valueA ⟨Nat.le_of_ble_eq_true rfl, Nat.le_of_ble_eq_true rfl⟩) ⟨kP_blind NW_blind, va_recv hK hP (ci := 2) (q0 := 0) rfl rfl, kP_pre NW_warm hP hK hN⟩ rfl rfl hl.1 rfl (lv_room (Nat.le_of_ble_eq_true rfl)) dX4_exchangeControl_94 ⟨Nat.zero_le _, Nat.zero_le _⟩) ?_
          refine lv_istore (lv' := [(7, .int (fX4_valueA p0 x)), (6, .int (fX2_read (fX1_controlNumber p0) x)), (5, .int (bi (fX2_isWritable (fX1_controlNumber p0)))), (4, .int (1 : Int32)), (3, .int (fX1_controlNumber p0)), (2, .int (fX1_f p0)), (0, .ref aH), (1, .int p0)]) hx hb dX4_exchangeControl_97 hl (by decide) rfl (fun ls hl => ?_)
          refine lv_aload_n hx hb dX4_exchangeControl_99 rfl (lv_at hl 6 rfl) ?_
          refine va_get (D := (dC, dI)) (ci := 2) (v := .ref aC) (C := RX4) (T := TX4) (N := 7) hx hb hB iX4 hown hK hP 0 rfl rfl 1 (by decide) (hB _ q_t1_71) (fun _ h9 => h9) rfl dX4_exchangeControl_100 ?_
          refine lv_iload_n hx hb dX4_exchangeControl_103 rfl (lv_at hl 4 rfl) ?_
          refine lv_iload_n hx hb dX4_exchangeControl_104 rfl (lv_at hl 5 rfl) ?_
          refine lv_iconst (v := 3) hx hb dX4_exchangeControl_105 (by decide) ?_
          refine lv_iand hx hb dX4_exchangeControl_106 ?_
          refine lv_iload hx hb dX4_exchangeControl_107 (lv_at hl 1 rfl) ?_
          refine lv_iload hx hb dX4_exchangeControl_109 (lv_at hl 0 rfl) ?_
          refine k_ri (va_runSN (As := [.int ((fX1_f p0) &&& (3 : Int32)), .int (fX2_read (fX1_controlNumber p0) x), .int (fX4_valueA p0 x)]) (rest := [.int (fX1_controlNumber p0), .ref aC]) ⟨hx, hb, hml, hown, hB⟩ (mX0_exchanged l ((fX1_f p0) &&& (3 : Int32)) (fX2_read (fX1_controlNumber p0) x) (fX4_valueA p0 x)) ⟨va_cnB 3 hB (good_in wX0_exchanged) rfl rfl rfl (hN _ (List.mem_of_getElem? (i := 27) rfl)) (hB _ q_t1_11) hX0_exchanged.2 ⟨Nat.le_of_ble_eq_true rfl, Nat.le_of_ble_eq_true rfl⟩, hB _ q_t2_179, trivial⟩ ⟨fun _ _ _ _ q => q, fun U _ _ => ⟨rfl, trivial⟩⟩ rfl rfl hl.1 rfl (lv_room (Nat.le_of_ble_eq_true rfl)) dX4_exchangeControl_111 ⟨Nat.zero_le _, Nat.zero_le _⟩) ?_
          refine k_mv (w := wD aH aM aW aC aR iW iR) wD_ad (va_runVN (As := [.int (fX1_controlNumber p0), .int (fX0_exchanged ((fX1_f p0) &&& (3 : Int32)) (fX2_read (fX1_controlNumber p0) x) (fX4_valueA p0 x))]) (rest := []) ⟨hx, hb, hml, hown, hB⟩ (mX2_write l dC dI aH aM aW aC aR iW iR s.heap.size x (fX1_controlNumber p0) (fX0_exchanged ((fX1_f p0) &&& (3 : Int32)) (fX2_read (fX1_controlNumber p0) x) (fX4_valueA p0 x))) ⟨va_cnB 2 hB (good_in wX2_write) rfl rfl rfl (hN _ (List.mem_of_getElem? (i := 28) rfl)) (hB _ q_t1_3) hX2_write.2 ⟨Nat.le_of_ble_eq_true rfl, Nat.le_of_ble_eq_true rfl⟩, hB _ q_t2_183, hB _ q_s_32⟩ ⟨kM_blind NW_blind, va_recv hK hP (ci := 0) (q0 := 3) rfl rfl, kM_pre NW_warm hP hK hD hN⟩ rfl rfl hl.1 rfl (lv_room (Nat.le_of_ble_eq_true rfl)) dX4_exchangeControl_114 ⟨Nat.zero_le _, Nat.zero_le _⟩) hD hS hA (fun u H locs hw hP hD hS => ?_)
          obtain rfl := hw
          refine lv_aload_n hx hb dX4_exchangeControl_117 rfl (lv_at hl 6 rfl) ?_
          refine lv_iload_n hx hb dX4_exchangeControl_118 rfl (lv_at hl 7 rfl) ?_
          refine lv_iload hx hb dX4_exchangeControl_119 (lv_at hl 1 rfl) ?_
          refine k_mi (w := wD aH aM aW aC aR iW iR) wD_ad (va_runV (As := [.int p0, .int (fX2_read (fX1_controlNumber p0) x)]) (rest := []) ⟨hx, hb, hml, hown, hB⟩ (mX4_goOnWith l dC dI aH aM aW aC aR iW iR H.size (fX2_write (fX1_controlNumber p0) (fX0_exchanged ((fX1_f p0) &&& (3 : Int32)) (fX2_read (fX1_controlNumber p0) x) (fX4_valueA p0 x)) x) p0 (fX2_read (fX1_controlNumber p0) x)) (cwV 2 hB (gV q_t2_33 q_t2_35 q_s_13 q_t1_1 wX4_goOnWith) rfl rfl rfl hX4_goOnWith ⟨Nat.le_of_ble_eq_true rfl, Nat.le_of_ble_eq_true rfl⟩) ⟨kM_blind NW_blind, va_recv hK hP (ci := 2) (q0 := 0) rfl rfl, kM_pre NW_warm hP hK hD hN⟩ rfl rfl hl.1 rfl (lv_room (Nat.le_of_ble_eq_true rfl)) dX4_exchangeControl_121 ⟨Nat.zero_le _, Nat.zero_le _⟩) hD hS hA (fun r u H locs hw hP hD hS => ?_)
          obtain ⟨rfl, rfl⟩ := hw
          exact W.zret (v := bi (fX4_goOnWith p0 (fX2_read (fX1_controlNumber p0) x) (fX2_write (fX1_controlNumber p0) (fX0_exchanged ((fX1_f p0) &&& (3 : Int32)) (fX2_read (fX1_controlNumber p0) x) (fX4_valueA p0 x)) x)).1) hx hb hr (bi_nar _) (fun t ht hW => ⟨⟨bi (fX4_goOnWith p0 (fX2_read (fX1_controlNumber p0) x) (fX2_write (fX1_controlNumber p0) (fX0_exchanged ((fX1_f p0) &&& (3 : Int32)) (fX2_read (fX1_controlNumber p0) x) (fX4_valueA p0 x)) x)).1, ((fX4_goOnWith p0 (fX2_read (fX1_controlNumber p0) x) (fX2_write (fX1_controlNumber p0) (fX0_exchanged ((fX1_f p0) &&& (3 : Int32)) (fX2_read (fX1_controlNumber p0) x) (fX4_valueA p0 x)) x)).2), rfl, ⟨(by unfold fX4_exchangeControl; rw [if_pos c_14, if_neg c_51, if_neg c_56, if_pos c_82] <;> rfl), (by unfold fX4_exchangeControl; rw [if_pos c_14, if_neg c_51, if_neg c_56, if_pos c_82] <;> rfl)⟩, hpT ht hP⟩, hS.F ht⟩) hS.2.2 dX4_exchangeControl_124
        · refine lv_iload_n hx hb dX4_exchangeControl_85 rfl (lv_at hl 6 rfl) ?_
          refine k_ri (va_runSN (As := [.int p0]) (rest := []) ⟨hx, hb, hml, hown, hB⟩ (mX1_a l p0) ⟨va_cnB 1 hB (good_in wX1_a) rfl rfl rfl (hN _ (List.mem_of_getElem? (i := 0) rfl)) (hB _ q_t1_10) hX1_a.2 ⟨Nat.le_of_ble_eq_true rfl, Nat.le_of_ble_eq_true rfl⟩, hB _ q_t2_67, trivial⟩ ⟨fun _ _ _ _ q => q, fun U _ _ => ⟨rfl, trivial⟩⟩ rfl rfl hl.1 rfl (lv_room (Nat.le_of_ble_eq_true rfl)) dX4_exchangeControl_86 ⟨Nat.zero_le _, Nat.zero_le _⟩) ?_
          refine lv_goto (tgt := 97) hx hb dX4_exchangeControl_89 (by decide) ?_
          refine lv_istore (lv' := [(7, .int (fX1_a p0)), (6, .int (fX2_read (fX1_controlNumber p0) x)), (5, .int (bi (fX2_isWritable (fX1_controlNumber p0)))), (4, .int (1 : Int32)), (3, .int (fX1_controlNumber p0)), (2, .int (fX1_f p0)), (0, .ref aH), (1, .int p0)]) hx hb dX4_exchangeControl_97 hl (by decide) rfl (fun ls hl => ?_)
          refine lv_aload_n hx hb dX4_exchangeControl_99 rfl (lv_at hl 6 rfl) ?_
          refine va_get (D := (dC, dI)) (ci := 2) (v := .ref aC) (C := RX4) (T := TX4) (N := 7) hx hb hB iX4 hown hK hP 0 rfl rfl 1 (by decide) (hB _ q_t1_71) (fun _ h9 => h9) rfl dX4_exchangeControl_100 ?_
          refine lv_iload_n hx hb dX4_exchangeControl_103 rfl (lv_at hl 4 rfl) ?_
          refine lv_iload_n hx hb dX4_exchangeControl_104 rfl (lv_at hl 5 rfl) ?_
          refine lv_iconst (v := 3) hx hb dX4_exchangeControl_105 (by decide) ?_
          refine lv_iand hx hb dX4_exchangeControl_106 ?_
          refine lv_iload hx hb dX4_exchangeControl_107 (lv_at hl 1 rfl) ?_
          refine lv_iload hx hb dX4_exchangeControl_109 (lv_at hl 0 rfl) ?_
          refine k_ri (va_runSN (As := [.int ((fX1_f p0) &&& (3 : Int32)), .int (fX2_read (fX1_controlNumber p0) x), .int (fX1_a p0)]) (rest := [.int (fX1_controlNumber p0), .ref aC]) ⟨hx, hb, hml, hown, hB⟩ (mX0_exchanged l ((fX1_f p0) &&& (3 : Int32)) (fX2_read (fX1_controlNumber p0) x) (fX1_a p0)) ⟨va_cnB 3 hB (good_in wX0_exchanged) rfl rfl rfl (hN _ (List.mem_of_getElem? (i := 27) rfl)) (hB _ q_t1_11) hX0_exchanged.2 ⟨Nat.le_of_ble_eq_true rfl, Nat.le_of_ble_eq_true rfl⟩, hB _ q_t2_179, trivial⟩ ⟨fun _ _ _ _ q => q, fun U _ _ => ⟨rfl, trivial⟩⟩ rfl rfl hl.1 rfl (lv_room (Nat.le_of_ble_eq_true rfl)) dX4_exchangeControl_111 ⟨Nat.zero_le _, Nat.zero_le _⟩) ?_
          refine k_mv (w := wD aH aM aW aC aR iW iR) wD_ad (va_runVN (As := [.int (fX1_controlNumber p0), .int (fX0_exchanged ((fX1_f p0) &&& (3 : Int32)) (fX2_read (fX1_controlNumber p0) x) (fX1_a p0))]) (rest := []) ⟨hx, hb, hml, hown, hB⟩ (mX2_write l dC dI aH aM aW aC aR iW iR s.heap.size x (fX1_controlNumber p0) (fX0_exchanged ((fX1_f p0) &&& (3 : Int32)) (fX2_read (fX1_controlNumber p0) x) (fX1_a p0))) ⟨va_cnB 2 hB (good_in wX2_write) rfl rfl rfl (hN _ (List.mem_of_getElem? (i := 28) rfl)) (hB _ q_t1_3) hX2_write.2 ⟨Nat.le_of_ble_eq_true rfl, Nat.le_of_ble_eq_true rfl⟩, hB _ q_t2_183, hB _ q_s_32⟩ ⟨kM_blind NW_blind, va_recv hK hP (ci := 0) (q0 := 3) rfl rfl, kM_pre NW_warm hP hK hD hN⟩ rfl rfl hl.1 rfl (lv_room (Nat.le_of_ble_eq_true rfl)) dX4_exchangeControl_114 ⟨Nat.zero_le _, Nat.zero_le _⟩) hD hS hA (fun u H locs hw hP hD hS => ?_)
          obtain rfl := hw
          refine lv_aload_n hx hb dX4_exchangeControl_117 rfl (lv_at hl 6 rfl) ?_
          refine lv_iload_n hx hb dX4_exchangeControl_118 rfl (lv_at hl 7 rfl) ?_
          refine lv_iload hx hb dX4_exchangeControl_119 (lv_at hl 1 rfl) ?_
          refine k_mi (w := wD aH aM aW aC aR iW iR) wD_ad (va_runV (As := [.int p0, .int (fX2_read (fX1_controlNumber p0) x)]) (rest := []) ⟨hx, hb, hml, hown, hB⟩ (mX4_goOnWith l dC dI aH aM aW aC aR iW iR H.size (fX2_write (fX1_controlNumber p0) (fX0_exchanged ((fX1_f p0) &&& (3 : Int32)) (fX2_read (fX1_controlNumber p0) x) (fX1_a p0)) x) p0 (fX2_read (fX1_controlNumber p0) x)) (cwV 2 hB (gV q_t2_33 q_t2_35 q_s_13 q_t1_1 wX4_goOnWith) rfl rfl rfl hX4_goOnWith ⟨Nat.le_of_ble_eq_true rfl, Nat.le_of_ble_eq_true rfl⟩) ⟨kM_blind NW_blind, va_recv hK hP (ci := 2) (q0 := 0) rfl rfl, kM_pre NW_warm hP hK hD hN⟩ rfl rfl hl.1 rfl (lv_room (Nat.le_of_ble_eq_true rfl)) dX4_exchangeControl_121 ⟨Nat.zero_le _, Nat.zero_le _⟩) hD hS hA (fun r u H locs hw hP hD hS => ?_)
          obtain ⟨rfl, rfl⟩ := hw
          exact W.zret (v := bi (fX4_goOnWith p0 (fX2_read (fX1_controlNumber p0) x) (fX2_write (fX1_controlNumber p0) (fX0_exchanged ((fX1_f p0) &&& (3 : Int32)) (fX2_read (fX1_controlNumber p0) x) (fX1_a p0)) x)).1) hx hb hr (bi_nar _) (fun t ht hW => ⟨⟨bi (fX4_goOnWith p0 (fX2_read (fX1_controlNumber p0) x) (fX2_write (fX1_controlNumber p0) (fX0_exchanged ((fX1_f p0) &&& (3 : Int32)) (fX2_read (fX1_controlNumber p0) x) (fX1_a p0)) x)).1, ((fX4_goOnWith p0 (fX2_read (fX1_controlNumber p0) x) (fX2_write (fX1_controlNumber p0) (fX0_exchanged ((fX1_f p0) &&& (3 : Int32)) (fX2_read (fX1_controlNumber p0) x) (fX1_a p0)) x)).2), rfl, ⟨(by unfold fX4_exchangeControl; rw [if_pos c_14, if_neg c_51, if_neg c_56, if_neg c_82] <;> rfl), (by unfold fX4_exchangeControl; rw [if_pos c_14, if_neg c_51, if_neg c_56, if_neg c_82] <;> rfl)⟩, hpT ht hP⟩, hS.F ht⟩) hS.2.2 dX4_exchangeControl_124
      · refine lv_aload_n hx hb dX4_exchangeControl_59 rfl (lv_at hl 4 rfl) ?_
        refine lv_iload_n hx hb dX4_exchangeControl_60 rfl (lv_at hl 5 rfl) ?_
        refine k_mi (w := wD aH aM aW aC aR iW iR) wD_ad (va_runV (As := [.int p0]) (rest := []) ⟨hx, hb, hml, hown, hB⟩ (mX4_unknown l dC dI aH aM aW aC aR iW iR s.heap.size x p0) (cwV 1 hB (gV q_t2_58 q_t2_60 q_s_17 q_t1_1 wX4_unknown) rfl rfl rfl hX4_unknown ⟨Nat.le_of_ble_eq_true rfl, Nat.le_of_ble_eq_true rfl⟩) ⟨kM_blind NW_blind, va_recv hK hP (ci := 2) (q0 := 0) rfl rfl, kM_pre NW_warm hP hK hD hN⟩ rfl rfl hl.1 rfl (lv_room (Nat.le_of_ble_eq_true rfl)) dX4_exchangeControl_61 ⟨Nat.zero_le _, Nat.zero_le _⟩) hD hS hA (fun r u H locs hw hP hD hS => ?_)
        obtain ⟨rfl, rfl⟩ := hw
        exact W.zret (v := bi (fX4_unknown p0 x).1) hx hb hr (bi_nar _) (fun t ht hW => ⟨⟨bi (fX4_unknown p0 x).1, ((fX4_unknown p0 x).2), rfl, ⟨(by unfold fX4_exchangeControl; rw [if_pos c_14, if_neg c_51, if_pos c_56] <;> rfl), (by unfold fX4_exchangeControl; rw [if_pos c_14, if_neg c_51, if_pos c_56] <;> rfl)⟩, hpT ht hP⟩, hS.F ht⟩) hS.2.2 dX4_exchangeControl_64
  · refine lv_iload_n hx hb dX4_exchangeControl_17 rfl (lv_at hl 3 rfl) ?_
    refine k_ri (va_runSN (As := [.int p0]) (rest := []) ⟨hx, hb, hml, hown, hB⟩ (mX1_a l p0) ⟨va_cnB 1 hB (good_in wX1_a) rfl rfl rfl (hN _ (List.mem_of_getElem? (i := 0) rfl)) (hB _ q_t1_10) hX1_a.2 ⟨Nat.le_of_ble_eq_true rfl, Nat.le_of_ble_eq_true rfl⟩, hB _ q_t2_67, trivial⟩ ⟨fun _ _ _ _ q => q, fun U _ _ => ⟨rfl, trivial⟩⟩ rfl rfl hl.1 rfl (lv_room (Nat.le_of_ble_eq_true rfl)) dX4_exchangeControl_18 ⟨Nat.zero_le _, Nat.zero_le _⟩) ?_
    refine lv_if_eq (tgt := 28) hx hb dX4_exchangeControl_21 (by decide) (fun c_21 => ?_) (fun c_21 => ?_)
    · refine lv_iconst (v := 0) hx hb dX4_exchangeControl_28 (by decide) ?_
      refine lv_istore (lv' := [(4, .int (0 : Int32)), (3, .int (fX1_controlNumber p0)), (2, .int (fX1_f p0)), (0, .ref aH), (1, .int p0)]) hx hb dX4_exchangeControl_29 hl (by decide) rfl (fun ls hl => ?_)
      refine lv_iload hx hb dX4_exchangeControl_31 (lv_at hl 0 rfl) ?_
      refine lv_if_eq (tgt := 43) hx hb dX4_exchangeControl_33 (by decide) (fun _ => ?_) (fun h9 => absurd h9 (by decide))
      refine lv_iload_n hx hb dX4_exchangeControl_43 rfl (lv_at hl 1 rfl) ?_
      refine k_ri (va_runSN (As := [.int (fX1_controlNumber p0)]) (rest := []) ⟨hx, hb, hml, hown, hB⟩ (mX2_isKnown l (fX1_controlNumber p0)) ⟨va_cnB 1 hB (good_in wX2_isKnown) rfl rfl rfl (hN _ (List.mem_of_getElem? (i := 29) rfl)) (hB _ q_t1_3) hX2_isKnown.2 ⟨Nat.le_of_ble_eq_true rfl, Nat.le_of_ble_eq_true rfl⟩, hB _ q_t2_171, trivial⟩ ⟨fun _ _ _ _ q => q, fun U _ _ => ⟨rfl, trivial⟩⟩ rfl rfl hl.1 rfl (lv_room (Nat.le_of_ble_eq_true rfl)) dX4_exchangeControl_44 ⟨Nat.zero_le _, Nat.zero_le _⟩) ?_
      refine lv_istore (lv' := [(5, .int (bi (fX2_isKnown (fX1_controlNumber p0)))), (4, .int (0 : Int32)), (3, .int (fX1_controlNumber p0)), (2, .int (fX1_f p0)), (0, .ref aH), (1, .int p0)]) hx hb dX4_exchangeControl_47 hl (by decide) rfl (fun ls hl => ?_)
      refine lv_iload_n hx hb dX4_exchangeControl_49 rfl (lv_at hl 3 rfl) ?_
      refine lv_iconst (v := 4) hx hb dX4_exchangeControl_50 (by decide) ?_
      refine lv_icmp_eq (tgt := 59) hx hb dX4_exchangeControl_51 (by decide) (fun c_51 => ?_) (fun c_51 => ?_)
      · refine lv_aload_n hx hb dX4_exchangeControl_59 rfl (lv_at hl 4 rfl) ?_
        refine lv_iload_n hx hb dX4_exchangeControl_60 rfl (lv_at hl 5 rfl) ?_
        refine k_mi (w := wD aH aM aW aC aR iW iR) wD_ad (va_runV (As := [.int p0]) (rest := []) ⟨hx, hb, hml, hown, hB⟩ (mX4_unknown l dC dI aH aM aW aC aR iW iR s.heap.size x p0) (cwV 1 hB (gV q_t2_58 q_t2_60 q_s_17 q_t1_1 wX4_unknown) rfl rfl rfl hX4_unknown ⟨Nat.le_of_ble_eq_true rfl, Nat.le_of_ble_eq_true rfl⟩) ⟨kM_blind NW_blind, va_recv hK hP (ci := 2) (q0 := 0) rfl rfl, kM_pre NW_warm hP hK hD hN⟩ rfl rfl hl.1 rfl (lv_room (Nat.le_of_ble_eq_true rfl)) dX4_exchangeControl_61 ⟨Nat.zero_le _, Nat.zero_le _⟩) hD hS hA (fun r u H locs hw hP hD hS => ?_)
        obtain ⟨rfl, rfl⟩ := hw
        exact W.zret (v := bi (fX4_unknown p0 x).1) hx hb hr (bi_nar _) (fun t ht hW => ⟨⟨bi (fX4_unknown p0 x).1, ((fX4_unknown p0 x).2), rfl, ⟨(by unfold fX4_exchangeControl; rw [if_neg c_14, if_pos c_21, if_pos c_51] <;> rfl), (by unfold fX4_exchangeControl; rw [if_neg c_14, if_pos c_21, if_pos c_51] <;> rfl)⟩, hpT ht hP⟩, hS.F ht⟩) hS.2.2 dX4_exchangeControl_64
      · refine lv_iload hx hb dX4_exchangeControl_54 (lv_at hl 0 rfl) ?_
        refine lv_if_ne (tgt := 65) hx hb dX4_exchangeControl_56 (by decide) (fun c_56 => ?_) (fun c_56 => ?_)
        · refine lv_aload_n hx hb dX4_exchangeControl_65 rfl (lv_at hl 4 rfl) ?_
          refine va_get (D := (dC, dI)) (ci := 2) (v := .ref aC) (C := RX4) (T := TX4) (N := 7) hx hb hB iX4 hown hK hP 0 rfl rfl 1 (by decide) (hB _ q_t1_71) (fun _ h9 => h9) rfl dX4_exchangeControl_66 ?_
          refine lv_iload_n hx hb dX4_exchangeControl_69 rfl (lv_at hl 2 rfl) ?_
          refine k_ri (va_runVN (As := [.int (fX1_controlNumber p0)]) (rest := []) ⟨hx, hb, hml, hown, hB⟩ (mX2_read l dC dI aH aM aW aC aR iW iR x (fX1_controlNumber p0)) ⟨va_cnB 1 hB (good_in wX2_read) rfl rfl rfl (hN _ (List.mem_of_getElem? (i := 26) rfl)) (hB _ q_t1_3) hX2_read.2 ⟨Nat.le_of_ble_eq_true rfl, Nat.le_of_ble_eq_true rfl⟩, hB _ q_t2_176, hB _ q_s_31⟩ ⟨kP_blind NW_blind, va_recv hK hP (ci := 0) (q0 := 3) rfl rfl, kP_pre NW_warm hP hK hN⟩ rfl rfl hl.1 rfl (lv_room (Nat.le_of_ble_eq_true rfl)) dX4_exchangeControl_70 ⟨Nat.zero_le _, Nat.zero_le _⟩) ?_
          refine lv_istore (lv' := [(6, .int (fX2_read (fX1_controlNumber p0) x)), (5, .int (bi (fX2_isKnown (fX1_controlNumber p0)))), (4, .int (0 : Int32)), (3, .int (fX1_controlNumber p0)), (2, .int (fX1_f p0)), (0, .ref aH), (1, .int p0)]) hx hb dX4_exchangeControl_73 hl (by decide) rfl (fun ls hl => ?_)
          refine lv_iload hx hb dX4_exchangeControl_75 (lv_at hl 2 rfl) ?_
          refine lv_if_eq (tgt := 117) hx hb dX4_exchangeControl_77 (by decide) (fun _ => ?_) (fun h9 => absurd h9 (by decide))
          refine lv_aload_n hx hb dX4_exchangeControl_117 rfl (lv_at hl 5 rfl) ?_
          refine lv_iload_n hx hb dX4_exchangeControl_118 rfl (lv_at hl 6 rfl) ?_
          refine lv_iload hx hb dX4_exchangeControl_119 (lv_at hl 0 rfl) ?_
          refine k_mi (w := wD aH aM aW aC aR iW iR) wD_ad (va_runV (As := [.int p0, .int (fX2_read (fX1_controlNumber p0) x)]) (rest := []) ⟨hx, hb, hml, hown, hB⟩ (mX4_goOnWith l dC dI aH aM aW aC aR iW iR s.heap.size x p0 (fX2_read (fX1_controlNumber p0) x)) (cwV 2 hB (gV q_t2_33 q_t2_35 q_s_13 q_t1_1 wX4_goOnWith) rfl rfl rfl hX4_goOnWith ⟨Nat.le_of_ble_eq_true rfl, Nat.le_of_ble_eq_true rfl⟩) ⟨kM_blind NW_blind, va_recv hK hP (ci := 2) (q0 := 0) rfl rfl, kM_pre NW_warm hP hK hD hN⟩ rfl rfl hl.1 rfl (lv_room (Nat.le_of_ble_eq_true rfl)) dX4_exchangeControl_121 ⟨Nat.zero_le _, Nat.zero_le _⟩) hD hS hA (fun r u H locs hw hP hD hS => ?_)
          obtain ⟨rfl, rfl⟩ := hw
          exact W.zret (v := bi (fX4_goOnWith p0 (fX2_read (fX1_controlNumber p0) x) x).1) hx hb hr (bi_nar _) (fun t ht hW => ⟨⟨bi (fX4_goOnWith p0 (fX2_read (fX1_controlNumber p0) x) x).1, ((fX4_goOnWith p0 (fX2_read (fX1_controlNumber p0) x) x).2), rfl, ⟨(by unfold fX4_exchangeControl; rw [if_neg c_14, if_pos c_21, if_neg c_51, if_neg c_56] <;> rfl), (by unfold fX4_exchangeControl; rw [if_neg c_14, if_pos c_21, if_neg c_51, if_neg c_56] <;> rfl)⟩, hpT ht hP⟩, hS.F ht⟩) hS.2.2 dX4_exchangeControl_124
        · refine lv_aload_n hx hb dX4_exchangeControl_59 rfl (lv_at hl 4 rfl) ?_
          refine lv_iload_n hx hb dX4_exchangeControl_60 rfl (lv_at hl 5 rfl) ?_
          refine k_mi (w := wD aH aM aW aC aR iW iR) wD_ad (va_runV (As := [.int p0]) (rest := []) ⟨hx, hb, hml, hown, hB⟩ (mX4_unknown l dC dI aH aM aW aC aR iW iR s.heap.size x p0) (cwV 1 hB (gV q_t2_58 q_t2_60 q_s_17 q_t1_1 wX4_unknown) rfl rfl rfl hX4_unknown ⟨Nat.le_of_ble_eq_true rfl, Nat.le_of_ble_eq_true rfl⟩) ⟨kM_blind NW_blind, va_recv hK hP (ci := 2) (q0 := 0) rfl rfl, kM_pre NW_warm hP hK hD hN⟩ rfl rfl hl.1 rfl (lv_room (Nat.le_of_ble_eq_true rfl)) dX4_exchangeControl_61 ⟨Nat.zero_le _, Nat.zero_le _⟩) hD hS hA (fun r u H locs hw hP hD hS => ?_)
          obtain ⟨rfl, rfl⟩ := hw
          exact W.zret (v := bi (fX4_unknown p0 x).1) hx hb hr (bi_nar _) (fun t ht hW => ⟨⟨bi (fX4_unknown p0 x).1, ((fX4_unknown p0 x).2), rfl, ⟨(by unfold fX4_exchangeControl; rw [if_neg c_14, if_pos c_21, if_neg c_51, if_pos c_56] <;> rfl), (by unfold fX4_exchangeControl; rw [if_neg c_14, if_pos c_21, if_neg c_51, if_pos c_56] <;> rfl)⟩, hpT ht hP⟩, hS.F ht⟩) hS.2.2 dX4_exchangeControl_64
    · refine lv_iconst (v := 1) hx hb dX4_exchangeControl_24 (by decide) ?_
      refine lv_goto (tgt := 29) hx hb dX4_exchangeControl_25 (by decide) ?_
      refine lv_istore (lv' := [(4, .int (1 : Int32)), (3, .int (fX1_controlNumber p0)), (2, .int (fX1_f p0)), (0, .ref aH), (1, .int p0)]) hx hb dX4_exchangeControl_29 hl (by decide) rfl (fun ls hl => ?_)
      refine lv_iload hx hb dX4_exchangeControl_31 (lv_at hl 0 rfl) ?_
      refine lv_if_eq (tgt := 43) hx hb dX4_exchangeControl_33 (by decide) (fun h9 => absurd h9 (by decide)) (fun _ => ?_)
      refine lv_iload_n hx hb dX4_exchangeControl_36 rfl (lv_at hl 1 rfl) ?_
      refine k_ri (va_runSN (As := [.int (fX1_controlNumber p0)]) (rest := []) ⟨hx, hb, hml, hown, hB⟩ (mX2_isWritable l (fX1_controlNumber p0)) ⟨va_cnB 1 hB (good_in wX2_isWritable) rfl rfl rfl (hN _ (List.mem_of_getElem? (i := 25) rfl)) (hB _ q_t1_3) hX2_isWritable.2 ⟨Nat.le_of_ble_eq_true rfl, Nat.le_of_ble_eq_true rfl⟩, hB _ q_t2_168, trivial⟩ ⟨fun _ _ _ _ q => q, fun U _ _ => ⟨rfl, trivial⟩⟩ rfl rfl hl.1 rfl (lv_room (Nat.le_of_ble_eq_true rfl)) dX4_exchangeControl_37 ⟨Nat.zero_le _, Nat.zero_le _⟩) ?_
      refine lv_goto (tgt := 47) hx hb dX4_exchangeControl_40 (by decide) ?_
      refine lv_istore (lv' := [(5, .int (bi (fX2_isWritable (fX1_controlNumber p0)))), (4, .int (1 : Int32)), (3, .int (fX1_controlNumber p0)), (2, .int (fX1_f p0)), (0, .ref aH), (1, .int p0)]) hx hb dX4_exchangeControl_47 hl (by decide) rfl (fun ls hl => ?_)
      refine lv_iload_n hx hb dX4_exchangeControl_49 rfl (lv_at hl 3 rfl) ?_
      refine lv_iconst (v := 4) hx hb dX4_exchangeControl_50 (by decide) ?_
      refine lv_icmp_eq (tgt := 59) hx hb dX4_exchangeControl_51 (by decide) (fun c_51 => ?_) (fun c_51 => ?_)
      · refine lv_aload_n hx hb dX4_exchangeControl_59 rfl (lv_at hl 4 rfl) ?_
        refine lv_iload_n hx hb dX4_exchangeControl_60 rfl (lv_at hl 5 rfl) ?_
        refine k_mi (w := wD aH aM aW aC aR iW iR) wD_ad (va_runV (As := [.int p0]) (rest := []) ⟨hx, hb, hml, hown, hB⟩ (mX4_unknown l dC dI aH aM aW aC aR iW iR s.heap.size x p0) (cwV 1 hB (gV q_t2_58 q_t2_60 q_s_17 q_t1_1 wX4_unknown) rfl rfl rfl hX4_unknown ⟨Nat.le_of_ble_eq_true rfl, Nat.le_of_ble_eq_true rfl⟩) ⟨kM_blind NW_blind, va_recv hK hP (ci := 2) (q0 := 0) rfl rfl, kM_pre NW_warm hP hK hD hN⟩ rfl rfl hl.1 rfl (lv_room (Nat.le_of_ble_eq_true rfl)) dX4_exchangeControl_61 ⟨Nat.zero_le _, Nat.zero_le _⟩) hD hS hA (fun r u H locs hw hP hD hS => ?_)
        obtain ⟨rfl, rfl⟩ := hw
        exact W.zret (v := bi (fX4_unknown p0 x).1) hx hb hr (bi_nar _) (fun t ht hW => ⟨⟨bi (fX4_unknown p0 x).1, ((fX4_unknown p0 x).2), rfl, ⟨(by unfold fX4_exchangeControl; rw [if_neg c_14, if_neg c_21, if_pos c_51] <;> rfl), (by unfold fX4_exchangeControl; rw [if_neg c_14, if_neg c_21, if_pos c_51] <;> rfl)⟩, hpT ht hP⟩, hS.F ht⟩) hS.2.2 dX4_exchangeControl_64
      · refine lv_iload hx hb dX4_exchangeControl_54 (lv_at hl 0 rfl) ?_
        refine lv_if_ne (tgt := 65) hx hb dX4_exchangeControl_56 (by decide) (fun c_56 => ?_) (fun c_56 => ?_)
        · refine lv_aload_n hx hb dX4_exchangeControl_65 rfl (lv_at hl 4 rfl) ?_
          refine va_get (D := (dC, dI)) (ci := 2) (v := .ref aC) (C := RX4) (T := TX4) (N := 7) hx hb hB iX4 hown hK hP 0 rfl rfl 1 (by decide) (hB _ q_t1_71) (fun _ h9 => h9) rfl dX4_exchangeControl_66 ?_
          refine lv_iload_n hx hb dX4_exchangeControl_69 rfl (lv_at hl 2 rfl) ?_
          refine k_ri (va_runVN (As := [.int (fX1_controlNumber p0)]) (rest := []) ⟨hx, hb, hml, hown, hB⟩ (mX2_read l dC dI aH aM aW aC aR iW iR x (fX1_controlNumber p0)) ⟨va_cnB 1 hB (good_in wX2_read) rfl rfl rfl (hN _ (List.mem_of_getElem? (i := 26) rfl)) (hB _ q_t1_3) hX2_read.2 ⟨Nat.le_of_ble_eq_true rfl, Nat.le_of_ble_eq_true rfl⟩, hB _ q_t2_176, hB _ q_s_31⟩ ⟨kP_blind NW_blind, va_recv hK hP (ci := 0) (q0 := 3) rfl rfl, kP_pre NW_warm hP hK hN⟩ rfl rfl hl.1 rfl (lv_room (Nat.le_of_ble_eq_true rfl)) dX4_exchangeControl_70 ⟨Nat.zero_le _, Nat.zero_le _⟩) ?_
          refine lv_istore (lv' := [(6, .int (fX2_read (fX1_controlNumber p0) x)), (5, .int (bi (fX2_isWritable (fX1_controlNumber p0)))), (4, .int (1 : Int32)), (3, .int (fX1_controlNumber p0)), (2, .int (fX1_f p0)), (0, .ref aH), (1, .int p0)]) hx hb dX4_exchangeControl_73 hl (by decide) rfl (fun ls hl => ?_)
          refine lv_iload hx hb dX4_exchangeControl_75 (lv_at hl 2 rfl) ?_
          refine lv_if_eq (tgt := 117) hx hb dX4_exchangeControl_77 (by decide) (fun h9 => absurd h9 (by decide)) (fun _ => ?_)
          refine lv_iload_n hx hb dX4_exchangeControl_80 rfl (lv_at hl 4 rfl) ?_
          refine lv_iconst (v := 4) hx hb dX4_exchangeControl_81 (by decide) ?_
          refine lv_icmp_le (tgt := 92) hx hb dX4_exchangeControl_82 (by decide) (fun c_82 => ?_) (fun c_82 => ?_)
          · refine lv_aload_n hx hb dX4_exchangeControl_92 rfl (lv_at hl 5 rfl) ?_
            refine lv_iload_n hx hb dX4_exchangeControl_93 rfl (lv_at hl 6 rfl) ?_
            refine k_ri (va_runV (As := [.int p0]) (rest := []) ⟨hx, hb, hml, hown, hB⟩ (mX4_valueA l dC dI aH aM aW aC aR iW iR x p0) (cwV 1 hB (gV q_t2_62 q_t2_64 q_s_18 q_t1_1 wX4_valueA) rfl rfl rfl hX4_valueA ⟨Nat.le_of_ble_eq_true rfl, Nat.le_of_ble_eq_true rfl⟩) ⟨kP_blind NW_blind, va_recv hK hP (ci := 2) (q0 := 0) rfl rfl, kP_pre NW_warm hP hK hN⟩ rfl rfl hl.1 rfl (lv_room (Nat.le_of_ble_eq_true rfl)) dX4_exchangeControl_94 ⟨Nat.zero_le _, Nat.zero_le _⟩) ?_
            refine lv_istore (lv' := [(7, .int (fX4_valueA p0 x)), (6, .int (fX2_read (fX1_controlNumber p0) x)), (5, .int (bi (fX2_isWritable (fX1_controlNumber p0)))), (4, .int (1 : Int32)), (3, .int (fX1_controlNumber p0)), (2, .int (fX1_f p0)), (0, .ref aH), (1, .int p0)]) hx hb dX4_exchangeControl_97 hl (by decide) rfl (fun ls hl => ?_)
            refine lv_aload_n hx hb dX4_exchangeControl_99 rfl (lv_at hl 6 rfl) ?_
            refine va_get (D := (dC, dI)) (ci := 2) (v := .ref aC) (C := RX4) (T := TX4) (N := 7) hx hb hB iX4 hown hK hP 0 rfl rfl 1 (by decide) (hB _ q_t1_71) (fun _ h9 => h9) rfl dX4_exchangeControl_100 ?_
            refine lv_iload_n hx hb dX4_exchangeControl_103 rfl (lv_at hl 4 rfl) ?_
            refine lv_iload_n hx hb dX4_exchangeControl_104 rfl (lv_at hl 5 rfl) ?_
            refine lv_iconst (v := 3) hx hb dX4_exchangeControl_105 (by decide) ?_
            refine lv_iand hx hb dX4_exchangeControl_106 ?_
            refine lv_iload hx hb dX4_exchangeControl_107 (lv_at hl 1 rfl) ?_
            refine lv_iload hx hb dX4_exchangeControl_109 (lv_at hl 0 rfl) ?_
            refine k_ri (va_runSN (As := [.int ((fX1_f p0) &&& (3 : Int32)), .int (fX2_read (fX1_controlNumber p0) x), .int (fX4_valueA p0 x)]) (rest := [.int (fX1_controlNumber p0), .ref aC]) ⟨hx, hb, hml, hown, hB⟩ (mX0_exchanged l ((fX1_f p0) &&& (3 : Int32)) (fX2_read (fX1_controlNumber p0) x) (fX4_valueA p0 x)) ⟨va_cnB 3 hB (good_in wX0_exchanged) rfl rfl rfl (hN _ (List.mem_of_getElem? (i := 27) rfl)) (hB _ q_t1_11) hX0_exchanged.2 ⟨Nat.le_of_ble_eq_true rfl, Nat.le_of_ble_eq_true rfl⟩, hB _ q_t2_179, trivial⟩ ⟨fun _ _ _ _ q => q, fun U _ _ => ⟨rfl, trivial⟩⟩ rfl rfl hl.1 rfl (lv_room (Nat.le_of_ble_eq_true rfl)) dX4_exchangeControl_111 ⟨Nat.zero_le _, Nat.zero_le _⟩) ?_
            refine k_mv (w := wD aH aM aW aC aR iW iR) wD_ad (va_runVN (As := [.int (fX1_controlNumber p0), .int (fX0_exchanged ((fX1_f p0) &&& (3 : Int32)) (fX2_read (fX1_controlNumber p0) x) (fX4_valueA p0 x))]) (rest := []) ⟨hx, hb, hml, hown, hB⟩ (mX2_write l dC dI aH aM aW aC aR iW iR s.heap.size x (fX1_controlNumber p0) (fX0_exchanged ((fX1_f p0) &&& (3 : Int32)) (fX2_read (fX1_controlNumber p0) x) (fX4_valueA p0 x))) ⟨va_cnB 2 hB (good_in wX2_write) rfl rfl rfl (hN _ (List.mem_of_getElem? (i := 28) rfl)) (hB _ q_t1_3) hX2_write.2 ⟨Nat.le_of_ble_eq_true rfl, Nat.le_of_ble_eq_true rfl⟩, hB _ q_t2_183, hB _ q_s_32⟩ ⟨kM_blind NW_blind, va_recv hK hP (ci := 0) (q0 := 3) rfl rfl, kM_pre NW_warm hP hK hD hN⟩ rfl rfl hl.1 rfl (lv_room (Nat.le_of_ble_eq_true rfl)) dX4_exchangeControl_114 ⟨Nat.zero_le _, Nat.zero_le _⟩) hD hS hA (fun u H locs hw hP hD hS => ?_)
            obtain rfl := hw
            refine lv_aload_n hx hb dX4_exchangeControl_117 rfl (lv_at hl 6 rfl) ?_
            refine lv_iload_n hx hb dX4_exchangeControl_118 rfl (lv_at hl 7 rfl) ?_
            refine lv_iload hx hb dX4_exchangeControl_119 (lv_at hl 1 rfl) ?_
            refine k_mi (w := wD aH aM aW aC aR iW iR) wD_ad (va_runV (As := [.int p0, .int (fX2_read (fX1_controlNumber p0) x)]) (rest := []) ⟨hx, hb, hml, hown, hB⟩ (mX4_goOnWith l dC dI aH aM aW aC aR iW iR H.size (fX2_write (fX1_controlNumber p0) (fX0_exchanged ((fX1_f p0) &&& (3 : Int32)) (fX2_read (fX1_controlNumber p0) x) (fX4_valueA p0 x)) x) p0 (fX2_read (fX1_controlNumber p0) x)) (cwV 2 hB (gV q_t2_33 q_t2_35 q_s_13 q_t1_1 wX4_goOnWith) rfl rfl rfl hX4_goOnWith ⟨Nat.le_of_ble_eq_true rfl, Nat.le_of_ble_eq_true rfl⟩) ⟨kM_blind NW_blind, va_recv hK hP (ci := 2) (q0 := 0) rfl rfl, kM_pre NW_warm hP hK hD hN⟩ rfl rfl hl.1 rfl (lv_room (Nat.le_of_ble_eq_true rfl)) dX4_exchangeControl_121 ⟨Nat.zero_le _, Nat.zero_le _⟩) hD hS hA (fun r u H locs hw hP hD hS => ?_)
            obtain ⟨rfl, rfl⟩ := hw
            exact W.zret (v := bi (fX4_goOnWith p0 (fX2_read (fX1_controlNumber p0) x) (fX2_write (fX1_controlNumber p0) (fX0_exchanged ((fX1_f p0) &&& (3 : Int32)) (fX2_read (fX1_controlNumber p0) x) (fX4_valueA p0 x)) x)).1) hx hb hr (bi_nar _) (fun t ht hW => ⟨⟨bi (fX4_goOnWith p0 (fX2_read (fX1_controlNumber p0) x) (fX2_write (fX1_controlNumber p0) (fX0_exchanged ((fX1_f p0) &&& (3 : Int32)) (fX2_read (fX1_controlNumber p0) x) (fX4_valueA p0 x)) x)).1, ((fX4_goOnWith p0 (fX2_read (fX1_controlNumber p0) x) (fX2_write (fX1_controlNumber p0) (fX0_exchanged ((fX1_f p0) &&& (3 : Int32)) (fX2_read (fX1_controlNumber p0) x) (fX4_valueA p0 x)) x)).2), rfl, ⟨(by unfold fX4_exchangeControl; rw [if_neg c_14, if_neg c_21, if_neg c_51, if_neg c_56, if_pos c_82] <;> rfl), (by unfold fX4_exchangeControl; rw [if_neg c_14, if_neg c_21, if_neg c_51, if_neg c_56, if_pos c_82] <;> rfl)⟩, hpT ht hP⟩, hS.F ht⟩) hS.2.2 dX4_exchangeControl_124
          · refine lv_iload_n hx hb dX4_exchangeControl_85 rfl (lv_at hl 6 rfl) ?_
            refine k_ri (va_runSN (As := [.int p0]) (rest := []) ⟨hx, hb, hml, hown, hB⟩ (mX1_a l p0) ⟨va_cnB 1 hB (good_in wX1_a) rfl rfl rfl (hN _ (List.mem_of_getElem? (i := 0) rfl)) (hB _ q_t1_10) hX1_a.2 ⟨Nat.le_of_ble_eq_true rfl, Nat.le_of_ble_eq_true rfl⟩, hB _ q_t2_67, trivial⟩ ⟨fun _ _ _ _ q => q, fun U _ _ => ⟨rfl, trivial⟩⟩ rfl rfl hl.1 rfl (lv_room (Nat.le_of_ble_eq_true rfl)) dX4_exchangeControl_86 ⟨Nat.zero_le _, Nat.zero_le _⟩) ?_
            refine lv_goto (tgt := 97) hx hb dX4_exchangeControl_89 (by decide) ?_
            refine lv_istore (lv' := [(7, .int (fX1_a p0)), (6, .int (fX2_read (fX1_controlNumber p0) x)), (5, .int (bi (fX2_isWritable (fX1_controlNumber p0)))), (4, .int (1 : Int32)), (3, .int (fX1_controlNumber p0)), (2, .int (fX1_f p0)), (0, .ref aH), (1, .int p0)]) hx hb dX4_exchangeControl_97 hl (by decide) rfl (fun ls hl => ?_)
            refine lv_aload_n hx hb dX4_exchangeControl_99 rfl (lv_at hl 6 rfl) ?_
            refine va_get (D := (dC, dI)) (ci := 2) (v := .ref aC) (C := RX4) (T := TX4) (N := 7) hx hb hB iX4 hown hK hP 0 rfl rfl 1 (by decide) (hB _ q_t1_71) (fun _ h9 => h9) rfl dX4_exchangeControl_100 ?_
            refine lv_iload_n hx hb dX4_exchangeControl_103 rfl (lv_at hl 4 rfl) ?_
            refine lv_iload_n hx hb dX4_exchangeControl_104 rfl (lv_at hl 5 rfl) ?_
            refine lv_iconst (v := 3) hx hb dX4_exchangeControl_105 (by decide) ?_
            refine lv_iand hx hb dX4_exchangeControl_106 ?_
            refine lv_iload hx hb dX4_exchangeControl_107 (lv_at hl 1 rfl) ?_
            refine lv_iload hx hb dX4_exchangeControl_109 (lv_at hl 0 rfl) ?_
            refine k_ri (va_runSN (As := [.int ((fX1_f p0) &&& (3 : Int32)), .int (fX2_read (fX1_controlNumber p0) x), .int (fX1_a p0)]) (rest := [.int (fX1_controlNumber p0), .ref aC]) ⟨hx, hb, hml, hown, hB⟩ (mX0_exchanged l ((fX1_f p0) &&& (3 : Int32)) (fX2_read (fX1_controlNumber p0) x) (fX1_a p0)) ⟨va_cnB 3 hB (good_in wX0_exchanged) rfl rfl rfl (hN _ (List.mem_of_getElem? (i := 27) rfl)) (hB _ q_t1_11) hX0_exchanged.2 ⟨Nat.le_of_ble_eq_true rfl, Nat.le_of_ble_eq_true rfl⟩, hB _ q_t2_179, trivial⟩ ⟨fun _ _ _ _ q => q, fun U _ _ => ⟨rfl, trivial⟩⟩ rfl rfl hl.1 rfl (lv_room (Nat.le_of_ble_eq_true rfl)) dX4_exchangeControl_111 ⟨Nat.zero_le _, Nat.zero_le _⟩) ?_
            refine k_mv (w := wD aH aM aW aC aR iW iR) wD_ad (va_runVN (As := [.int (fX1_controlNumber p0), .int (fX0_exchanged ((fX1_f p0) &&& (3 : Int32)) (fX2_read (fX1_controlNumber p0) x) (fX1_a p0))]) (rest := []) ⟨hx, hb, hml, hown, hB⟩ (mX2_write l dC dI aH aM aW aC aR iW iR s.heap.size x (fX1_controlNumber p0) (fX0_exchanged ((fX1_f p0) &&& (3 : Int32)) (fX2_read (fX1_controlNumber p0) x) (fX1_a p0))) ⟨va_cnB 2 hB (good_in wX2_write) rfl rfl rfl (hN _ (List.mem_of_getElem? (i := 28) rfl)) (hB _ q_t1_3) hX2_write.2 ⟨Nat.le_of_ble_eq_true rfl, Nat.le_of_ble_eq_true rfl⟩, hB _ q_t2_183, hB _ q_s_32⟩ ⟨kM_blind NW_blind, va_recv hK hP (ci := 0) (q0 := 3) rfl rfl, kM_pre NW_warm hP hK hD hN⟩ rfl rfl hl.1 rfl (lv_room (Nat.le_of_ble_eq_true rfl)) dX4_exchangeControl_114 ⟨Nat.zero_le _, Nat.zero_le _⟩) hD hS hA (fun u H locs hw hP hD hS => ?_)
            obtain rfl := hw
            refine lv_aload_n hx hb dX4_exchangeControl_117 rfl (lv_at hl 6 rfl) ?_
            refine lv_iload_n hx hb dX4_exchangeControl_118 rfl (lv_at hl 7 rfl) ?_
            refine lv_iload hx hb dX4_exchangeControl_119 (lv_at hl 1 rfl) ?_
            refine k_mi (w := wD aH aM aW aC aR iW iR) wD_ad (va_runV (As := [.int p0, .int (fX2_read (fX1_controlNumber p0) x)]) (rest := []) ⟨hx, hb, hml, hown, hB⟩ (mX4_goOnWith l dC dI aH aM aW aC aR iW iR H.size (fX2_write (fX1_controlNumber p0) (fX0_exchanged ((fX1_f p0) &&& (3 : Int32)) (fX2_read (fX1_controlNumber p0) x) (fX1_a p0)) x) p0 (fX2_read (fX1_controlNumber p0) x)) (cwV 2 hB (gV q_t2_33 q_t2_35 q_s_13 q_t1_1 wX4_goOnWith) rfl rfl rfl hX4_goOnWith ⟨Nat.le_of_ble_eq_true rfl, Nat.le_of_ble_eq_true rfl⟩) ⟨kM_blind NW_blind, va_recv hK hP (ci := 2) (q0 := 0) rfl rfl, kM_pre NW_warm hP hK hD hN⟩ rfl rfl hl.1 rfl (lv_room (Nat.le_of_ble_eq_true rfl)) dX4_exchangeControl_121 ⟨Nat.zero_le _, Nat.zero_le _⟩) hD hS hA (fun r u H locs hw hP hD hS => ?_)
            obtain ⟨rfl, rfl⟩ := hw
            exact W.zret (v := bi (fX4_goOnWith p0 (fX2_read (fX1_controlNumber p0) x) (fX2_write (fX1_controlNumber p0) (fX0_exchanged ((fX1_f p0) &&& (3 : Int32)) (fX2_read (fX1_controlNumber p0) x) (fX1_a p0)) x)).1) hx hb hr (bi_nar _) (fun t ht hW => ⟨⟨bi (fX4_goOnWith p0 (fX2_read (fX1_controlNumber p0) x) (fX2_write (fX1_controlNumber p0) (fX0_exchanged ((fX1_f p0) &&& (3 : Int32)) (fX2_read (fX1_controlNumber p0) x) (fX1_a p0)) x)).1, ((fX4_goOnWith p0 (fX2_read (fX1_controlNumber p0) x) (fX2_write (fX1_controlNumber p0) (fX0_exchanged ((fX1_f p0) &&& (3 : Int32)) (fX2_read (fX1_controlNumber p0) x) (fX1_a p0)) x)).2), rfl, ⟨(by unfold fX4_exchangeControl; rw [if_neg c_14, if_neg c_21, if_neg c_51, if_neg c_56, if_neg c_82] <;> rfl), (by unfold fX4_exchangeControl; rw [if_neg c_14, if_neg c_21, if_neg c_51, if_neg c_56, if_neg c_82] <;> rfl)⟩, hpT ht hP⟩, hS.F ht⟩) hS.2.2 dX4_exchangeControl_124
        · refine lv_aload_n hx hb dX4_exchangeControl_59 rfl (lv_at hl 4 rfl) ?_
          refine lv_iload_n hx hb dX4_exchangeControl_60 rfl (lv_at hl 5 rfl) ?_
          refine k_mi (w := wD aH aM aW aC aR iW iR) wD_ad (va_runV (As := [.int p0]) (rest := []) ⟨hx, hb, hml, hown, hB⟩ (mX4_unknown l dC dI aH aM aW aC aR iW iR s.heap.size x p0) (cwV 1 hB (gV q_t2_58 q_t2_60 q_s_17 q_t1_1 wX4_unknown) rfl rfl rfl hX4_unknown ⟨Nat.le_of_ble_eq_true rfl, Nat.le_of_ble_eq_true rfl⟩) ⟨kM_blind NW_blind, va_recv hK hP (ci := 2) (q0 := 0) rfl rfl, kM_pre NW_warm hP hK hD hN⟩ rfl rfl hl.1 rfl (lv_room (Nat.le_of_ble_eq_true rfl)) dX4_exchangeControl_61 ⟨Nat.zero_le _, Nat.zero_le _⟩) hD hS hA (fun r u H locs hw hP hD hS => ?_)
          obtain ⟨rfl, rfl⟩ := hw
          exact W.zret (v := bi (fX4_unknown p0 x).1) hx hb hr (bi_nar _) (fun t ht hW => ⟨⟨bi (fX4_unknown p0 x).1, ((fX4_unknown p0 x).2), rfl, ⟨(by unfold fX4_exchangeControl; rw [if_neg c_14, if_neg c_21, if_neg c_51, if_pos c_56] <;> rfl), (by unfold fX4_exchangeControl; rw [if_neg c_14, if_neg c_21, if_neg c_51, if_pos c_56] <;> rfl)⟩, hpT ht hP⟩, hS.F ht⟩) hS.2.2 dX4_exchangeControl_64
end
section
def fX4_execute (p0 : Int32) (x : St) : Bool × St := if (fX1_op p0) = (3 : Int32) then
    ((fX4_load p0 x).1, (fX4_load p0 x).2)
  else
    if (fX1_op p0) = (15 : Int32) then
      ((fX4_goOn x).1, (fX4_goOn x).2)
    else
      if (fX1_op p0) = (19 : Int32) then
        ((fX4_computeWithNumber p0 x).1, (fX4_computeWithNumber p0 x).2)
      else
        if (fX1_op p0) = (23 : Int32) then
          ((fX4_goOnWith p0 ((g_pc x) + (fX1_numberU p0)) x).1, (fX4_goOnWith p0 ((g_pc x) + (fX1_numberU p0)) x).2)
        else
          if (fX1_op p0) = (35 : Int32) then
            ((fX4_store p0 x).1, (fX4_store p0 x).2)
          else
            if (fX1_op p0) = (51 : Int32) then
              ((fX4_computeWithRegister p0 x).1, (fX4_computeWithRegister p0 x).2)
            else
              if (fX1_op p0) = (55 : Int32) then
                ((fX4_goOnWith p0 (fX1_numberU p0) x).1, (fX4_goOnWith p0 (fX1_numberU p0) x).2)
              else
                if (fX1_op p0) = (99 : Int32) then
                  ((fX4_branch p0 x).1, (fX4_branch p0 x).2)
                else
                  if (fX1_op p0) = (103 : Int32) then
                    ((fX4_jumpByRegister p0 x).1, (fX4_jumpByRegister p0 x).2)
                  else
                    if (fX1_op p0) = (111 : Int32) then
                      ((fX4_jump (fX1_d p0) ((g_pc x) + (fX1_numberJ p0)) x).1, (fX4_jump (fX1_d p0) ((g_pc x) + (fX1_numberJ p0)) x).2)
                    else
                      if (fX1_op p0) = (115 : Int32) then
                        if (fX1_f p0) = 0 then
                          ((fX4_callSystem p0 x).1, (fX4_callSystem p0 x).2)
                        else
                          ((fX4_exchangeControl p0 x).1, (fX4_exchangeControl p0 x).2)
                      else
                        ((fX4_unknown p0 x).1, (fX4_unknown p0 x).2)
set_option maxHeartbeats 4000000 in
set_option maxRecDepth 100000 in
theorem mX4_execute (l : Launch) (dC : Nat → ClassId) (dI : Nat → Nat → Nat) (aH aM aW aC aR iW iR : Nat) (sz : Nat) (x : St) (p0 : Int32) : Met l yX4_execute wsX4_execute ({ frames := 4, cells := 0, slots := 0, locals := 93 }) (va_Pc [.ref aH, .int p0] (kM (dC, dI) [(iW, .int), (iR, .int)] NW (wD aH aM aW aC aR iW iR x) sz)) (va_Qi (fun r u => r = bi (fX4_execute p0 x).1 ∧ u = (fX4_execute p0 x).2) (fun u t => va_P (dC, dI) vwCl (wD aH aM aW aC aR iW iR u) t.heap) (va_A (wD aH aM aW aC aR iW iR x) sz)) 0 0 (va_A (wD aH aM aW aC aR iW iR x) sz) := by
  refine Met.ofW (cc := cX4_execute) (maxL := 2) (ret := (some .boolean)) (by decide) rfl ?_
  intro p e s m args below meth c s₁ B hml hv
  obtain ⟨rfl, hsz, hD0, hP, hK, hN⟩ := hv
  have hx := B.exec
  have hb := B.bytes
  have hr := B.returns
  have hB := fun (w : Cond) (h : w ∈ BIG) => atoms_spec (ws := wsX4_execute) B.pre w (List.mem_cons_of_mem _ h)
  have hown : s.vm.findClass RX4 = some m.cls := findClass_of_methodNamed B.named
  have hlocks := B.notSynchronized
  subst hsz
  have hD := hD0.self (sz := s.heap.size)
  generalize hAe : va_A (wD aH aM aW aC aR iW iR x) s.heap.size = A at hD ⊢
  have hA : ∀ q : Nat, s.heap.size ≤ q → A q := fun q h => by rw [← hAe]; exact Or.inr h
  have hS : va_S A s.heap s.heap [] := va_S.rf
  have hl := lv_entry ([.ref aH, .int p0]) (n := 2) (Nat.le_of_ble_eq_true rfl)
  rw [lg_entry_eq]
  generalize (lg_sl ([.ref aH, .int p0]) ++ List.replicate (2 - (lg_sl ([.ref aH, .int p0])).length) Slot.unset).toArray = ls at hl ⊢
  have hl : lv_has ls 2 [(0, .ref aH), (1, .int p0)] := hl
  refine lv_iload_n hx hb dX4_execute_0 rfl (lv_at hl 1 rfl) ?_
  refine k_ri (va_runSN (As := [.int p0]) (rest := []) ⟨hx, hb, hml, hown, hB⟩ (mX1_op l p0) ⟨va_cnB 1 hB (good_in wX1_op) rfl rfl rfl (hN _ (List.mem_of_getElem? (i := 30) rfl)) (hB _ q_t1_10) hX1_op.2 ⟨Nat.le_of_ble_eq_true rfl, Nat.le_of_ble_eq_true rfl⟩, hB _ q_t2_28, trivial⟩ ⟨fun _ _ _ _ q => q, fun U _ _ => ⟨rfl, trivial⟩⟩ rfl rfl hl.1 rfl (lv_room (Nat.le_of_ble_eq_true rfl)) dX4_execute_1 ⟨Nat.zero_le _, Nat.zero_le _⟩) ?_
  by_cases c_4_3 : (fX1_op p0) = (3 : Int32)
  · refine lv_lookup (off := 155) (tgt := 159) hx hb dX4_execute_4 (by decide) (by rw [c_4_3]; decide) (by decide) ?_
    refine lv_aload_n hx hb dX4_execute_159 rfl (lv_at hl 0 rfl) ?_
    refine lv_iload_n hx hb dX4_execute_160 rfl (lv_at hl 1 rfl) ?_
    refine k_mi (w := wD aH aM aW aC aR iW iR) wD_ad (va_runV (As := [.int p0]) (rest := []) ⟨hx, hb, hml, hown, hB⟩ (mX4_load l dC dI aH aM aW aC aR iW iR s.heap.size x p0) (cwV 1 hB (gV q_t2_97 q_t2_99 q_s_22 q_t1_1 wX4_load) rfl rfl rfl hX4_load ⟨Nat.le_of_ble_eq_true rfl, Nat.le_of_ble_eq_true rfl⟩) ⟨kM_blind NW_blind, va_recv hK hP (ci := 2) (q0 := 0) rfl rfl, kM_pre NW_warm hP hK hD hN⟩ rfl rfl hl.1 rfl (lv_room (Nat.le_of_ble_eq_true rfl)) dX4_execute_161 ⟨Nat.zero_le _, Nat.zero_le _⟩) hD hS hA (fun r u H locs hw hP hD hS => ?_)
    obtain ⟨rfl, rfl⟩ := hw
    exact W.zret (v := bi (fX4_load p0 x).1) hx hb hr (bi_nar _) (fun t ht hW => ⟨⟨bi (fX4_load p0 x).1, ((fX4_load p0 x).2), rfl, ⟨(by unfold fX4_execute; rw [if_pos c_4_3] <;> rfl), (by unfold fX4_execute; rw [if_pos c_4_3] <;> rfl)⟩, hpT ht hP⟩, hS.F ht⟩) hS.2.2 dX4_execute_164
  by_cases c_4_15 : (fX1_op p0) = (15 : Int32)
  · refine lv_lookup (off := 179) (tgt := 183) hx hb dX4_execute_4 (by decide) (by rw [c_4_15]; decide) (by decide) ?_
    refine lv_aload_n hx hb dX4_execute_183 rfl (lv_at hl 0 rfl) ?_
    refine k_mi (w := wD aH aM aW aC aR iW iR) wD_ad (va_runV (As := []) (rest := []) ⟨hx, hb, hml, hown, hB⟩ (mX4_goOn l dC dI aH aM aW aC aR iW iR s.heap.size x) (cwV 0 hB (gV q_t2_40 q_t2_42 q_s_14 q_t1_1 wX4_goOn) rfl rfl rfl hX4_goOn ⟨Nat.le_of_ble_eq_true rfl, Nat.le_of_ble_eq_true rfl⟩) ⟨kM_blind NW_blind, va_recv hK hP (ci := 2) (q0 := 0) rfl rfl, kM_pre NW_warm hP hK hD hN⟩ rfl rfl hl.1 rfl (lv_room (Nat.le_of_ble_eq_true rfl)) dX4_execute_184 ⟨Nat.zero_le _, Nat.zero_le _⟩) hD hS hA (fun r u H locs hw hP hD hS => ?_)
    obtain ⟨rfl, rfl⟩ := hw
    exact W.zret (v := bi (fX4_goOn x).1) hx hb hr (bi_nar _) (fun t ht hW => ⟨⟨bi (fX4_goOn x).1, ((fX4_goOn x).2), rfl, ⟨(by unfold fX4_execute; rw [if_neg c_4_3, if_pos c_4_15] <;> rfl), (by unfold fX4_execute; rw [if_neg c_4_3, if_pos c_4_15] <;> rfl)⟩, hpT ht hP⟩, hS.F ht⟩) hS.2.2 dX4_execute_187
  by_cases c_4_19 : (fX1_op p0) = (19 : Int32)
  · refine lv_lookup (off := 167) (tgt := 171) hx hb dX4_execute_4 (by decide) (by rw [c_4_19]; decide) (by decide) ?_
    refine lv_aload_n hx hb dX4_execute_171 rfl (lv_at hl 0 rfl) ?_
    refine lv_iload_n hx hb dX4_execute_172 rfl (lv_at hl 1 rfl) ?_
    refine k_mi (w := wD aH aM aW aC aR iW iR) wD_ad (va_runV (As := [.int p0]) (rest := []) ⟨hx, hb, hml, hown, hB⟩ (mX4_computeWithNumber l dC dI aH aM aW aC aR iW iR s.heap.size x p0) (cwV 1 hB (gV q_t2_129 q_t2_131 q_s_26 q_t1_1 wX4_computeWithNumber) rfl rfl rfl hX4_computeWithNumber ⟨Nat.le_of_ble_eq_true rfl, Nat.le_of_ble_eq_true rfl⟩) ⟨kM_blind NW_blind, va_recv hK hP (ci := 2) (q0 := 0) rfl rfl, kM_pre NW_warm hP hK hD hN⟩ rfl rfl hl.1 rfl (lv_room (Nat.le_of_ble_eq_true rfl)) dX4_execute_173 ⟨Nat.zero_le _, Nat.zero_le _⟩) hD hS hA (fun r u H locs hw hP hD hS => ?_)
    obtain ⟨rfl, rfl⟩ := hw
    exact W.zret (v := bi (fX4_computeWithNumber p0 x).1) hx hb hr (bi_nar _) (fun t ht hW => ⟨⟨bi (fX4_computeWithNumber p0 x).1, ((fX4_computeWithNumber p0 x).2), rfl, ⟨(by unfold fX4_execute; rw [if_neg c_4_3, if_neg c_4_15, if_pos c_4_19] <;> rfl), (by unfold fX4_execute; rw [if_neg c_4_3, if_neg c_4_15, if_pos c_4_19] <;> rfl)⟩, hpT ht hP⟩, hS.F ht⟩) hS.2.2 dX4_execute_176
  by_cases c_4_23 : (fX1_op p0) = (23 : Int32)
  · refine lv_lookup (off := 110) (tgt := 114) hx hb dX4_execute_4 (by decide) (by rw [c_4_23]; decide) (by decide) ?_
    refine lv_aload_n hx hb dX4_execute_114 rfl (lv_at hl 0 rfl) ?_
    refine lv_iload_n hx hb dX4_execute_115 rfl (lv_at hl 1 rfl) ?_
    refine lv_aload_n hx hb dX4_execute_116 rfl (lv_at hl 0 rfl) ?_
    refine va_get (D := (dC, dI)) (ci := 2) (v := .int (g_pc x)) (C := RX4) (T := TX4) (N := 7) hx hb hB iX4 hown hK hP 0 rfl rfl 3 (by decide) (hB _ q_t1_73) (fun _ h9 => h9) rfl dX4_execute_117 ?_
    refine lv_iload_n hx hb dX4_execute_120 rfl (lv_at hl 1 rfl) ?_
    refine k_ri (va_runSN (As := [.int p0]) (rest := [.int (g_pc x), .int p0, .ref aH]) ⟨hx, hb, hml, hown, hB⟩ (mX1_numberU l p0) ⟨va_cnB 1 hB (good_in wX1_numberU) rfl rfl rfl (hN _ (List.mem_of_getElem? (i := 31) rfl)) (hB _ q_t1_10) hX1_numberU.2 ⟨Nat.le_of_ble_eq_true rfl, Nat.le_of_ble_eq_true rfl⟩, hB _ q_t2_31, trivial⟩ ⟨fun _ _ _ _ q => q, fun U _ _ => ⟨rfl, trivial⟩⟩ rfl rfl hl.1 rfl (lv_room (Nat.le_of_ble_eq_true rfl)) dX4_execute_121 ⟨Nat.zero_le _, Nat.zero_le _⟩) ?_
    refine lv_iadd hx hb dX4_execute_124 ?_
    refine k_mi (w := wD aH aM aW aC aR iW iR) wD_ad (va_runV (As := [.int p0, .int ((g_pc x) + (fX1_numberU p0))]) (rest := []) ⟨hx, hb, hml, hown, hB⟩ (mX4_goOnWith l dC dI aH aM aW aC aR iW iR s.heap.size x p0 ((g_pc x) + (fX1_numberU p0))) (cwV 2 hB (gV q_t2_33 q_t2_35 q_s_13 q_t1_1 wX4_goOnWith) rfl rfl rfl hX4_goOnWith ⟨Nat.le_of_ble_eq_true rfl, Nat.le_of_ble_eq_true rfl⟩) ⟨kM_blind NW_blind, va_recv hK hP (ci := 2) (q0 := 0) rfl rfl, kM_pre NW_warm hP hK hD hN⟩ rfl rfl hl.1 rfl (lv_room (Nat.le_of_ble_eq_true rfl)) dX4_execute_125 ⟨Nat.zero_le _, Nat.zero_le _⟩) hD hS hA (fun r u H locs hw hP hD hS => ?_)
    obtain ⟨rfl, rfl⟩ := hw
    exact W.zret (v := bi (fX4_goOnWith p0 ((g_pc x) + (fX1_numberU p0)) x).1) hx hb hr (bi_nar _) (fun t ht hW => ⟨⟨bi (fX4_goOnWith p0 ((g_pc x) + (fX1_numberU p0)) x).1, ((fX4_goOnWith p0 ((g_pc x) + (fX1_numberU p0)) x).2), rfl, ⟨(by unfold fX4_execute; rw [if_neg c_4_3, if_neg c_4_15, if_neg c_4_19, if_pos c_4_23] <;> rfl), (by unfold fX4_execute; rw [if_neg c_4_3, if_neg c_4_15, if_neg c_4_19, if_pos c_4_23] <;> rfl)⟩, hpT ht hP⟩, hS.F ht⟩) hS.2.2 dX4_execute_128
  by_cases c_4_35 : (fX1_op p0) = (35 : Int32)
  · refine lv_lookup (off := 161) (tgt := 165) hx hb dX4_execute_4 (by decide) (by rw [c_4_35]; decide) (by decide) ?_
    refine lv_aload_n hx hb dX4_execute_165 rfl (lv_at hl 0 rfl) ?_
    refine lv_iload_n hx hb dX4_execute_166 rfl (lv_at hl 1 rfl) ?_
    refine k_mi (w := wD aH aM aW aC aR iW iR) wD_ad (va_runV (As := [.int p0]) (rest := []) ⟨hx, hb, hml, hown, hB⟩ (mX4_store l dC dI aH aM aW aC aR iW iR s.heap.size x p0) (cwV 1 hB (gV q_t2_113 q_t2_115 q_s_24 q_t1_1 wX4_store) rfl rfl rfl hX4_store ⟨Nat.le_of_ble_eq_true rfl, Nat.le_of_ble_eq_true rfl⟩) ⟨kM_blind NW_blind, va_recv hK hP (ci := 2) (q0 := 0) rfl rfl, kM_pre NW_warm hP hK hD hN⟩ rfl rfl hl.1 rfl (lv_room (Nat.le_of_ble_eq_true rfl)) dX4_execute_167 ⟨Nat.zero_le _, Nat.zero_le _⟩) hD hS hA (fun r u H locs hw hP hD hS => ?_)
    obtain ⟨rfl, rfl⟩ := hw
    exact W.zret (v := bi (fX4_store p0 x).1) hx hb hr (bi_nar _) (fun t ht hW => ⟨⟨bi (fX4_store p0 x).1, ((fX4_store p0 x).2), rfl, ⟨(by unfold fX4_execute; rw [if_neg c_4_3, if_neg c_4_15, if_neg c_4_19, if_neg c_4_23, if_pos c_4_35] <;> rfl), (by unfold fX4_execute; rw [if_neg c_4_3, if_neg c_4_15, if_neg c_4_19, if_neg c_4_23, if_pos c_4_35] <;> rfl)⟩, hpT ht hP⟩, hS.F ht⟩) hS.2.2 dX4_execute_170
  by_cases c_4_51 : (fX1_op p0) = (51 : Int32)
  · refine lv_lookup (off := 173) (tgt := 177) hx hb dX4_execute_4 (by decide) (by rw [c_4_51]; decide) (by decide) ?_
    refine lv_aload_n hx hb dX4_execute_177 rfl (lv_at hl 0 rfl) ?_
    refine lv_iload_n hx hb dX4_execute_178 rfl (lv_at hl 1 rfl) ?_
    refine k_mi (w := wD aH aM aW aC aR iW iR) wD_ad (va_runV (As := [.int p0]) (rest := []) ⟨hx, hb, hml, hown, hB⟩ (mX4_computeWithRegister l dC dI aH aM aW aC aR iW iR s.heap.size x p0) (cwV 1 hB (gV q_t2_139 q_t2_141 q_s_27 q_t1_1 wX4_computeWithRegister) rfl rfl rfl hX4_computeWithRegister ⟨Nat.le_of_ble_eq_true rfl, Nat.le_of_ble_eq_true rfl⟩) ⟨kM_blind NW_blind, va_recv hK hP (ci := 2) (q0 := 0) rfl rfl, kM_pre NW_warm hP hK hD hN⟩ rfl rfl hl.1 rfl (lv_room (Nat.le_of_ble_eq_true rfl)) dX4_execute_179 ⟨Nat.zero_le _, Nat.zero_le _⟩) hD hS hA (fun r u H locs hw hP hD hS => ?_)
    obtain ⟨rfl, rfl⟩ := hw
    exact W.zret (v := bi (fX4_computeWithRegister p0 x).1) hx hb hr (bi_nar _) (fun t ht hW => ⟨⟨bi (fX4_computeWithRegister p0 x).1, ((fX4_computeWithRegister p0 x).2), rfl, ⟨(by unfold fX4_execute; rw [if_neg c_4_3, if_neg c_4_15, if_neg c_4_19, if_neg c_4_23, if_neg c_4_35, if_pos c_4_51] <;> rfl), (by unfold fX4_execute; rw [if_neg c_4_3, if_neg c_4_15, if_neg c_4_19, if_neg c_4_23, if_neg c_4_35, if_pos c_4_51] <;> rfl)⟩, hpT ht hP⟩, hS.F ht⟩) hS.2.2 dX4_execute_182
  by_cases c_4_55 : (fX1_op p0) = (55 : Int32)
  · refine lv_lookup (off := 100) (tgt := 104) hx hb dX4_execute_4 (by decide) (by rw [c_4_55]; decide) (by decide) ?_
    refine lv_aload_n hx hb dX4_execute_104 rfl (lv_at hl 0 rfl) ?_
    refine lv_iload_n hx hb dX4_execute_105 rfl (lv_at hl 1 rfl) ?_
    refine lv_iload_n hx hb dX4_execute_106 rfl (lv_at hl 1 rfl) ?_
    refine k_ri (va_runSN (As := [.int p0]) (rest := [.int p0, .ref aH]) ⟨hx, hb, hml, hown, hB⟩ (mX1_numberU l p0) ⟨va_cnB 1 hB (good_in wX1_numberU) rfl rfl rfl (hN _ (List.mem_of_getElem? (i := 31) rfl)) (hB _ q_t1_10) hX1_numberU.2 ⟨Nat.le_of_ble_eq_true rfl, Nat.le_of_ble_eq_true rfl⟩, hB _ q_t2_31, trivial⟩ ⟨fun _ _ _ _ q => q, fun U _ _ => ⟨rfl, trivial⟩⟩ rfl rfl hl.1 rfl (lv_room (Nat.le_of_ble_eq_true rfl)) dX4_execute_107 ⟨Nat.zero_le _, Nat.zero_le _⟩) ?_
    refine k_mi (w := wD aH aM aW aC aR iW iR) wD_ad (va_runV (As := [.int p0, .int (fX1_numberU p0)]) (rest := []) ⟨hx, hb, hml, hown, hB⟩ (mX4_goOnWith l dC dI aH aM aW aC aR iW iR s.heap.size x p0 (fX1_numberU p0)) (cwV 2 hB (gV q_t2_33 q_t2_35 q_s_13 q_t1_1 wX4_goOnWith) rfl rfl rfl hX4_goOnWith ⟨Nat.le_of_ble_eq_true rfl, Nat.le_of_ble_eq_true rfl⟩) ⟨kM_blind NW_blind, va_recv hK hP (ci := 2) (q0 := 0) rfl rfl, kM_pre NW_warm hP hK hD hN⟩ rfl rfl hl.1 rfl (lv_room (Nat.le_of_ble_eq_true rfl)) dX4_execute_110 ⟨Nat.zero_le _, Nat.zero_le _⟩) hD hS hA (fun r u H locs hw hP hD hS => ?_)
    obtain ⟨rfl, rfl⟩ := hw
    exact W.zret (v := bi (fX4_goOnWith p0 (fX1_numberU p0) x).1) hx hb hr (bi_nar _) (fun t ht hW => ⟨⟨bi (fX4_goOnWith p0 (fX1_numberU p0) x).1, ((fX4_goOnWith p0 (fX1_numberU p0) x).2), rfl, ⟨(by unfold fX4_execute; rw [if_neg c_4_3, if_neg c_4_15, if_neg c_4_19, if_neg c_4_23, if_neg c_4_35, if_neg c_4_51, if_pos c_4_55] <;> rfl), (by unfold fX4_execute; rw [if_neg c_4_3, if_neg c_4_15, if_neg c_4_19, if_neg c_4_23, if_neg c_4_35, if_neg c_4_51, if_pos c_4_55] <;> rfl)⟩, hpT ht hP⟩, hS.F ht⟩) hS.2.2 dX4_execute_113
  by_cases c_4_99 : (fX1_op p0) = (99 : Int32)
  · refine lv_lookup (off := 149) (tgt := 153) hx hb dX4_execute_4 (by decide) (by rw [c_4_99]; decide) (by decide) ?_
    refine lv_aload_n hx hb dX4_execute_153 rfl (lv_at hl 0 rfl) ?_
    refine lv_iload_n hx hb dX4_execute_154 rfl (lv_at hl 1 rfl) ?_
    refine k_mi (w := wD aH aM aW aC aR iW iR) wD_ad (va_runV (As := [.int p0]) (rest := []) ⟨hx, hb, hml, hown, hB⟩ (mX4_branch l dC dI aH aM aW aC aR iW iR s.heap.size x p0) (cwV 1 hB (gV q_t2_76 q_t2_78 q_s_20 q_t1_1 wX4_branch) rfl rfl rfl hX4_branch ⟨Nat.le_of_ble_eq_true rfl, Nat.le_of_ble_eq_true rfl⟩) ⟨kM_blind NW_blind, va_recv hK hP (ci := 2) (q0 := 0) rfl rfl, kM_pre NW_warm hP hK hD hN⟩ rfl rfl hl.1 rfl (lv_room (Nat.le_of_ble_eq_true rfl)) dX4_execute_155 ⟨Nat.zero_le _, Nat.zero_le _⟩) hD hS hA (fun r u H locs hw hP hD hS => ?_)
    obtain ⟨rfl, rfl⟩ := hw
    exact W.zret (v := bi (fX4_branch p0 x).1) hx hb hr (bi_nar _) (fun t ht hW => ⟨⟨bi (fX4_branch p0 x).1, ((fX4_branch p0 x).2), rfl, ⟨(by unfold fX4_execute; rw [if_neg c_4_3, if_neg c_4_15, if_neg c_4_19, if_neg c_4_23, if_neg c_4_35, if_neg c_4_51, if_neg c_4_55, if_pos c_4_99] <;> rfl), (by unfold fX4_execute; rw [if_neg c_4_3, if_neg c_4_15, if_neg c_4_19, if_neg c_4_23, if_neg c_4_35, if_neg c_4_51, if_neg c_4_55, if_pos c_4_99] <;> rfl)⟩, hpT ht hP⟩, hS.F ht⟩) hS.2.2 dX4_execute_158
  by_cases c_4_103 : (fX1_op p0) = (103 : Int32)
  · refine lv_lookup (off := 143) (tgt := 147) hx hb dX4_execute_4 (by decide) (by rw [c_4_103]; decide) (by decide) ?_
    refine lv_aload_n hx hb dX4_execute_147 rfl (lv_at hl 0 rfl) ?_
    refine lv_iload_n hx hb dX4_execute_148 rfl (lv_at hl 1 rfl) ?_
    refine k_mi (w := wD aH aM aW aC aR iW iR) wD_ad (va_runV (As := [.int p0]) (rest := []) ⟨hx, hb, hml, hown, hB⟩ (mX4_jumpByRegister l dC dI aH aM aW aC aR iW iR s.heap.size x p0) (cwV 1 hB (gV q_t2_51 q_t2_53 q_s_16 q_t1_1 wX4_jumpByRegister) rfl rfl rfl hX4_jumpByRegister ⟨Nat.le_of_ble_eq_true rfl, Nat.le_of_ble_eq_true rfl⟩) ⟨kM_blind NW_blind, va_recv hK hP (ci := 2) (q0 := 0) rfl rfl, kM_pre NW_warm hP hK hD hN⟩ rfl rfl hl.1 rfl (lv_room (Nat.le_of_ble_eq_true rfl)) dX4_execute_149 ⟨Nat.zero_le _, Nat.zero_le _⟩) hD hS hA (fun r u H locs hw hP hD hS => ?_)
    obtain ⟨rfl, rfl⟩ := hw
    exact W.zret (v := bi (fX4_jumpByRegister p0 x).1) hx hb hr (bi_nar _) (fun t ht hW => ⟨⟨bi (fX4_jumpByRegister p0 x).1, ((fX4_jumpByRegister p0 x).2), rfl, ⟨(by unfold fX4_execute; rw [if_neg c_4_3, if_neg c_4_15, if_neg c_4_19, if_neg c_4_23, if_neg c_4_35, if_neg c_4_51, if_neg c_4_55, if_neg c_4_99, if_pos c_4_103] <;> rfl), (by unfold fX4_execute; rw [if_neg c_4_3, if_neg c_4_15, if_neg c_4_19, if_neg c_4_23, if_neg c_4_35, if_neg c_4_51, if_neg c_4_55, if_neg c_4_99, if_pos c_4_103] <;> rfl)⟩, hpT ht hP⟩, hS.F ht⟩) hS.2.2 dX4_execute_152
  by_cases c_4_111 : (fX1_op p0) = (111 : Int32)
  · refine lv_lookup (off := 125) (tgt := 129) hx hb dX4_execute_4 (by decide) (by rw [c_4_111]; decide) (by decide) ?_
    refine lv_aload_n hx hb dX4_execute_129 rfl (lv_at hl 0 rfl) ?_
    refine lv_iload_n hx hb dX4_execute_130 rfl (lv_at hl 1 rfl) ?_
    refine k_ri (va_runSN (As := [.int p0]) (rest := [.ref aH]) ⟨hx, hb, hml, hown, hB⟩ (mX1_d l p0) ⟨va_cnB 1 hB (good_in wX1_d) rfl rfl rfl (hN _ (List.mem_of_getElem? (i := 2) rfl)) (hB _ q_t1_10) hX1_d.2 ⟨Nat.le_of_ble_eq_true rfl, Nat.le_of_ble_eq_true rfl⟩, hB _ q_t2_38, trivial⟩ ⟨fun _ _ _ _ q => q, fun U _ _ => ⟨rfl, trivial⟩⟩ rfl rfl hl.1 rfl (lv_room (Nat.le_of_ble_eq_true rfl)) dX4_execute_131 ⟨Nat.zero_le _, Nat.zero_le _⟩) ?_
    refine lv_aload_n hx hb dX4_execute_134 rfl (lv_at hl 0 rfl) ?_
    refine va_get (D := (dC, dI)) (ci := 2) (v := .int (g_pc x)) (C := RX4) (T := TX4) (N := 7) hx hb hB iX4 hown hK hP 0 rfl rfl 3 (by decide) (hB _ q_t1_73) (fun _ h9 => h9) rfl dX4_execute_135 ?_
    refine lv_iload_n hx hb dX4_execute_138 rfl (lv_at hl 1 rfl) ?_
    refine k_ri (va_runSN (As := [.int p0]) (rest := [.int (g_pc x), .int (fX1_d p0), .ref aH]) ⟨hx, hb, hml, hown, hB⟩ (mX1_numberJ l p0) ⟨va_cnB 1 hB (good_in wX1_numberJ) rfl rfl rfl (hN _ (List.mem_of_getElem? (i := 32) rfl)) (hB _ q_t1_10) hX1_numberJ.2 ⟨Nat.le_of_ble_eq_true rfl, Nat.le_of_ble_eq_true rfl⟩, hB _ q_t2_45, trivial⟩ ⟨fun _ _ _ _ q => q, fun U _ _ => ⟨rfl, trivial⟩⟩ rfl rfl hl.1 rfl (lv_room (Nat.le_of_ble_eq_true rfl)) dX4_execute_139 ⟨Nat.zero_le _, Nat.zero_le _⟩) ?_
    refine lv_iadd hx hb dX4_execute_142 ?_
    refine k_mi (w := wD aH aM aW aC aR iW iR) wD_ad (va_runV (As := [.int (fX1_d p0), .int ((g_pc x) + (fX1_numberJ p0))]) (rest := []) ⟨hx, hb, hml, hown, hB⟩ (mX4_jump l dC dI aH aM aW aC aR iW iR s.heap.size x (fX1_d p0) ((g_pc x) + (fX1_numberJ p0))) (cwV 2 hB (gV q_t2_47 q_t2_49 q_s_15 q_t1_1 wX4_jump) rfl rfl rfl hX4_jump ⟨Nat.le_of_ble_eq_true rfl, Nat.le_of_ble_eq_true rfl⟩) ⟨kM_blind NW_blind, va_recv hK hP (ci := 2) (q0 := 0) rfl rfl, kM_pre NW_warm hP hK hD hN⟩ rfl rfl hl.1 rfl (lv_room (Nat.le_of_ble_eq_true rfl)) dX4_execute_143 ⟨Nat.zero_le _, Nat.zero_le _⟩) hD hS hA (fun r u H locs hw hP hD hS => ?_)
    obtain ⟨rfl, rfl⟩ := hw
    exact W.zret (v := bi (fX4_jump (fX1_d p0) ((g_pc x) + (fX1_numberJ p0)) x).1) hx hb hr (bi_nar _) (fun t ht hW => ⟨⟨bi (fX4_jump (fX1_d p0) ((g_pc x) + (fX1_numberJ p0)) x).1, ((fX4_jump (fX1_d p0) ((g_pc x) + (fX1_numberJ p0)) x).2), rfl, ⟨(by unfold fX4_execute; rw [if_neg c_4_3, if_neg c_4_15, if_neg c_4_19, if_neg c_4_23, if_neg c_4_35, if_neg c_4_51, if_neg c_4_55, if_neg c_4_99, if_neg c_4_103, if_pos c_4_111] <;> rfl), (by unfold fX4_execute; rw [if_neg c_4_3, if_neg c_4_15, if_neg c_4_19, if_neg c_4_23, if_neg c_4_35, if_neg c_4_51, if_neg c_4_55, if_neg c_4_99, if_neg c_4_103, if_pos c_4_111] <;> rfl)⟩, hpT ht hP⟩, hS.F ht⟩) hS.2.2 dX4_execute_146
  by_cases c_4_115 : (fX1_op p0) = (115 : Int32)
  · refine lv_lookup (off := 184) (tgt := 188) hx hb dX4_execute_4 (by decide) (by rw [c_4_115]; decide) (by decide) ?_
    refine lv_iload_n hx hb dX4_execute_188 rfl (lv_at hl 1 rfl) ?_
    refine k_ri (va_runSN (As := [.int p0]) (rest := []) ⟨hx, hb, hml, hown, hB⟩ (mX1_f l p0) ⟨va_cnB 1 hB (good_in wX1_f) rfl rfl rfl (hN _ (List.mem_of_getElem? (i := 5) rfl)) (hB _ q_t1_10) hX1_f.2 ⟨Nat.le_of_ble_eq_true rfl, Nat.le_of_ble_eq_true rfl⟩, hB _ q_t2_56, trivial⟩ ⟨fun _ _ _ _ q => q, fun U _ _ => ⟨rfl, trivial⟩⟩ rfl rfl hl.1 rfl (lv_room (Nat.le_of_ble_eq_true rfl)) dX4_execute_189 ⟨Nat.zero_le _, Nat.zero_le _⟩) ?_
    refine lv_if_ne (tgt := 203) hx hb dX4_execute_192 (by decide) (fun c_192 => ?_) (fun c_192 => ?_)
    · refine lv_aload_n hx hb dX4_execute_203 rfl (lv_at hl 0 rfl) ?_
      refine lv_iload_n hx hb dX4_execute_204 rfl (lv_at hl 1 rfl) ?_
      refine k_mi (w := wD aH aM aW aC aR iW iR) wD_ad (va_runV (As := [.int p0]) (rest := []) ⟨hx, hb, hml, hown, hB⟩ (mX4_exchangeControl l dC dI aH aM aW aC aR iW iR s.heap.size x p0) (cwV 1 hB (gV q_t2_160 q_t2_162 q_s_30 q_t1_1 wX4_exchangeControl) rfl rfl rfl hX4_exchangeControl ⟨Nat.le_of_ble_eq_true rfl, Nat.le_of_ble_eq_true rfl⟩) ⟨kM_blind NW_blind, va_recv hK hP (ci := 2) (q0 := 0) rfl rfl, kM_pre NW_warm hP hK hD hN⟩ rfl rfl hl.1 rfl (lv_room (Nat.le_of_ble_eq_true rfl)) dX4_execute_205 ⟨Nat.zero_le _, Nat.zero_le _⟩) hD hS hA (fun r u H locs hw hP hD hS => ?_)
      obtain ⟨rfl, rfl⟩ := hw
      exact W.zret (v := bi (fX4_exchangeControl p0 x).1) hx hb hr (bi_nar _) (fun t ht hW => ⟨⟨bi (fX4_exchangeControl p0 x).1, ((fX4_exchangeControl p0 x).2), rfl, ⟨(by unfold fX4_execute; rw [if_neg c_4_3, if_neg c_4_15, if_neg c_4_19, if_neg c_4_23, if_neg c_4_35, if_neg c_4_51, if_neg c_4_55, if_neg c_4_99, if_neg c_4_103, if_neg c_4_111, if_pos c_4_115, if_neg c_192] <;> rfl), (by unfold fX4_execute; rw [if_neg c_4_3, if_neg c_4_15, if_neg c_4_19, if_neg c_4_23, if_neg c_4_35, if_neg c_4_51, if_neg c_4_55, if_neg c_4_99, if_neg c_4_103, if_neg c_4_111, if_pos c_4_115, if_neg c_192] <;> rfl)⟩, hpT ht hP⟩, hS.F ht⟩) hS.2.2 dX4_execute_208
    · refine lv_aload_n hx hb dX4_execute_195 rfl (lv_at hl 0 rfl) ?_
      refine lv_iload_n hx hb dX4_execute_196 rfl (lv_at hl 1 rfl) ?_
      refine k_mi (w := wD aH aM aW aC aR iW iR) wD_ad (va_runV (As := [.int p0]) (rest := []) ⟨hx, hb, hml, hown, hB⟩ (mX4_callSystem l dC dI aH aM aW aC aR iW iR s.heap.size x p0) (cwV 1 hB (gV q_t2_152 q_t2_154 q_s_28 q_t1_1 wX4_callSystem) rfl rfl rfl hX4_callSystem ⟨Nat.le_of_ble_eq_true rfl, Nat.le_of_ble_eq_true rfl⟩) ⟨kM_blind NW_blind, va_recv hK hP (ci := 2) (q0 := 0) rfl rfl, kM_pre NW_warm hP hK hD hN⟩ rfl rfl hl.1 rfl (lv_room (Nat.le_of_ble_eq_true rfl)) dX4_execute_197 ⟨Nat.zero_le _, Nat.zero_le _⟩) hD hS hA (fun r u H locs hw hP hD hS => ?_)
      obtain ⟨rfl, rfl⟩ := hw
      refine lv_goto (tgt := 208) hx hb dX4_execute_200 (by decide) ?_
      exact W.zret (v := bi (fX4_callSystem p0 x).1) hx hb hr (bi_nar _) (fun t ht hW => ⟨⟨bi (fX4_callSystem p0 x).1, ((fX4_callSystem p0 x).2), rfl, ⟨(by unfold fX4_execute; rw [if_neg c_4_3, if_neg c_4_15, if_neg c_4_19, if_neg c_4_23, if_neg c_4_35, if_neg c_4_51, if_neg c_4_55, if_neg c_4_99, if_neg c_4_103, if_neg c_4_111, if_pos c_4_115, if_pos c_192] <;> rfl), (by unfold fX4_execute; rw [if_neg c_4_3, if_neg c_4_15, if_neg c_4_19, if_neg c_4_23, if_neg c_4_35, if_neg c_4_51, if_neg c_4_55, if_neg c_4_99, if_neg c_4_103, if_neg c_4_111, if_pos c_4_115, if_pos c_192] <;> rfl)⟩, hpT ht hP⟩, hS.F ht⟩) hS.2.2 dX4_execute_208
  refine lv_lookup (off := 205) (tgt := 209) hx hb dX4_execute_4 (by decide) ((lv_osw c_4_3 (by decide)).trans ((lv_osw c_4_15 (by decide)).trans ((lv_osw c_4_19 (by decide)).trans ((lv_osw c_4_23 (by decide)).trans ((lv_osw c_4_35 (by decide)).trans ((lv_osw c_4_51 (by decide)).trans ((lv_osw c_4_55 (by decide)).trans ((lv_osw c_4_99 (by decide)).trans ((lv_osw c_4_103 (by decide)).trans ((lv_osw c_4_111 (by decide)).trans ((lv_osw c_4_115 (by decide)).trans rfl))))))))))) (by decide) ?_
  refine lv_aload_n hx hb dX4_execute_209 rfl (lv_at hl 0 rfl) ?_
  refine lv_iload_n hx hb dX4_execute_210 rfl (lv_at hl 1 rfl) ?_
  refine k_mi (w := wD aH aM aW aC aR iW iR) wD_ad (va_runV (As := [.int p0]) (rest := []) ⟨hx, hb, hml, hown, hB⟩ (mX4_unknown l dC dI aH aM aW aC aR iW iR s.heap.size x p0) (cwV 1 hB (gV q_t2_58 q_t2_60 q_s_17 q_t1_1 wX4_unknown) rfl rfl rfl hX4_unknown ⟨Nat.le_of_ble_eq_true rfl, Nat.le_of_ble_eq_true rfl⟩) ⟨kM_blind NW_blind, va_recv hK hP (ci := 2) (q0 := 0) rfl rfl, kM_pre NW_warm hP hK hD hN⟩ rfl rfl hl.1 rfl (lv_room (Nat.le_of_ble_eq_true rfl)) dX4_execute_211 ⟨Nat.zero_le _, Nat.zero_le _⟩) hD hS hA (fun r u H locs hw hP hD hS => ?_)
  obtain ⟨rfl, rfl⟩ := hw
  exact W.zret (v := bi (fX4_unknown p0 x).1) hx hb hr (bi_nar _) (fun t ht hW => ⟨⟨bi (fX4_unknown p0 x).1, ((fX4_unknown p0 x).2), rfl, ⟨(by unfold fX4_execute; rw [if_neg c_4_3, if_neg c_4_15, if_neg c_4_19, if_neg c_4_23, if_neg c_4_35, if_neg c_4_51, if_neg c_4_55, if_neg c_4_99, if_neg c_4_103, if_neg c_4_111, if_neg c_4_115] <;> rfl), (by unfold fX4_execute; rw [if_neg c_4_3, if_neg c_4_15, if_neg c_4_19, if_neg c_4_23, if_neg c_4_35, if_neg c_4_51, if_neg c_4_55, if_neg c_4_99, if_neg c_4_103, if_neg c_4_111, if_neg c_4_115] <;> rfl)⟩, hpT ht hP⟩, hS.F ht⟩) hS.2.2 dX4_execute_214
def fX4_step (x : St) : St := if (bi (fX2_isInterrupted (s_steps x ((g_steps x) + (1 : Int32))))) = 0 then
    if (bi (fX3_holds (g_pc x))) = 0 then
      (fX4_trap (1 : Int32) (g_pc x) (s_steps x ((g_steps x) + (1 : Int32)))).2
    else
      if (bi (fX4_execute (fX3_readWord (g_pc x) (s_steps x ((g_steps x) + (1 : Int32)))) (s_steps x ((g_steps x) + (1 : Int32)))).1) = 0 then
        (fX4_execute (fX3_readWord (g_pc x) (s_steps x ((g_steps x) + (1 : Int32)))) (s_steps x ((g_steps x) + (1 : Int32)))).2
      else
        s_done ((fX4_execute (fX3_readWord (g_pc x) (s_steps x ((g_steps x) + (1 : Int32)))) (s_steps x ((g_steps x) + (1 : Int32)))).2) ((g_done ((fX4_execute (fX3_readWord (g_pc x) (s_steps x ((g_steps x) + (1 : Int32)))) (s_steps x ((g_steps x) + (1 : Int32)))).2)) + (1 : Int32))
  else
    (fX4_trap (-2147483637 : Int32) (0 : Int32) (s_steps x ((g_steps x) + (1 : Int32)))).2
set_option maxHeartbeats 4000000 in
set_option maxRecDepth 100000 in
theorem mX4_step (l : Launch) (dC : Nat → ClassId) (dI : Nat → Nat → Nat) (aH aM aW aC aR iW iR : Nat) (sz : Nat) (x : St) : Met l yX4_step wsX4_step ({ frames := 5, cells := 0, slots := 0, locals := 114 }) (va_Pc [.ref aH] (kM (dC, dI) [(iW, .int), (iR, .int)] NW (wD aH aM aW aC aR iW iR x) sz)) (va_Qv (fun u => u = fX4_step x) (fun u t => va_P (dC, dI) vwCl (wD aH aM aW aC aR iW iR u) t.heap) (va_A (wD aH aM aW aC aR iW iR x) sz)) 0 0 (va_A (wD aH aM aW aC aR iW iR x) sz) := by
  refine Met.ofW (cc := cX4_step) (maxL := 1) (ret := none) (by decide) rfl ?_
  intro p e s m args below meth c s₁ B hml hv
  obtain ⟨rfl, hsz, hD0, hP, hK, hN⟩ := hv
  have hx := B.exec
  have hb := B.bytes
  have hr := B.returns
  have hB := fun (w : Cond) (h : w ∈ BIG) => atoms_spec (ws := wsX4_step) B.pre w (List.mem_cons_of_mem _ h)
  have hown : s.vm.findClass RX4 = some m.cls := findClass_of_methodNamed B.named
  have hlocks := B.notSynchronized
  subst hsz
  have hD := hD0.self (sz := s.heap.size)
  generalize hAe : va_A (wD aH aM aW aC aR iW iR x) s.heap.size = A at hD ⊢
  have hA : ∀ q : Nat, s.heap.size ≤ q → A q := fun q h => by rw [← hAe]; exact Or.inr h
  have hS : va_S A s.heap s.heap [] := va_S.rf
  have hl := lv_entry ([.ref aH]) (n := 1) (Nat.le_of_ble_eq_true rfl)
  rw [lg_entry_eq]
  generalize (lg_sl ([.ref aH]) ++ List.replicate (1 - (lg_sl ([.ref aH])).length) Slot.unset).toArray = ls at hl ⊢
  have hl : lv_has ls 1 [(0, .ref aH)] := hl
  refine lv_aload_n hx hb dX4_step_0 rfl (lv_at hl 0 rfl) ?_
  refine lv_dup hx hb dX4_step_1 rfl ?_
  refine va_get (D := (dC, dI)) (ci := 2) (v := .int (g_steps x)) (C := RX4) (T := TX4) (N := 7) hx hb hB iX4 hown hK hP 0 rfl rfl 5 (by decide) (hB _ q_t1_75) (fun _ h9 => h9) rfl dX4_step_2 ?_
  refine lv_iconst (v := 1) hx hb dX4_step_5 (by decide) ?_
  refine lv_iadd hx hb dX4_step_6 ?_
  refine va_put (D := (dC, dI)) (ci := 2) (v := .int ((g_steps x) + (1 : Int32))) (ty := .int) (C := RX4) (T := TX4) (N := 7) hx hb hB iX4 tyX4 tyX4_ok nmX4 hown hK hP hD hS 0 rfl rfl 5 (by decide) (hB _ q_t1_75) (fun _ h9 => h9) rfl (by decide +kernel) rfl rfl (Nat.le_of_ble_eq_true rfl) dX4_step_7 (fun H locs hP hD hS => ?_)
  have hP : va_P (dC, dI) vwCl (wD aH aM aW aC aR iW iR (s_steps x ((g_steps x) + (1 : Int32)))) H := hP
  have hD : va_D A (wD aH aM aW aC aR iW iR (s_steps x ((g_steps x) + (1 : Int32)))) := hD
  refine lv_aload_n hx hb dX4_step_10 rfl (lv_at hl 0 rfl) ?_
  refine va_get (D := (dC, dI)) (ci := 2) (v := .ref aC) (C := RX4) (T := TX4) (N := 7) hx hb hB iX4 hown hK hP 0 rfl rfl 1 (by decide) (hB _ q_t1_71) (fun _ h9 => h9) rfl dX4_step_11 ?_
  refine k_ri (va_runVN (As := []) (rest := []) ⟨hx, hb, hml, hown, hB⟩ (mX2_isInterrupted l dC dI aH aM aW aC aR iW iR (s_steps x ((g_steps x) + (1 : Int32)))) ⟨va_cnB 0 hB (good_in wX2_isInterrupted) rfl rfl rfl (hN _ (List.mem_of_getElem? (i := 33) rfl)) (hB _ q_t1_3) hX2_isInterrupted.2 ⟨Nat.le_of_ble_eq_true rfl, Nat.le_of_ble_eq_true rfl⟩, hB _ q_t2_7, hB _ q_s_8⟩ ⟨kP_blind NW_blind, va_recv hK hP (ci := 0) (q0 := 3) rfl rfl, kP_pre NW_warm hP hK hN⟩ rfl rfl hl.1 rfl (lv_room (Nat.le_of_ble_eq_true rfl)) dX4_step_14 ⟨Nat.zero_le _, Nat.zero_le _⟩) ?_
  refine lv_if_eq (tgt := 31) hx hb dX4_step_17 (by decide) (fun c_17 => ?_) (fun c_17 => ?_)
  · refine lv_aload_n hx hb dX4_step_31 rfl (lv_at hl 0 rfl) ?_
    refine va_get (D := (dC, dI)) (ci := 2) (v := .int (g_pc x)) (C := RX4) (T := TX4) (N := 7) hx hb hB iX4 hown hK hP 0 rfl rfl 3 (by decide) (hB _ q_t1_73) (fun _ h9 => h9) rfl dX4_step_32 ?_
    refine k_ri (va_runSN (As := [.int (g_pc x)]) (rest := []) ⟨hx, hb, hml, hown, hB⟩ (mX3_holds l (g_pc x)) ⟨va_cnB 1 hB (good_in wX3_holds) rfl rfl rfl (hN _ (List.mem_of_getElem? (i := 16) rfl)) (hB _ q_t1_2) hX3_holds.2 ⟨Nat.le_of_ble_eq_true rfl, Nat.le_of_ble_eq_true rfl⟩, hB _ q_t1_100, trivial⟩ ⟨fun _ _ _ _ q => q, fun U _ _ => ⟨rfl, trivial⟩⟩ rfl rfl hl.1 rfl (lv_room (Nat.le_of_ble_eq_true rfl)) dX4_step_35 ⟨Nat.zero_le _, Nat.zero_le _⟩) ?_
    refine lv_if_ne (tgt := 54) hx hb dX4_step_38 (by decide) (fun c_38 => ?_) (fun c_38 => ?_)
    · refine lv_aload_n hx hb dX4_step_54 rfl (lv_at hl 0 rfl) ?_
      refine lv_aload_n hx hb dX4_step_55 rfl (lv_at hl 0 rfl) ?_
      refine va_get (D := (dC, dI)) (ci := 2) (v := .ref aM) (C := RX4) (T := TX4) (N := 7) hx hb hB iX4 hown hK hP 0 rfl rfl 0 (by decide) (hB _ q_t1_70) (fun _ h9 => h9) rfl dX4_step_56 ?_
      refine lv_aload_n hx hb dX4_step_59 rfl (lv_at hl 0 rfl) ?_
      refine va_get (D := (dC, dI)) (ci := 2) (v := .int (g_pc x)) (C := RX4) (T := TX4) (N := 7) hx hb hB iX4 hown hK hP 0 rfl rfl 3 (by decide) (hB _ q_t1_73) (fun _ h9 => h9) rfl dX4_step_60 ?_
      refine k_ri (va_runVN (As := [.int (g_pc x)]) (rest := [.ref aH]) ⟨hx, hb, hml, hown, hB⟩ (mX3_readWord l dC dI aH aM aW aC aR iW iR (s_steps x ((g_steps x) + (1 : Int32))) (g_pc x)) ⟨va_cnB 1 hB (good_in wX3_readWord) rfl rfl rfl (hN _ (List.mem_of_getElem? (i := 34) rfl)) (hB _ q_t1_2) hX3_readWord.2 ⟨Nat.le_of_ble_eq_true rfl, Nat.le_of_ble_eq_true rfl⟩, hB _ q_t2_21, hB _ q_s_11⟩ ⟨kP_blind NW_blind, va_recv hK hP (ci := 1) (q0 := 1) rfl rfl, kP_pre NW_warm hP hK hN⟩ rfl rfl hl.1 rfl (lv_room (Nat.le_of_ble_eq_true rfl)) dX4_step_63 ⟨Nat.zero_le _, Nat.zero_le _⟩) ?_
      refine k_mi (w := wD aH aM aW aC aR iW iR) wD_ad (va_runV (As := [.int (fX3_readWord (g_pc x) (s_steps x ((g_steps x) + (1 : Int32))))]) (rest := []) ⟨hx, hb, hml, hown, hB⟩ (mX4_execute l dC dI aH aM aW aC aR iW iR H.size (s_steps x ((g_steps x) + (1 : Int32))) (fX3_readWord (g_pc x) (s_steps x ((g_steps x) + (1 : Int32))))) (cwV 1 hB (gV q_t2_23 q_t2_25 q_s_12 q_t1_1 wX4_execute) rfl rfl rfl hX4_execute ⟨Nat.le_of_ble_eq_true rfl, Nat.le_of_ble_eq_true rfl⟩) ⟨kM_blind NW_blind, va_recv hK hP (ci := 2) (q0 := 0) rfl rfl, kM_pre NW_warm hP hK hD hN⟩ rfl rfl hl.1 rfl (lv_room (Nat.le_of_ble_eq_true rfl)) dX4_step_66 ⟨Nat.zero_le _, Nat.zero_le _⟩) hD hS hA (fun r u H locs hw hP hD hS => ?_)
      obtain ⟨rfl, rfl⟩ := hw
      refine lv_if_eq (tgt := 85) hx hb dX4_step_69 (by decide) (fun c_69 => ?_) (fun c_69 => ?_)
      · exact W.vret hx hb hr (fun t ht hW => ⟨⟨((fX4_execute (fX3_readWord (g_pc x) (s_steps x ((g_steps x) + (1 : Int32)))) (s_steps x ((g_steps x) + (1 : Int32)))).2), rfl, (by unfold fX4_step; rw [if_pos c_17, if_neg c_38, if_pos c_69] <;> rfl), hpT ht hP⟩, hS.F ht⟩) hS.2.2 dX4_step_85
      · refine lv_aload_n hx hb dX4_step_72 rfl (lv_at hl 0 rfl) ?_
        refine va_get (D := (dC, dI)) (ci := 2) (v := .ref aC) (C := RX4) (T := TX4) (N := 7) hx hb hB iX4 hown hK hP 0 rfl rfl 1 (by decide) (hB _ q_t1_71) (fun _ h9 => h9) rfl dX4_step_73 ?_
        refine lv_dup hx hb dX4_step_76 rfl ?_
        refine va_getN (D := (dC, dI)) (ci := 0) (v := .int (g_done ((fX4_execute (fX3_readWord (g_pc x) (s_steps x ((g_steps x) + (1 : Int32)))) (s_steps x ((g_steps x) + (1 : Int32)))).2))) (C := RX2) (T := TX2) (N := 9) hx hb hB iX2 hown hK hP 3 rfl rfl 7 (by decide) (va_Nw.use rfl (hN _ (List.mem_of_getElem? (i := 12) rfl))) (fun _ h9 => h9) rfl dX4_step_77 ?_
        refine lv_iconst (v := 1) hx hb dX4_step_80 (by decide) ?_
        refine lv_iadd hx hb dX4_step_81 ?_
        refine va_putN (D := (dC, dI)) (ci := 0) (v := .int ((g_done ((fX4_execute (fX3_readWord (g_pc x) (s_steps x ((g_steps x) + (1 : Int32)))) (s_steps x ((g_steps x) + (1 : Int32)))).2)) + (1 : Int32))) (ty := .int) (C := RX2) (T := TX2) (N := 9) hx hb hB iX2 tyX2 tyX2_ok nmX2 hown hK hP hD hS 3 rfl rfl 7 (by decide) (va_Nw.use rfl (hN _ (List.mem_of_getElem? (i := 12) rfl))) (fun _ h9 => h9) rfl (by decide +kernel) rfl rfl (Nat.le_of_ble_eq_true rfl) dX4_step_82 (fun H locs hP hD hS => ?_)
        have hP : va_P (dC, dI) vwCl (wD aH aM aW aC aR iW iR (s_done ((fX4_execute (fX3_readWord (g_pc x) (s_steps x ((g_steps x) + (1 : Int32)))) (s_steps x ((g_steps x) + (1 : Int32)))).2) ((g_done ((fX4_execute (fX3_readWord (g_pc x) (s_steps x ((g_steps x) + (1 : Int32)))) (s_steps x ((g_steps x) + (1 : Int32)))).2)) + (1 : Int32)))) H := hP
        have hD : va_D A (wD aH aM aW aC aR iW iR (s_done ((fX4_execute (fX3_readWord (g_pc x) (s_steps x ((g_steps x) + (1 : Int32)))) (s_steps x ((g_steps x) + (1 : Int32)))).2) ((g_done ((fX4_execute (fX3_readWord (g_pc x) (s_steps x ((g_steps x) + (1 : Int32)))) (s_steps x ((g_steps x) + (1 : Int32)))).2)) + (1 : Int32)))) := hD
        exact W.vret hx hb hr (fun t ht hW => ⟨⟨(s_done ((fX4_execute (fX3_readWord (g_pc x) (s_steps x ((g_steps x) + (1 : Int32)))) (s_steps x ((g_steps x) + (1 : Int32)))).2) ((g_done ((fX4_execute (fX3_readWord (g_pc x) (s_steps x ((g_steps x) + (1 : Int32)))) (s_steps x ((g_steps x) + (1 : Int32)))).2)) + (1 : Int32))), rfl, (by unfold fX4_step; rw [if_pos c_17, if_neg c_38, if_neg c_69] <;> rfl), hpT ht hP⟩, hS.F ht⟩) hS.2.2 dX4_step_85
    · refine lv_aload_n hx hb dX4_step_41 rfl (lv_at hl 0 rfl) ?_
      refine lv_iconst (v := 1) hx hb dX4_step_42 (by decide) ?_
      refine lv_aload_n hx hb dX4_step_43 rfl (lv_at hl 0 rfl) ?_
      refine va_get (D := (dC, dI)) (ci := 2) (v := .int (g_pc x)) (C := RX4) (T := TX4) (N := 7) hx hb hB iX4 hown hK hP 0 rfl rfl 3 (by decide) (hB _ q_t1_73) (fun _ h9 => h9) rfl dX4_step_44 ?_
      refine k_mi (w := wD aH aM aW aC aR iW iR) wD_ad (va_runV (As := [.int (1 : Int32), .int (g_pc x)]) (rest := []) ⟨hx, hb, hml, hown, hB⟩ (mX4_trap l dC dI aH aM aW aC aR iW iR H.size (s_steps x ((g_steps x) + (1 : Int32))) (1 : Int32) (g_pc x)) (cwV 2 hB (gV q_t2_10 q_t2_12 q_s_9 q_t1_1 wX4_trap) rfl rfl rfl hX4_trap ⟨Nat.le_of_ble_eq_true rfl, Nat.le_of_ble_eq_true rfl⟩) ⟨kM_blind NW_blind, va_recv hK hP (ci := 2) (q0 := 0) rfl rfl, kM_pre NW_warm hP hK hD hN⟩ rfl rfl hl.1 rfl (lv_room (Nat.le_of_ble_eq_true rfl)) dX4_step_47 ⟨Nat.zero_le _, Nat.zero_le _⟩) hD hS hA (fun r u H locs hw hP hD hS => ?_)
      obtain ⟨rfl, rfl⟩ := hw
      refine lv_pop hx hb dX4_step_50 rfl ?_
      refine lv_goto (tgt := 85) hx hb dX4_step_51 (by decide) ?_
      exact W.vret hx hb hr (fun t ht hW => ⟨⟨((fX4_trap (1 : Int32) (g_pc x) (s_steps x ((g_steps x) + (1 : Int32)))).2), rfl, (by unfold fX4_step; rw [if_pos c_17, if_pos c_38] <;> rfl), hpT ht hP⟩, hS.F ht⟩) hS.2.2 dX4_step_85
  · refine lv_aload_n hx hb dX4_step_20 rfl (lv_at hl 0 rfl) ?_
    refine lv_ldc (v := -2147483637) hx hb hown (hB _ q_t2_9) dX4_step_21 ?_
    refine lv_iconst (v := 0) hx hb dX4_step_23 (by decide) ?_
    refine k_mi (w := wD aH aM aW aC aR iW iR) wD_ad (va_runV (As := [.int (-2147483637 : Int32), .int (0 : Int32)]) (rest := []) ⟨hx, hb, hml, hown, hB⟩ (mX4_trap l dC dI aH aM aW aC aR iW iR H.size (s_steps x ((g_steps x) + (1 : Int32))) (-2147483637 : Int32) (0 : Int32)) (cwV 2 hB (gV q_t2_10 q_t2_12 q_s_9 q_t1_1 wX4_trap) rfl rfl rfl hX4_trap ⟨Nat.le_of_ble_eq_true rfl, Nat.le_of_ble_eq_true rfl⟩) ⟨kM_blind NW_blind, va_recv hK hP (ci := 2) (q0 := 0) rfl rfl, kM_pre NW_warm hP hK hD hN⟩ rfl rfl hl.1 rfl (lv_room (Nat.le_of_ble_eq_true rfl)) dX4_step_24 ⟨Nat.zero_le _, Nat.zero_le _⟩) hD hS hA (fun r u H locs hw hP hD hS => ?_)
    obtain ⟨rfl, rfl⟩ := hw
    refine lv_pop hx hb dX4_step_27 rfl ?_
    refine lv_goto (tgt := 85) hx hb dX4_step_28 (by decide) ?_
    exact W.vret hx hb hr (fun t ht hW => ⟨⟨((fX4_trap (-2147483637 : Int32) (0 : Int32) (s_steps x ((g_steps x) + (1 : Int32)))).2), rfl, (by unfold fX4_step; rw [if_neg c_17] <;> rfl), hpT ht hP⟩, hS.F ht⟩) hS.2.2 dX4_step_85
end
