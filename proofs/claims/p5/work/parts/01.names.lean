-- ===== PART A: goes FIRST, ahead of the names: the tables' words, and 'selects' of the private methods out of them =====
/-- a private method of a class that the tables say can be made, by its rows of tables_1 -/
def lw_okq (q : MethodName × Nat) : Prop := (q.1.cls ≠ "java/lang/invoke/MethodHandle" ∧ q.1.cls ≠ "java/lang/invoke/VarHandle") ∧ Cond.instantiable q.1.cls q.2 ∈ tables_1 ∧ Cond.privateMethod q.1 ∈ tables_1 ∧ Cond.instanceMethod q.1 ∈ tables_1
theorem lw_p0 : lw_okq (⟨"HartDesk$Memory", "writeWord", "(II)V"⟩, 1) := ⟨⟨by decide +kernel, by decide +kernel⟩, List.mem_of_getElem? (i := 23) (by decide +kernel), List.mem_of_getElem? (i := 103) (by decide +kernel), List.mem_of_getElem? (i := 104) (by decide +kernel)⟩
theorem lw_p1 : lw_okq (⟨"HartDesk", "putPc", "(I)Z"⟩, 7) := ⟨⟨by decide +kernel, by decide +kernel⟩, List.mem_of_getElem? (i := 15) (by decide +kernel), List.mem_of_getElem? (i := 111) (by decide +kernel), List.mem_of_getElem? (i := 112) (by decide +kernel)⟩
theorem lw_p2 : lw_okq (⟨"HartDesk", "writeRegister", "(II)V"⟩, 7) := ⟨⟨by decide +kernel, by decide +kernel⟩, List.mem_of_getElem? (i := 15) (by decide +kernel), List.mem_of_getElem? (i := 115) (by decide +kernel), List.mem_of_getElem? (i := 116) (by decide +kernel)⟩
theorem lw_p3 : lw_okq (⟨"HartDesk$Controls", "clear", "()V"⟩, 9) := ⟨⟨by decide +kernel, by decide +kernel⟩, List.mem_of_getElem? (i := 34) (by decide +kernel), List.mem_of_getElem? (i := 130) (by decide +kernel), List.mem_of_getElem? (i := 131) (by decide +kernel)⟩
theorem lw_p4 : lw_okq (⟨"HartDesk$Memory", "clear", "()V"⟩, 1) := ⟨⟨by decide +kernel, by decide +kernel⟩, List.mem_of_getElem? (i := 23) (by decide +kernel), List.mem_of_getElem? (i := 134) (by decide +kernel), List.mem_of_getElem? (i := 135) (by decide +kernel)⟩
theorem lw_p5 : lw_okq (⟨"java/lang/Throwable", "fillInStackTrace", "(I)Ljava/lang/Throwable;"⟩, 6) := ⟨⟨by decide +kernel, by decide +kernel⟩, List.mem_of_getElem? (i := 191) (by decide +kernel), List.mem_of_getElem? (i := 189) (by decide +kernel), List.mem_of_getElem? (i := 190) (by decide +kernel)⟩
theorem lw_p6 : lw_okq (⟨"HartDesk", "refuseBeyondLimit", "()V"⟩, 7) := ⟨⟨by decide +kernel, by decide +kernel⟩, List.mem_of_getElem? (i := 15) (by decide +kernel), List.mem_of_getElem? (i := 221) (by decide +kernel), List.mem_of_getElem? (i := 222) (by decide +kernel)⟩
theorem lw_p7 : lw_okq (⟨"HartDesk", "step", "()V"⟩, 7) := ⟨⟨by decide +kernel, by decide +kernel⟩, List.mem_of_getElem? (i := 15) (by decide +kernel), List.mem_of_getElem? (i := 242) (by decide +kernel), List.mem_of_getElem? (i := 243) (by decide +kernel)⟩
theorem lw_p8 : lw_okq (⟨"HartDesk$Controls", "isInterrupted", "()Z"⟩, 9) := ⟨⟨by decide +kernel, by decide +kernel⟩, List.mem_of_getElem? (i := 34) (by decide +kernel), List.mem_of_getElem? (i := 246) (by decide +kernel), List.mem_of_getElem? (i := 247) (by decide +kernel)⟩
theorem lw_p9 : lw_okq (⟨"HartDesk", "trap", "(II)Z"⟩, 7) := ⟨⟨by decide +kernel, by decide +kernel⟩, List.mem_of_getElem? (i := 15) (by decide +kernel), List.mem_of_getElem? (i := 251) (by decide +kernel), List.mem_of_getElem? (i := 252) (by decide +kernel)⟩
theorem lw_p10 : lw_okq (⟨"HartDesk$Controls", "enterTrap", "(III)V"⟩, 9) := ⟨⟨by decide +kernel, by decide +kernel⟩, List.mem_of_getElem? (i := 34) (by decide +kernel), List.mem_of_getElem? (i := 255) (by decide +kernel), List.mem_of_getElem? (i := 256) (by decide +kernel)⟩
theorem lw_p11 : lw_okq (⟨"HartDesk$Memory", "readWord", "(I)I"⟩, 1) := ⟨⟨by decide +kernel, by decide +kernel⟩, List.mem_of_getElem? (i := 23) (by decide +kernel), List.mem_of_getElem? (i := 260) (by decide +kernel), List.mem_of_getElem? (i := 261) (by decide +kernel)⟩
theorem lw_p12 : lw_okq (⟨"HartDesk", "execute", "(I)Z"⟩, 7) := ⟨⟨by decide +kernel, by decide +kernel⟩, List.mem_of_getElem? (i := 15) (by decide +kernel), List.mem_of_getElem? (i := 264) (by decide +kernel), List.mem_of_getElem? (i := 265) (by decide +kernel)⟩
theorem lw_p13 : lw_okq (⟨"HartDesk", "goOnWith", "(II)Z"⟩, 7) := ⟨⟨by decide +kernel, by decide +kernel⟩, List.mem_of_getElem? (i := 15) (by decide +kernel), List.mem_of_getElem? (i := 274) (by decide +kernel), List.mem_of_getElem? (i := 275) (by decide +kernel)⟩
theorem lw_p14 : lw_okq (⟨"HartDesk", "goOn", "()Z"⟩, 7) := ⟨⟨by decide +kernel, by decide +kernel⟩, List.mem_of_getElem? (i := 15) (by decide +kernel), List.mem_of_getElem? (i := 281) (by decide +kernel), List.mem_of_getElem? (i := 282) (by decide +kernel)⟩
theorem lw_p15 : lw_okq (⟨"HartDesk", "jump", "(II)Z"⟩, 7) := ⟨⟨by decide +kernel, by decide +kernel⟩, List.mem_of_getElem? (i := 15) (by decide +kernel), List.mem_of_getElem? (i := 288) (by decide +kernel), List.mem_of_getElem? (i := 289) (by decide +kernel)⟩
def lw_privs_1 : List (MethodName × Nat) := [(⟨"HartDesk$Memory", "writeWord", "(II)V"⟩, 1), (⟨"HartDesk", "putPc", "(I)Z"⟩, 7), (⟨"HartDesk", "writeRegister", "(II)V"⟩, 7), (⟨"HartDesk$Controls", "clear", "()V"⟩, 9), (⟨"HartDesk$Memory", "clear", "()V"⟩, 1), (⟨"java/lang/Throwable", "fillInStackTrace", "(I)Ljava/lang/Throwable;"⟩, 6), (⟨"HartDesk", "refuseBeyondLimit", "()V"⟩, 7), (⟨"HartDesk", "step", "()V"⟩, 7), (⟨"HartDesk$Controls", "isInterrupted", "()Z"⟩, 9), (⟨"HartDesk", "trap", "(II)Z"⟩, 7), (⟨"HartDesk$Controls", "enterTrap", "(III)V"⟩, 9), (⟨"HartDesk$Memory", "readWord", "(I)I"⟩, 1), (⟨"HartDesk", "execute", "(I)Z"⟩, 7), (⟨"HartDesk", "goOnWith", "(II)Z"⟩, 7), (⟨"HartDesk", "goOn", "()Z"⟩, 7), (⟨"HartDesk", "jump", "(II)Z"⟩, 7)]
theorem lw_r1 : ∀ q ∈ lw_privs_1, lw_okq q := List.forall_mem_cons.mpr ⟨lw_p0, List.forall_mem_cons.mpr ⟨lw_p1, List.forall_mem_cons.mpr ⟨lw_p2, List.forall_mem_cons.mpr ⟨lw_p3, List.forall_mem_cons.mpr ⟨lw_p4, List.forall_mem_cons.mpr ⟨lw_p5, List.forall_mem_cons.mpr ⟨lw_p6, List.forall_mem_cons.mpr ⟨lw_p7, List.forall_mem_cons.mpr ⟨lw_p8, List.forall_mem_cons.mpr ⟨lw_p9, List.forall_mem_cons.mpr ⟨lw_p10, List.forall_mem_cons.mpr ⟨lw_p11, List.forall_mem_cons.mpr ⟨lw_p12, List.forall_mem_cons.mpr ⟨lw_p13, List.forall_mem_cons.mpr ⟨lw_p14, List.forall_mem_cons.mpr ⟨lw_p15, fun _ h => absurd h List.not_mem_nil⟩⟩⟩⟩⟩⟩⟩⟩⟩⟩⟩⟩⟩⟩⟩⟩
theorem lw_p16 : lw_okq (⟨"HartDesk", "jumpByRegister", "(I)Z"⟩, 7) := ⟨⟨by decide +kernel, by decide +kernel⟩, List.mem_of_getElem? (i := 15) (by decide +kernel), List.mem_of_getElem? (i := 292) (by decide +kernel), List.mem_of_getElem? (i := 293) (by decide +kernel)⟩
theorem lw_p17 : lw_okq (⟨"HartDesk", "unknown", "(I)Z"⟩, 7) := ⟨⟨by decide +kernel, by decide +kernel⟩, List.mem_of_getElem? (i := 15) (by decide +kernel), List.mem_of_getElem? (i := 299) (by decide +kernel), List.mem_of_getElem? (i := 300) (by decide +kernel)⟩
theorem lw_p18 : lw_okq (⟨"HartDesk", "valueA", "(I)I"⟩, 7) := ⟨⟨by decide +kernel, by decide +kernel⟩, List.mem_of_getElem? (i := 15) (by decide +kernel), List.mem_of_getElem? (i := 303) (by decide +kernel), List.mem_of_getElem? (i := 304) (by decide +kernel)⟩
theorem lw_p19 : lw_okq (⟨"HartDesk", "readRegister", "(I)I"⟩, 7) := ⟨⟨by decide +kernel, by decide +kernel⟩, List.mem_of_getElem? (i := 15) (by decide +kernel), List.mem_of_getElem? (i := 310) (by decide +kernel), List.mem_of_getElem? (i := 311) (by decide +kernel)⟩
theorem lw_p20 : lw_okq (⟨"HartDesk", "branch", "(I)Z"⟩, 7) := ⟨⟨by decide +kernel, by decide +kernel⟩, List.mem_of_getElem? (i := 15) (by decide +kernel), List.mem_of_getElem? (i := 317) (by decide +kernel), List.mem_of_getElem? (i := 318) (by decide +kernel)⟩
theorem lw_p21 : lw_okq (⟨"HartDesk", "valueB", "(I)I"⟩, 7) := ⟨⟨by decide +kernel, by decide +kernel⟩, List.mem_of_getElem? (i := 15) (by decide +kernel), List.mem_of_getElem? (i := 321) (by decide +kernel), List.mem_of_getElem? (i := 322) (by decide +kernel)⟩
theorem lw_p22 : lw_okq (⟨"HartDesk", "load", "(I)Z"⟩, 7) := ⟨⟨by decide +kernel, by decide +kernel⟩, List.mem_of_getElem? (i := 15) (by decide +kernel), List.mem_of_getElem? (i := 338) (by decide +kernel), List.mem_of_getElem? (i := 339) (by decide +kernel)⟩
theorem lw_p23 : lw_okq (⟨"HartDesk$Memory", "readPart", "(II)I"⟩, 1) := ⟨⟨by decide +kernel, by decide +kernel⟩, List.mem_of_getElem? (i := 23) (by decide +kernel), List.mem_of_getElem? (i := 345) (by decide +kernel), List.mem_of_getElem? (i := 346) (by decide +kernel)⟩
theorem lw_p24 : lw_okq (⟨"HartDesk", "store", "(I)Z"⟩, 7) := ⟨⟨by decide +kernel, by decide +kernel⟩, List.mem_of_getElem? (i := 15) (by decide +kernel), List.mem_of_getElem? (i := 354) (by decide +kernel), List.mem_of_getElem? (i := 355) (by decide +kernel)⟩
theorem lw_p25 : lw_okq (⟨"HartDesk$Memory", "writePart", "(III)V"⟩, 1) := ⟨⟨by decide +kernel, by decide +kernel⟩, List.mem_of_getElem? (i := 23) (by decide +kernel), List.mem_of_getElem? (i := 362) (by decide +kernel), List.mem_of_getElem? (i := 363) (by decide +kernel)⟩
theorem lw_p26 : lw_okq (⟨"HartDesk", "computeWithNumber", "(I)Z"⟩, 7) := ⟨⟨by decide +kernel, by decide +kernel⟩, List.mem_of_getElem? (i := 15) (by decide +kernel), List.mem_of_getElem? (i := 370) (by decide +kernel), List.mem_of_getElem? (i := 371) (by decide +kernel)⟩
theorem lw_p27 : lw_okq (⟨"HartDesk", "computeWithRegister", "(I)Z"⟩, 7) := ⟨⟨by decide +kernel, by decide +kernel⟩, List.mem_of_getElem? (i := 15) (by decide +kernel), List.mem_of_getElem? (i := 380) (by decide +kernel), List.mem_of_getElem? (i := 381) (by decide +kernel)⟩
theorem lw_p28 : lw_okq (⟨"HartDesk", "callSystem", "(I)Z"⟩, 7) := ⟨⟨by decide +kernel, by decide +kernel⟩, List.mem_of_getElem? (i := 15) (by decide +kernel), List.mem_of_getElem? (i := 393) (by decide +kernel), List.mem_of_getElem? (i := 394) (by decide +kernel)⟩
theorem lw_p29 : lw_okq (⟨"HartDesk$Controls", "leaveTrap", "()I"⟩, 9) := ⟨⟨by decide +kernel, by decide +kernel⟩, List.mem_of_getElem? (i := 34) (by decide +kernel), List.mem_of_getElem? (i := 397) (by decide +kernel), List.mem_of_getElem? (i := 398) (by decide +kernel)⟩
theorem lw_p30 : lw_okq (⟨"HartDesk", "exchangeControl", "(I)Z"⟩, 7) := ⟨⟨by decide +kernel, by decide +kernel⟩, List.mem_of_getElem? (i := 15) (by decide +kernel), List.mem_of_getElem? (i := 401) (by decide +kernel), List.mem_of_getElem? (i := 402) (by decide +kernel)⟩
theorem lw_p31 : lw_okq (⟨"HartDesk$Controls", "read", "(I)I"⟩, 9) := ⟨⟨by decide +kernel, by decide +kernel⟩, List.mem_of_getElem? (i := 34) (by decide +kernel), List.mem_of_getElem? (i := 415) (by decide +kernel), List.mem_of_getElem? (i := 416) (by decide +kernel)⟩
def lw_privs_2 : List (MethodName × Nat) := [(⟨"HartDesk", "jumpByRegister", "(I)Z"⟩, 7), (⟨"HartDesk", "unknown", "(I)Z"⟩, 7), (⟨"HartDesk", "valueA", "(I)I"⟩, 7), (⟨"HartDesk", "readRegister", "(I)I"⟩, 7), (⟨"HartDesk", "branch", "(I)Z"⟩, 7), (⟨"HartDesk", "valueB", "(I)I"⟩, 7), (⟨"HartDesk", "load", "(I)Z"⟩, 7), (⟨"HartDesk$Memory", "readPart", "(II)I"⟩, 1), (⟨"HartDesk", "store", "(I)Z"⟩, 7), (⟨"HartDesk$Memory", "writePart", "(III)V"⟩, 1), (⟨"HartDesk", "computeWithNumber", "(I)Z"⟩, 7), (⟨"HartDesk", "computeWithRegister", "(I)Z"⟩, 7), (⟨"HartDesk", "callSystem", "(I)Z"⟩, 7), (⟨"HartDesk$Controls", "leaveTrap", "()I"⟩, 9), (⟨"HartDesk", "exchangeControl", "(I)Z"⟩, 7), (⟨"HartDesk$Controls", "read", "(I)I"⟩, 9)]
theorem lw_r2 : ∀ q ∈ lw_privs_2, lw_okq q := List.forall_mem_cons.mpr ⟨lw_p16, List.forall_mem_cons.mpr ⟨lw_p17, List.forall_mem_cons.mpr ⟨lw_p18, List.forall_mem_cons.mpr ⟨lw_p19, List.forall_mem_cons.mpr ⟨lw_p20, List.forall_mem_cons.mpr ⟨lw_p21, List.forall_mem_cons.mpr ⟨lw_p22, List.forall_mem_cons.mpr ⟨lw_p23, List.forall_mem_cons.mpr ⟨lw_p24, List.forall_mem_cons.mpr ⟨lw_p25, List.forall_mem_cons.mpr ⟨lw_p26, List.forall_mem_cons.mpr ⟨lw_p27, List.forall_mem_cons.mpr ⟨lw_p28, List.forall_mem_cons.mpr ⟨lw_p29, List.forall_mem_cons.mpr ⟨lw_p30, List.forall_mem_cons.mpr ⟨lw_p31, fun _ h => absurd h List.not_mem_nil⟩⟩⟩⟩⟩⟩⟩⟩⟩⟩⟩⟩⟩⟩⟩⟩
theorem lw_p32 : lw_okq (⟨"HartDesk$Controls", "write", "(II)V"⟩, 9) := ⟨⟨by decide +kernel, by decide +kernel⟩, List.mem_of_getElem? (i := 34) (by decide +kernel), List.mem_of_getElem? (i := 422) (by decide +kernel), List.mem_of_getElem? (i := 423) (by decide +kernel)⟩
theorem lw_p33 : lw_okq (⟨"HartDeskModel", "raise", "(I)I"⟩, 15) := ⟨⟨by decide +kernel, by decide +kernel⟩, List.mem_of_getElem? (i := 466) (by decide +kernel), List.mem_of_getElem? (i := 541) (by decide +kernel), List.mem_of_getElem? (i := 542) (by decide +kernel)⟩
theorem lw_p34 : lw_okq (⟨"HartDeskModel", "step", "()V"⟩, 15) := ⟨⟨by decide +kernel, by decide +kernel⟩, List.mem_of_getElem? (i := 466) (by decide +kernel), List.mem_of_getElem? (i := 546) (by decide +kernel), List.mem_of_getElem? (i := 547) (by decide +kernel)⟩
theorem lw_p35 : lw_okq (⟨"HartDeskModel", "trap", "(II)V"⟩, 15) := ⟨⟨by decide +kernel, by decide +kernel⟩, List.mem_of_getElem? (i := 466) (by decide +kernel), List.mem_of_getElem? (i := 551) (by decide +kernel), List.mem_of_getElem? (i := 552) (by decide +kernel)⟩
theorem lw_p36 : lw_okq (⟨"HartDeskModel", "instruct", "()V"⟩, 15) := ⟨⟨by decide +kernel, by decide +kernel⟩, List.mem_of_getElem? (i := 466) (by decide +kernel), List.mem_of_getElem? (i := 555) (by decide +kernel), List.mem_of_getElem? (i := 556) (by decide +kernel)⟩
theorem lw_p37 : lw_okq (⟨"HartDeskModel", "bits", "(II)I"⟩, 15) := ⟨⟨by decide +kernel, by decide +kernel⟩, List.mem_of_getElem? (i := 466) (by decide +kernel), List.mem_of_getElem? (i := 559) (by decide +kernel), List.mem_of_getElem? (i := 560) (by decide +kernel)⟩
theorem lw_p38 : lw_okq (⟨"HartDeskModel", "numberU", "()I"⟩, 15) := ⟨⟨by decide +kernel, by decide +kernel⟩, List.mem_of_getElem? (i := 466) (by decide +kernel), List.mem_of_getElem? (i := 563) (by decide +kernel), List.mem_of_getElem? (i := 564) (by decide +kernel)⟩
theorem lw_p39 : lw_okq (⟨"HartDeskModel", "lay", "(I)V"⟩, 15) := ⟨⟨by decide +kernel, by decide +kernel⟩, List.mem_of_getElem? (i := 466) (by decide +kernel), List.mem_of_getElem? (i := 567) (by decide +kernel), List.mem_of_getElem? (i := 568) (by decide +kernel)⟩
theorem lw_p40 : lw_okq (⟨"HartDeskModel", "numberJ", "()I"⟩, 15) := ⟨⟨by decide +kernel, by decide +kernel⟩, List.mem_of_getElem? (i := 466) (by decide +kernel), List.mem_of_getElem? (i := 571) (by decide +kernel), List.mem_of_getElem? (i := 572) (by decide +kernel)⟩
theorem lw_p41 : lw_okq (⟨"HartDeskModel", "jump", "(I)V"⟩, 15) := ⟨⟨by decide +kernel, by decide +kernel⟩, List.mem_of_getElem? (i := 466) (by decide +kernel), List.mem_of_getElem? (i := 575) (by decide +kernel), List.mem_of_getElem? (i := 576) (by decide +kernel)⟩
theorem lw_p42 : lw_okq (⟨"HartDeskModel", "goes", "(I)Z"⟩, 15) := ⟨⟨by decide +kernel, by decide +kernel⟩, List.mem_of_getElem? (i := 466) (by decide +kernel), List.mem_of_getElem? (i := 579) (by decide +kernel), List.mem_of_getElem? (i := 580) (by decide +kernel)⟩
theorem lw_p43 : lw_okq (⟨"HartDeskModel", "none", "()V"⟩, 15) := ⟨⟨by decide +kernel, by decide +kernel⟩, List.mem_of_getElem? (i := 466) (by decide +kernel), List.mem_of_getElem? (i := 583) (by decide +kernel), List.mem_of_getElem? (i := 584) (by decide +kernel)⟩
theorem lw_p44 : lw_okq (⟨"HartDeskModel", "a", "()I"⟩, 15) := ⟨⟨by decide +kernel, by decide +kernel⟩, List.mem_of_getElem? (i := 466) (by decide +kernel), List.mem_of_getElem? (i := 587) (by decide +kernel), List.mem_of_getElem? (i := 588) (by decide +kernel)⟩
theorem lw_p45 : lw_okq (⟨"HartDeskModel", "numberI", "()I"⟩, 15) := ⟨⟨by decide +kernel, by decide +kernel⟩, List.mem_of_getElem? (i := 466) (by decide +kernel), List.mem_of_getElem? (i := 591) (by decide +kernel), List.mem_of_getElem? (i := 592) (by decide +kernel)⟩
theorem lw_p46 : lw_okq (⟨"HartDeskModel", "branch", "()V"⟩, 15) := ⟨⟨by decide +kernel, by decide +kernel⟩, List.mem_of_getElem? (i := 466) (by decide +kernel), List.mem_of_getElem? (i := 595) (by decide +kernel), List.mem_of_getElem? (i := 596) (by decide +kernel)⟩
theorem lw_p47 : lw_okq (⟨"HartDeskModel", "b", "()I"⟩, 15) := ⟨⟨by decide +kernel, by decide +kernel⟩, List.mem_of_getElem? (i := 466) (by decide +kernel), List.mem_of_getElem? (i := 599) (by decide +kernel), List.mem_of_getElem? (i := 600) (by decide +kernel)⟩
def lw_privs_3 : List (MethodName × Nat) := [(⟨"HartDesk$Controls", "write", "(II)V"⟩, 9), (⟨"HartDeskModel", "raise", "(I)I"⟩, 15), (⟨"HartDeskModel", "step", "()V"⟩, 15), (⟨"HartDeskModel", "trap", "(II)V"⟩, 15), (⟨"HartDeskModel", "instruct", "()V"⟩, 15), (⟨"HartDeskModel", "bits", "(II)I"⟩, 15), (⟨"HartDeskModel", "numberU", "()I"⟩, 15), (⟨"HartDeskModel", "lay", "(I)V"⟩, 15), (⟨"HartDeskModel", "numberJ", "()I"⟩, 15), (⟨"HartDeskModel", "jump", "(I)V"⟩, 15), (⟨"HartDeskModel", "goes", "(I)Z"⟩, 15), (⟨"HartDeskModel", "none", "()V"⟩, 15), (⟨"HartDeskModel", "a", "()I"⟩, 15), (⟨"HartDeskModel", "numberI", "()I"⟩, 15), (⟨"HartDeskModel", "branch", "()V"⟩, 15), (⟨"HartDeskModel", "b", "()I"⟩, 15)]
theorem lw_r3 : ∀ q ∈ lw_privs_3, lw_okq q := List.forall_mem_cons.mpr ⟨lw_p32, List.forall_mem_cons.mpr ⟨lw_p33, List.forall_mem_cons.mpr ⟨lw_p34, List.forall_mem_cons.mpr ⟨lw_p35, List.forall_mem_cons.mpr ⟨lw_p36, List.forall_mem_cons.mpr ⟨lw_p37, List.forall_mem_cons.mpr ⟨lw_p38, List.forall_mem_cons.mpr ⟨lw_p39, List.forall_mem_cons.mpr ⟨lw_p40, List.forall_mem_cons.mpr ⟨lw_p41, List.forall_mem_cons.mpr ⟨lw_p42, List.forall_mem_cons.mpr ⟨lw_p43, List.forall_mem_cons.mpr ⟨lw_p44, List.forall_mem_cons.mpr ⟨lw_p45, List.forall_mem_cons.mpr ⟨lw_p46, List.forall_mem_cons.mpr ⟨lw_p47, fun _ h => absurd h List.not_mem_nil⟩⟩⟩⟩⟩⟩⟩⟩⟩⟩⟩⟩⟩⟩⟩⟩
theorem lw_p48 : lw_okq (⟨"HartDeskModel", "numberB", "()I"⟩, 15) := ⟨⟨by decide +kernel, by decide +kernel⟩, List.mem_of_getElem? (i := 466) (by decide +kernel), List.mem_of_getElem? (i := 607) (by decide +kernel), List.mem_of_getElem? (i := 608) (by decide +kernel)⟩
theorem lw_p49 : lw_okq (⟨"HartDeskModel", "load", "()V"⟩, 15) := ⟨⟨by decide +kernel, by decide +kernel⟩, List.mem_of_getElem? (i := 466) (by decide +kernel), List.mem_of_getElem? (i := 611) (by decide +kernel), List.mem_of_getElem? (i := 612) (by decide +kernel)⟩
theorem lw_p50 : lw_okq (⟨"HartDeskModel", "may", "(IIII)Z"⟩, 15) := ⟨⟨by decide +kernel, by decide +kernel⟩, List.mem_of_getElem? (i := 466) (by decide +kernel), List.mem_of_getElem? (i := 615) (by decide +kernel), List.mem_of_getElem? (i := 616) (by decide +kernel)⟩
theorem lw_p51 : lw_okq (⟨"HartDeskModel", "store", "()V"⟩, 15) := ⟨⟨by decide +kernel, by decide +kernel⟩, List.mem_of_getElem? (i := 466) (by decide +kernel), List.mem_of_getElem? (i := 620) (by decide +kernel), List.mem_of_getElem? (i := 621) (by decide +kernel)⟩
theorem lw_p52 : lw_okq (⟨"HartDeskModel", "numberS", "()I"⟩, 15) := ⟨⟨by decide +kernel, by decide +kernel⟩, List.mem_of_getElem? (i := 466) (by decide +kernel), List.mem_of_getElem? (i := 624) (by decide +kernel), List.mem_of_getElem? (i := 625) (by decide +kernel)⟩
theorem lw_p53 : lw_okq (⟨"HartDeskModel", "withNumber", "()V"⟩, 15) := ⟨⟨by decide +kernel, by decide +kernel⟩, List.mem_of_getElem? (i := 466) (by decide +kernel), List.mem_of_getElem? (i := 628) (by decide +kernel), List.mem_of_getElem? (i := 629) (by decide +kernel)⟩
theorem lw_p54 : lw_okq (⟨"HartDeskModel", "withRegister", "()V"⟩, 15) := ⟨⟨by decide +kernel, by decide +kernel⟩, List.mem_of_getElem? (i := 466) (by decide +kernel), List.mem_of_getElem? (i := 632) (by decide +kernel), List.mem_of_getElem? (i := 633) (by decide +kernel)⟩
theorem lw_p55 : lw_okq (⟨"HartDeskModel", "product", "(III)V"⟩, 15) := ⟨⟨by decide +kernel, by decide +kernel⟩, List.mem_of_getElem? (i := 466) (by decide +kernel), List.mem_of_getElem? (i := 636) (by decide +kernel), List.mem_of_getElem? (i := 637) (by decide +kernel)⟩
theorem lw_p56 : lw_okq (⟨"HartDeskModel", "system", "()V"⟩, 15) := ⟨⟨by decide +kernel, by decide +kernel⟩, List.mem_of_getElem? (i := 466) (by decide +kernel), List.mem_of_getElem? (i := 646) (by decide +kernel), List.mem_of_getElem? (i := 647) (by decide +kernel)⟩
theorem lw_p57 : lw_okq (⟨"HartDeskModel", "change", "()V"⟩, 15) := ⟨⟨by decide +kernel, by decide +kernel⟩, List.mem_of_getElem? (i := 466) (by decide +kernel), List.mem_of_getElem? (i := 652) (by decide +kernel), List.mem_of_getElem? (i := 653) (by decide +kernel)⟩
theorem lw_p58 : lw_okq (⟨"HartDeskModel", "has", "(I)I"⟩, 15) := ⟨⟨by decide +kernel, by decide +kernel⟩, List.mem_of_getElem? (i := 466) (by decide +kernel), List.mem_of_getElem? (i := 659) (by decide +kernel), List.mem_of_getElem? (i := 660) (by decide +kernel)⟩
theorem lw_p59 : lw_okq (⟨"HartDeskModel", "become", "(II)V"⟩, 15) := ⟨⟨by decide +kernel, by decide +kernel⟩, List.mem_of_getElem? (i := 466) (by decide +kernel), List.mem_of_getElem? (i := 663) (by decide +kernel), List.mem_of_getElem? (i := 664) (by decide +kernel)⟩
def lw_privs_4 : List (MethodName × Nat) := [(⟨"HartDeskModel", "numberB", "()I"⟩, 15), (⟨"HartDeskModel", "load", "()V"⟩, 15), (⟨"HartDeskModel", "may", "(IIII)Z"⟩, 15), (⟨"HartDeskModel", "store", "()V"⟩, 15), (⟨"HartDeskModel", "numberS", "()I"⟩, 15), (⟨"HartDeskModel", "withNumber", "()V"⟩, 15), (⟨"HartDeskModel", "withRegister", "()V"⟩, 15), (⟨"HartDeskModel", "product", "(III)V"⟩, 15), (⟨"HartDeskModel", "system", "()V"⟩, 15), (⟨"HartDeskModel", "change", "()V"⟩, 15), (⟨"HartDeskModel", "has", "(I)I"⟩, 15), (⟨"HartDeskModel", "become", "(II)V"⟩, 15)]
theorem lw_r4 : ∀ q ∈ lw_privs_4, lw_okq q := List.forall_mem_cons.mpr ⟨lw_p48, List.forall_mem_cons.mpr ⟨lw_p49, List.forall_mem_cons.mpr ⟨lw_p50, List.forall_mem_cons.mpr ⟨lw_p51, List.forall_mem_cons.mpr ⟨lw_p52, List.forall_mem_cons.mpr ⟨lw_p53, List.forall_mem_cons.mpr ⟨lw_p54, List.forall_mem_cons.mpr ⟨lw_p55, List.forall_mem_cons.mpr ⟨lw_p56, List.forall_mem_cons.mpr ⟨lw_p57, List.forall_mem_cons.mpr ⟨lw_p58, List.forall_mem_cons.mpr ⟨lw_p59, fun _ h => absurd h List.not_mem_nil⟩⟩⟩⟩⟩⟩⟩⟩⟩⟩⟩⟩
def lw_privs : List (MethodName × Nat) := lw_privs_1 ++ (lw_privs_2 ++ (lw_privs_3 ++ (lw_privs_4)))
def lw_tbl : List Cond := k2_sels lw_privs ++ tables_1
theorem lw_privs_ok : ∀ q ∈ lw_privs, lw_okq q := by
  show ∀ q ∈ lw_privs_1 ++ (lw_privs_2 ++ (lw_privs_3 ++ (lw_privs_4))), lw_okq q
  exact List.forall_mem_append.mpr ⟨lw_r1, List.forall_mem_append.mpr ⟨lw_r2, List.forall_mem_append.mpr ⟨lw_r3, lw_r4⟩⟩⟩
/-! the good words of the tables: every method's words are its code and these -/
def BIG : List Cond := lw_tbl.filter goodWord
theorem big_of {w : Cond} (h : w ∈ lw_tbl) (g : goodWord w = true) : w ∈ BIG := List.mem_filter.mpr ⟨h, g⟩
theorem big_tbl {w : Cond} (h : w ∈ BIG) : w ∈ lw_tbl := (List.mem_filter.mp h).1
theorem tbl_t1 {i : Nat} {w : Cond} (h : tables_1_1[i]? = some w) : w ∈ lw_tbl := List.mem_append_right _ (List.mem_append_left _ (List.mem_of_getElem? h))
theorem big_t1 {i : Nat} {w : Cond} (h : tables_1_1[i]? = some w) (g : goodWord w = true) : w ∈ BIG := big_of (tbl_t1 h) g
theorem tbl_t2 {i : Nat} {w : Cond} (h : tables_1_2[i]? = some w) : w ∈ lw_tbl := List.mem_append_right _ (List.mem_append_right _ (List.mem_append_left _ (List.mem_of_getElem? h)))
theorem big_t2 {i : Nat} {w : Cond} (h : tables_1_2[i]? = some w) (g : goodWord w = true) : w ∈ BIG := big_of (tbl_t2 h) g
theorem tbl_t3 {i : Nat} {w : Cond} (h : tables_1_3[i]? = some w) : w ∈ lw_tbl := List.mem_append_right _ (List.mem_append_right _ (List.mem_append_right _ (List.mem_of_getElem? h)))
theorem big_t3 {i : Nat} {w : Cond} (h : tables_1_3[i]? = some w) (g : goodWord w = true) : w ∈ BIG := big_of (tbl_t3 h) g
theorem big_s {i : Nat} {w : Cond} (h : (k2_sels lw_privs)[i]? = some w) (g : goodWord w = true) : w ∈ BIG := big_of (List.mem_append_left _ (List.mem_of_getElem? h)) g
theorem good_in {ws : List Cond} (h : ∀ w ∈ ws, w ∈ BIG) : GoodIn BIG ws := fun w hw => ⟨h w hw, good_of_word (List.mem_filter.mp (h w hw)).2⟩
theorem in_c {w : Cond} {ws : List Cond} (a : w ∈ BIG) (b : ∀ v ∈ ws, v ∈ BIG) : ∀ v ∈ w :: ws, v ∈ BIG := List.forall_mem_cons.mpr ⟨a, b⟩
theorem gV {own C : String} {idx : Nat} {y : MethodName} {ws : List Cond} (a : Cond.methodLink own idx y ∈ BIG) (b : Cond.instanceMethod y ∈ BIG) (c : Cond.selects C y y ∈ BIG) (d : Cond.initialized C ∈ BIG) (w : ∀ v ∈ ws, v ∈ BIG) : GoodIn BIG (wsV own idx C y ws) := good_in (in_c a (in_c b (in_c c (in_c d w))))
theorem gS {own : String} {idx : Nat} {y : MethodName} {ws : List Cond} (a : Cond.methodLink own idx y ∈ BIG) (b : Cond.static y ∈ BIG) (d : Cond.initialized y.cls ∈ BIG) (w : ∀ v ∈ ws, v ∈ BIG) : GoodIn BIG (va_wsS own idx y ws) := good_in (in_c a (in_c b (in_c d w)))
def RX0 : String := "HartDesk$Arithmetic"
def RX1 : String := "HartDesk$Code"
def RX2 : String := "HartDesk$Controls"
def RX3 : String := "HartDesk$Memory"
def RX4 : String := "HartDesk"
def RX5 : String := "HartDeskModel"
def RJ7 : String := "java/util/Arrays"
def RL : String := "HartDeskLaw"
def TX2 : u_T := fun k => match k with
  | 0 => ("HartDesk$Controls", "status", "I", false)
  | 1 => ("HartDesk$Controls", "enabled", "I", false)
  | 2 => ("HartDesk$Controls", "vector", "I", false)
  | 3 => ("HartDesk$Controls", "scratch", "I", false)
  | 4 => ("HartDesk$Controls", "back", "I", false)
  | 5 => ("HartDesk$Controls", "cause", "I", false)
  | 6 => ("HartDesk$Controls", "value", "I", false)
  | 7 => ("HartDesk$Controls", "done", "I", false)
  | _ => ("HartDesk$Controls", "lineUp", "Z", false)
def tyX2 : Nat → FieldType := fun k => match k with
  | 0 => .int
  | 1 => .int
  | 2 => .int
  | 3 => .int
  | 4 => .int
  | 5 => .int
  | 6 => .int
  | 7 => .int
  | _ => .boolean
theorem nmX2 : ∀ a, a < 9 → ∀ b, b < 9 → a ≠ b → (TX2 a).2.1 ≠ (TX2 b).2.1 := by decide +kernel
theorem tyX2_ok : ∀ k, k < 9 → parseFieldDescriptor (TX2 k).2.2.1 = some (tyX2 k) := by decide +kernel
def TX3 : u_T := fun k => match k with
  | _ => ("HartDesk$Memory", "words", "[I", true)
def tyX3 : Nat → FieldType := fun k => match k with
  | _ => .array .int
theorem nmX3 : ∀ a, a < 1 → ∀ b, b < 1 → a ≠ b → (TX3 a).2.1 ≠ (TX3 b).2.1 := by decide +kernel
theorem tyX3_ok : ∀ k, k < 1 → parseFieldDescriptor (TX3 k).2.2.1 = some (tyX3 k) := by decide +kernel
def TX4 : u_T := fun k => match k with
  | 0 => ("HartDesk", "memory", "LHartDesk$Memory;", true)
  | 1 => ("HartDesk", "controls", "LHartDesk$Controls;", true)
  | 2 => ("HartDesk", "registers", "[I", true)
  | 3 => ("HartDesk", "pc", "I", false)
  | 4 => ("HartDesk", "stopped", "Z", false)
  | 5 => ("HartDesk", "stepsInAll", "I", false)
  | _ => ("HartDesk", "traps", "I", false)
def tyX4 : Nat → FieldType := fun k => match k with
  | 0 => .object "HartDesk$Memory"
  | 1 => .object "HartDesk$Controls"
  | 2 => .array .int
  | 3 => .int
  | 4 => .boolean
  | 5 => .int
  | _ => .int
theorem nmX4 : ∀ a, a < 7 → ∀ b, b < 7 → a ≠ b → (TX4 a).2.1 ≠ (TX4 b).2.1 := by decide +kernel
theorem tyX4_ok : ∀ k, k < 7 → parseFieldDescriptor (TX4 k).2.2.1 = some (tyX4 k) := by decide +kernel
def TX5 : u_T := fun k => match k with
  | 0 => ("HartDeskModel", "thrown", "I", false)
  | 1 => ("HartDeskModel", "memory", "[I", true)
  | 2 => ("HartDeskModel", "registers", "[I", true)
  | 3 => ("HartDeskModel", "pc", "I", false)
  | 4 => ("HartDeskModel", "controls", "[I", true)
  | 5 => ("HartDeskModel", "line", "Z", false)
  | 6 => ("HartDeskModel", "stopped", "Z", false)
  | 7 => ("HartDeskModel", "steps", "I", false)
  | 8 => ("HartDeskModel", "done", "I", false)
  | 9 => ("HartDeskModel", "traps", "I", false)
  | 10 => ("HartDeskModel", "word", "I", false)
  | 11 => ("HartDeskModel", "trapped", "Z", false)
  | 12 => ("HartDeskModel", "cause", "I", false)
  | 13 => ("HartDeskModel", "why", "I", false)
  | _ => ("HartDeskModel", "next", "I", false)
def tyX5 : Nat → FieldType := fun k => match k with
  | 0 => .int
  | 1 => .array .int
  | 2 => .array .int
  | 3 => .int
  | 4 => .array .int
  | 5 => .boolean
  | 6 => .boolean
  | 7 => .int
  | 8 => .int
  | 9 => .int
  | 10 => .int
  | 11 => .boolean
  | 12 => .int
  | 13 => .int
  | _ => .int
theorem nmX5 : ∀ a, a < 15 → ∀ b, b < 15 → a ≠ b → (TX5 a).2.1 ≠ (TX5 b).2.1 := by decide +kernel
theorem tyX5_ok : ∀ k, k < 15 → parseFieldDescriptor (TX5 k).2.2.1 = some (tyX5 k) := by decide +kernel
abbrev vwCl : List vw_C := [(RX2, TX2, 9), (RX3, TX3, 1), (RX4, TX4, 7), (RX5, TX5, 15)]
abbrev cX4_init : ByteArray := prog_1_method_1_code
def yX4_init : MethodName := ⟨RX4, "<init>", "()V"⟩
abbrev cX3_init : ByteArray := prog_5_method_1_code
def yX3_init : MethodName := ⟨RX3, "<init>", "()V"⟩
abbrev cX2_init : ByteArray := prog_4_method_1_code
def yX2_init : MethodName := ⟨RX2, "<init>", "()V"⟩
abbrev cX4_set : ByteArray := prog_1_method_2_code
def yX4_set : MethodName := ⟨RX4, "set", "(II)Z"⟩
abbrev cX3_isWordAddress : ByteArray := prog_5_method_2_code
def yX3_isWordAddress : MethodName := ⟨RX3, "isWordAddress", "(I)Z"⟩
abbrev cX3_holds : ByteArray := prog_5_method_3_code
def yX3_holds : MethodName := ⟨RX3, "holds", "(I)Z"⟩
abbrev cX3_writeWord : ByteArray := prog_5_method_6_code
def yX3_writeWord : MethodName := ⟨RX3, "writeWord", "(II)V"⟩
abbrev cX4_put : ByteArray := prog_1_method_3_code
def yX4_put : MethodName := ⟨RX4, "put", "(II)Z"⟩
abbrev cX4_putPc : ByteArray := prog_1_method_11_code
def yX4_putPc : MethodName := ⟨RX4, "putPc", "(I)Z"⟩
abbrev cX4_writeRegister : ByteArray := prog_1_method_13_code
def yX4_writeRegister : MethodName := ⟨RX4, "writeRegister", "(II)V"⟩
abbrev cX4_line : ByteArray := prog_1_method_4_code
def yX4_line : MethodName := ⟨RX4, "line", "(Z)V"⟩
abbrev cX4_reset : ByteArray := prog_1_method_6_code
def yX4_reset : MethodName := ⟨RX4, "reset", "(Z)V"⟩
abbrev cJ7_fill : ByteArray := prog_14_method_103_code
def yJ7_fill : MethodName := ⟨RJ7, "fill", "([II)V"⟩
abbrev cX2_clear : ByteArray := prog_4_method_9_code
def yX2_clear : MethodName := ⟨RX2, "clear", "()V"⟩
abbrev cX3_clear : ByteArray := prog_5_method_11_code
def yX3_clear : MethodName := ⟨RX3, "clear", "()V"⟩
abbrev cX4_state : ByteArray := prog_1_method_10_code
def yX4_state : MethodName := ⟨RX4, "state", "(I)I"⟩
abbrev cL_run : ByteArray := method_3_code
def yL_run : MethodName := ⟨RL, "run", "(LHartDesk;I[J)I"⟩
abbrev cX4_run : ByteArray := prog_1_method_5_code
def yX4_run : MethodName := ⟨RX4, "run", "(I)I"⟩
abbrev cX4_refuseBeyondLimit : ByteArray := prog_1_method_14_code
def yX4_refuseBeyondLimit : MethodName := ⟨RX4, "refuseBeyondLimit", "()V"⟩
abbrev cX4_step : ByteArray := prog_1_method_15_code
def yX4_step : MethodName := ⟨RX4, "step", "()V"⟩
abbrev cX2_isInterrupted : ByteArray := prog_4_method_6_code
def yX2_isInterrupted : MethodName := ⟨RX2, "isInterrupted", "()Z"⟩
abbrev cX4_trap : ByteArray := prog_1_method_22_code
def yX4_trap : MethodName := ⟨RX4, "trap", "(II)Z"⟩
abbrev cX2_enterTrap : ByteArray := prog_4_method_7_code
def yX2_enterTrap : MethodName := ⟨RX2, "enterTrap", "(III)V"⟩
abbrev cX3_readWord : ByteArray := prog_5_method_5_code
def yX3_readWord : MethodName := ⟨RX3, "readWord", "(I)I"⟩
abbrev cX4_execute : ByteArray := prog_1_method_16_code
def yX4_execute : MethodName := ⟨RX4, "execute", "(I)Z"⟩
abbrev cX1_op : ByteArray := prog_3_method_2_code
def yX1_op : MethodName := ⟨RX1, "op", "(I)I"⟩
abbrev cX1_numberU : ByteArray := prog_3_method_13_code
def yX1_numberU : MethodName := ⟨RX1, "numberU", "(I)I"⟩
abbrev cX4_goOnWith : ByteArray := prog_1_method_20_code
def yX4_goOnWith : MethodName := ⟨RX4, "goOnWith", "(II)Z"⟩
abbrev cX1_d : ByteArray := prog_3_method_3_code
def yX1_d : MethodName := ⟨RX1, "d", "(I)I"⟩
abbrev cX4_goOn : ByteArray := prog_1_method_19_code
def yX4_goOn : MethodName := ⟨RX4, "goOn", "()Z"⟩
abbrev cX1_numberJ : ByteArray := prog_3_method_12_code
def yX1_numberJ : MethodName := ⟨RX1, "numberJ", "(I)I"⟩
abbrev cX4_jump : ByteArray := prog_1_method_23_code
def yX4_jump : MethodName := ⟨RX4, "jump", "(II)Z"⟩
abbrev cX4_jumpByRegister : ByteArray := prog_1_method_24_code
def yX4_jumpByRegister : MethodName := ⟨RX4, "jumpByRegister", "(I)Z"⟩
abbrev cX1_f : ByteArray := prog_3_method_4_code
def yX1_f : MethodName := ⟨RX1, "f", "(I)I"⟩
abbrev cX4_unknown : ByteArray := prog_1_method_21_code
def yX4_unknown : MethodName := ⟨RX4, "unknown", "(I)Z"⟩
abbrev cX4_valueA : ByteArray := prog_1_method_17_code
def yX4_valueA : MethodName := ⟨RX4, "valueA", "(I)I"⟩
abbrev cX1_a : ByteArray := prog_3_method_5_code
def yX1_a : MethodName := ⟨RX1, "a", "(I)I"⟩
abbrev cX4_readRegister : ByteArray := prog_1_method_12_code
def yX4_readRegister : MethodName := ⟨RX4, "readRegister", "(I)I"⟩
abbrev cX1_numberI : ByteArray := prog_3_method_9_code
def yX1_numberI : MethodName := ⟨RX1, "numberI", "(I)I"⟩
abbrev cX4_branch : ByteArray := prog_1_method_25_code
def yX4_branch : MethodName := ⟨RX4, "branch", "(I)Z"⟩
abbrev cX4_valueB : ByteArray := prog_1_method_18_code
def yX4_valueB : MethodName := ⟨RX4, "valueB", "(I)I"⟩
abbrev cX1_b : ByteArray := prog_3_method_6_code
def yX1_b : MethodName := ⟨RX1, "b", "(I)I"⟩
abbrev cX0_holds : ByteArray := prog_2_method_3_code
def yX0_holds : MethodName := ⟨RX0, "holds", "(III)Z"⟩
abbrev cX0_isBelow : ByteArray := prog_2_method_2_code
def yX0_isBelow : MethodName := ⟨RX0, "isBelow", "(II)Z"⟩
abbrev cX1_numberB : ByteArray := prog_3_method_11_code
def yX1_numberB : MethodName := ⟨RX1, "numberB", "(I)I"⟩
abbrev cX4_load : ByteArray := prog_1_method_26_code
def yX4_load : MethodName := ⟨RX4, "load", "(I)Z"⟩
abbrev cX3_isBy : ByteArray := prog_5_method_4_code
def yX3_isBy : MethodName := ⟨RX3, "isBy", "(II)Z"⟩
abbrev cX3_readPart : ByteArray := prog_5_method_7_code
def yX3_readPart : MethodName := ⟨RX3, "readPart", "(II)I"⟩
abbrev cX3_shift : ByteArray := prog_5_method_9_code
def yX3_shift : MethodName := ⟨RX3, "shift", "(I)I"⟩
abbrev cX4_store : ByteArray := prog_1_method_27_code
def yX4_store : MethodName := ⟨RX4, "store", "(I)Z"⟩
abbrev cX1_numberS : ByteArray := prog_3_method_10_code
def yX1_numberS : MethodName := ⟨RX1, "numberS", "(I)I"⟩
abbrev cX3_writePart : ByteArray := prog_5_method_8_code
def yX3_writePart : MethodName := ⟨RX3, "writePart", "(III)V"⟩
abbrev cX3_partMask : ByteArray := prog_5_method_10_code
def yX3_partMask : MethodName := ⟨RX3, "partMask", "(I)I"⟩
abbrev cX4_computeWithNumber : ByteArray := prog_1_method_28_code
def yX4_computeWithNumber : MethodName := ⟨RX4, "computeWithNumber", "(I)Z"⟩
abbrev cX1_s : ByteArray := prog_3_method_7_code
def yX1_s : MethodName := ⟨RX1, "s", "(I)I"⟩
abbrev cX0_basic : ByteArray := prog_2_method_4_code
def yX0_basic : MethodName := ⟨RX0, "basic", "(III)I"⟩
abbrev cX4_computeWithRegister : ByteArray := prog_1_method_29_code
def yX4_computeWithRegister : MethodName := ⟨RX4, "computeWithRegister", "(I)Z"⟩
abbrev cX0_productOrQuotient : ByteArray := prog_2_method_5_code
def yX0_productOrQuotient : MethodName := ⟨RX0, "productOrQuotient", "(III)I"⟩
abbrev cX0_quotient : ByteArray := prog_2_method_6_code
def yX0_quotient : MethodName := ⟨RX0, "quotient", "(JJ)I"⟩
abbrev cX0_rest : ByteArray := prog_2_method_7_code
def yX0_rest : MethodName := ⟨RX0, "rest", "(JJ)I"⟩
abbrev cX4_callSystem : ByteArray := prog_1_method_30_code
def yX4_callSystem : MethodName := ⟨RX4, "callSystem", "(I)Z"⟩
abbrev cX2_leaveTrap : ByteArray := prog_4_method_8_code
def yX2_leaveTrap : MethodName := ⟨RX2, "leaveTrap", "()I"⟩
abbrev cX4_exchangeControl : ByteArray := prog_1_method_31_code
def yX4_exchangeControl : MethodName := ⟨RX4, "exchangeControl", "(I)Z"⟩
abbrev cX1_controlNumber : ByteArray := prog_3_method_8_code
def yX1_controlNumber : MethodName := ⟨RX1, "controlNumber", "(I)I"⟩
abbrev cX2_isWritable : ByteArray := prog_4_method_3_code
def yX2_isWritable : MethodName := ⟨RX2, "isWritable", "(I)Z"⟩
abbrev cX2_isKnown : ByteArray := prog_4_method_2_code
def yX2_isKnown : MethodName := ⟨RX2, "isKnown", "(I)Z"⟩
abbrev cX2_read : ByteArray := prog_4_method_4_code
def yX2_read : MethodName := ⟨RX2, "read", "(I)I"⟩
abbrev cX0_exchanged : ByteArray := prog_2_method_8_code
def yX0_exchanged : MethodName := ⟨RX0, "exchanged", "(III)I"⟩
abbrev cX2_write : ByteArray := prog_4_method_5_code
def yX2_write : MethodName := ⟨RX2, "write", "(II)V"⟩
abbrev cL_register : ByteArray := method_4_code
def yL_register : MethodName := ⟨RL, "register", "(LHartDesk;I[J)I"⟩
abbrev cX4_register : ByteArray := prog_1_method_7_code
def yX4_register : MethodName := ⟨RX4, "register", "(I)I"⟩
abbrev cL_control : ByteArray := method_5_code
def yL_control : MethodName := ⟨RL, "control", "(LHartDesk;I[J)I"⟩
abbrev cX4_control : ByteArray := prog_1_method_8_code
def yX4_control : MethodName := ⟨RX4, "control", "(I)I"⟩
abbrev cL_word : ByteArray := method_6_code
def yL_word : MethodName := ⟨RL, "word", "(LHartDesk;I[J)I"⟩
abbrev cX4_word : ByteArray := prog_1_method_9_code
def yX4_word : MethodName := ⟨RX4, "word", "(I)I"⟩
abbrev cX5_init : ByteArray := prog_7_method_1_code
def yX5_init : MethodName := ⟨RX5, "<init>", "()V"⟩
abbrev cX5_thrown : ByteArray := prog_7_method_2_code
def yX5_thrown : MethodName := ⟨RX5, "thrown", "()I"⟩
abbrev cX5_set : ByteArray := prog_7_method_5_code
def yX5_set : MethodName := ⟨RX5, "set", "(II)Z"⟩
abbrev cX5_isAddress : ByteArray := prog_7_method_4_code
def yX5_isAddress : MethodName := ⟨RX5, "isAddress", "(I)Z"⟩
abbrev cX5_put : ByteArray := prog_7_method_6_code
def yX5_put : MethodName := ⟨RX5, "put", "(II)Z"⟩
abbrev cX5_line : ByteArray := prog_7_method_7_code
def yX5_line : MethodName := ⟨RX5, "line", "(Z)V"⟩
abbrev cX5_run : ByteArray := prog_7_method_38_code
def yX5_run : MethodName := ⟨RX5, "run", "(I)I"⟩
abbrev cX5_raise : ByteArray := prog_7_method_3_code
def yX5_raise : MethodName := ⟨RX5, "raise", "(I)I"⟩
abbrev cX5_step : ByteArray := prog_7_method_37_code
def yX5_step : MethodName := ⟨RX5, "step", "()V"⟩
abbrev cX5_trap : ByteArray := prog_7_method_17_code
def yX5_trap : MethodName := ⟨RX5, "trap", "(II)V"⟩
abbrev cX5_instruct : ByteArray := prog_7_method_36_code
def yX5_instruct : MethodName := ⟨RX5, "instruct", "()V"⟩
abbrev cX5_bits : ByteArray := prog_7_method_8_code
def yX5_bits : MethodName := ⟨RX5, "bits", "(II)I"⟩
abbrev cX5_numberU : ByteArray := prog_7_method_15_code
def yX5_numberU : MethodName := ⟨RX5, "numberU", "()I"⟩
abbrev cX5_lay : ByteArray := prog_7_method_19_code
def yX5_lay : MethodName := ⟨RX5, "lay", "(I)V"⟩
abbrev cX5_numberJ : ByteArray := prog_7_method_14_code
def yX5_numberJ : MethodName := ⟨RX5, "numberJ", "()I"⟩
abbrev cX5_jump : ByteArray := prog_7_method_21_code
def yX5_jump : MethodName := ⟨RX5, "jump", "(I)V"⟩
abbrev cX5_goes : ByteArray := prog_7_method_20_code
def yX5_goes : MethodName := ⟨RX5, "goes", "(I)Z"⟩
abbrev cX5_none : ByteArray := prog_7_method_18_code
def yX5_none : MethodName := ⟨RX5, "none", "()V"⟩
abbrev cX5_a : ByteArray := prog_7_method_9_code
def yX5_a : MethodName := ⟨RX5, "a", "()I"⟩
abbrev cX5_numberI : ByteArray := prog_7_method_11_code
def yX5_numberI : MethodName := ⟨RX5, "numberI", "()I"⟩
abbrev cX5_branch : ByteArray := prog_7_method_22_code
def yX5_branch : MethodName := ⟨RX5, "branch", "()V"⟩
abbrev cX5_b : ByteArray := prog_7_method_10_code
def yX5_b : MethodName := ⟨RX5, "b", "()I"⟩
abbrev cX5_isBelow : ByteArray := prog_7_method_16_code
def yX5_isBelow : MethodName := ⟨RX5, "isBelow", "(II)Z"⟩
abbrev cX5_numberB : ByteArray := prog_7_method_13_code
def yX5_numberB : MethodName := ⟨RX5, "numberB", "()I"⟩
abbrev cX5_load : ByteArray := prog_7_method_24_code
def yX5_load : MethodName := ⟨RX5, "load", "()V"⟩
abbrev cX5_may : ByteArray := prog_7_method_23_code
def yX5_may : MethodName := ⟨RX5, "may", "(IIII)Z"⟩
abbrev cX5_store : ByteArray := prog_7_method_25_code
def yX5_store : MethodName := ⟨RX5, "store", "()V"⟩
abbrev cX5_numberS : ByteArray := prog_7_method_12_code
def yX5_numberS : MethodName := ⟨RX5, "numberS", "()I"⟩
abbrev cX5_withNumber : ByteArray := prog_7_method_26_code
def yX5_withNumber : MethodName := ⟨RX5, "withNumber", "()V"⟩
abbrev cX5_withRegister : ByteArray := prog_7_method_27_code
def yX5_withRegister : MethodName := ⟨RX5, "withRegister", "()V"⟩
abbrev cX5_product : ByteArray := prog_7_method_29_code
def yX5_product : MethodName := ⟨RX5, "product", "(III)V"⟩
abbrev cX5_upper : ByteArray := prog_7_method_28_code
def yX5_upper : MethodName := ⟨RX5, "upper", "(II)I"⟩
abbrev cX5_quotient : ByteArray := prog_7_method_30_code
def yX5_quotient : MethodName := ⟨RX5, "quotient", "(II)I"⟩
abbrev cX5_system : ByteArray := prog_7_method_35_code
def yX5_system : MethodName := ⟨RX5, "system", "()V"⟩
abbrev cX5_change : ByteArray := prog_7_method_34_code
def yX5_change : MethodName := ⟨RX5, "change", "()V"⟩
abbrev cX5_controlOf : ByteArray := prog_7_method_31_code
def yX5_controlOf : MethodName := ⟨RX5, "controlOf", "(I)I"⟩
abbrev cX5_has : ByteArray := prog_7_method_32_code
def yX5_has : MethodName := ⟨RX5, "has", "(I)I"⟩
abbrev cX5_become : ByteArray := prog_7_method_33_code
def yX5_become : MethodName := ⟨RX5, "become", "(II)V"⟩
abbrev cX5_reset : ByteArray := prog_7_method_39_code
def yX5_reset : MethodName := ⟨RX5, "reset", "(Z)V"⟩
abbrev cX5_register : ByteArray := prog_7_method_40_code
def yX5_register : MethodName := ⟨RX5, "register", "(I)I"⟩
abbrev cX5_control : ByteArray := prog_7_method_41_code
def yX5_control : MethodName := ⟨RX5, "control", "(I)I"⟩
abbrev cX5_word : ByteArray := prog_7_method_42_code
def yX5_word : MethodName := ⟨RX5, "word", "(I)I"⟩
abbrev cX5_state : ByteArray := prog_7_method_43_code
def yX5_state : MethodName := ⟨RX5, "state", "(I)I"⟩
