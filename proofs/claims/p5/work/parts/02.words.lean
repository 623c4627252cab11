set_option maxRecDepth 20000 in
theorem q_s_0 : Cond.selects RX3 yX3_writeWord yX3_writeWord ∈ BIG := big_s (i := 0) rfl rfl
set_option maxRecDepth 20000 in
theorem q_s_1 : Cond.selects RX4 yX4_putPc yX4_putPc ∈ BIG := big_s (i := 1) rfl rfl
set_option maxRecDepth 20000 in
theorem q_s_2 : Cond.selects RX4 yX4_writeRegister yX4_writeRegister ∈ BIG := big_s (i := 2) rfl rfl
set_option maxRecDepth 20000 in
theorem q_s_3 : Cond.selects RX2 yX2_clear yX2_clear ∈ BIG := big_s (i := 3) rfl rfl
set_option maxRecDepth 20000 in
theorem q_s_4 : Cond.selects RX3 yX3_clear yX3_clear ∈ BIG := big_s (i := 4) rfl rfl
set_option maxRecDepth 20000 in
theorem q_s_5 : Cond.selects "java/lang/Throwable" ⟨"java/lang/Throwable", "fillInStackTrace", "(I)Ljava/lang/Throwable;"⟩ ⟨"java/lang/Throwable", "fillInStackTrace", "(I)Ljava/lang/Throwable;"⟩ ∈ BIG := big_s (i := 5) rfl rfl
set_option maxRecDepth 20000 in
theorem q_s_6 : Cond.selects RX4 yX4_refuseBeyondLimit yX4_refuseBeyondLimit ∈ BIG := big_s (i := 6) rfl rfl
set_option maxRecDepth 20000 in
theorem q_s_7 : Cond.selects RX4 yX4_step yX4_step ∈ BIG := big_s (i := 7) rfl rfl
set_option maxRecDepth 20000 in
theorem q_s_8 : Cond.selects RX2 yX2_isInterrupted yX2_isInterrupted ∈ BIG := big_s (i := 8) rfl rfl
set_option maxRecDepth 20000 in
theorem q_s_9 : Cond.selects RX4 yX4_trap yX4_trap ∈ BIG := big_s (i := 9) rfl rfl
set_option maxRecDepth 20000 in
theorem q_s_10 : Cond.selects RX2 yX2_enterTrap yX2_enterTrap ∈ BIG := big_s (i := 10) rfl rfl
set_option maxRecDepth 20000 in
theorem q_s_11 : Cond.selects RX3 yX3_readWord yX3_readWord ∈ BIG := big_s (i := 11) rfl rfl
set_option maxRecDepth 20000 in
theorem q_s_12 : Cond.selects RX4 yX4_execute yX4_execute ∈ BIG := big_s (i := 12) rfl rfl
set_option maxRecDepth 20000 in
theorem q_s_13 : Cond.selects RX4 yX4_goOnWith yX4_goOnWith ∈ BIG := big_s (i := 13) rfl rfl
set_option maxRecDepth 20000 in
theorem q_s_14 : Cond.selects RX4 yX4_goOn yX4_goOn ∈ BIG := big_s (i := 14) rfl rfl
set_option maxRecDepth 20000 in
theorem q_s_15 : Cond.selects RX4 yX4_jump yX4_jump ∈ BIG := big_s (i := 15) rfl rfl
set_option maxRecDepth 20000 in
theorem q_s_16 : Cond.selects RX4 yX4_jumpByRegister yX4_jumpByRegister ∈ BIG := big_s (i := 16) rfl rfl
set_option maxRecDepth 20000 in
theorem q_s_17 : Cond.selects RX4 yX4_unknown yX4_unknown ∈ BIG := big_s (i := 17) rfl rfl
set_option maxRecDepth 20000 in
theorem q_s_18 : Cond.selects RX4 yX4_valueA yX4_valueA ∈ BIG := big_s (i := 18) rfl rfl
set_option maxRecDepth 20000 in
theorem q_s_19 : Cond.selects RX4 yX4_readRegister yX4_readRegister ∈ BIG := big_s (i := 19) rfl rfl
set_option maxRecDepth 20000 in
theorem q_s_20 : Cond.selects RX4 yX4_branch yX4_branch ∈ BIG := big_s (i := 20) rfl rfl
set_option maxRecDepth 20000 in
theorem q_s_21 : Cond.selects RX4 yX4_valueB yX4_valueB ∈ BIG := big_s (i := 21) rfl rfl
set_option maxRecDepth 20000 in
theorem q_s_22 : Cond.selects RX4 yX4_load yX4_load ∈ BIG := big_s (i := 22) rfl rfl
set_option maxRecDepth 20000 in
theorem q_s_23 : Cond.selects RX3 yX3_readPart yX3_readPart ∈ BIG := big_s (i := 23) rfl rfl
set_option maxRecDepth 20000 in
theorem q_s_24 : Cond.selects RX4 yX4_store yX4_store ∈ BIG := big_s (i := 24) rfl rfl
set_option maxRecDepth 20000 in
theorem q_s_25 : Cond.selects RX3 yX3_writePart yX3_writePart ∈ BIG := big_s (i := 25) rfl rfl
set_option maxRecDepth 20000 in
theorem q_s_26 : Cond.selects RX4 yX4_computeWithNumber yX4_computeWithNumber ∈ BIG := big_s (i := 26) rfl rfl
set_option maxRecDepth 20000 in
theorem q_s_27 : Cond.selects RX4 yX4_computeWithRegister yX4_computeWithRegister ∈ BIG := big_s (i := 27) rfl rfl
set_option maxRecDepth 20000 in
theorem q_s_28 : Cond.selects RX4 yX4_callSystem yX4_callSystem ∈ BIG := big_s (i := 28) rfl rfl
set_option maxRecDepth 20000 in
theorem q_s_29 : Cond.selects RX2 yX2_leaveTrap yX2_leaveTrap ∈ BIG := big_s (i := 29) rfl rfl
set_option maxRecDepth 20000 in
theorem q_s_30 : Cond.selects RX4 yX4_exchangeControl yX4_exchangeControl ∈ BIG := big_s (i := 30) rfl rfl
set_option maxRecDepth 20000 in
theorem q_s_31 : Cond.selects RX2 yX2_read yX2_read ∈ BIG := big_s (i := 31) rfl rfl
set_option maxRecDepth 20000 in
theorem q_s_32 : Cond.selects RX2 yX2_write yX2_write ∈ BIG := big_s (i := 32) rfl rfl
set_option maxRecDepth 20000 in
theorem q_s_33 : Cond.selects RX5 yX5_raise yX5_raise ∈ BIG := big_s (i := 33) rfl rfl
set_option maxRecDepth 20000 in
theorem q_s_34 : Cond.selects RX5 yX5_step yX5_step ∈ BIG := big_s (i := 34) rfl rfl
set_option maxRecDepth 20000 in
theorem q_s_35 : Cond.selects RX5 yX5_trap yX5_trap ∈ BIG := big_s (i := 35) rfl rfl
set_option maxRecDepth 20000 in
theorem q_s_36 : Cond.selects RX5 yX5_instruct yX5_instruct ∈ BIG := big_s (i := 36) rfl rfl
set_option maxRecDepth 20000 in
theorem q_s_37 : Cond.selects RX5 yX5_bits yX5_bits ∈ BIG := big_s (i := 37) rfl rfl
set_option maxRecDepth 20000 in
theorem q_s_38 : Cond.selects RX5 yX5_numberU yX5_numberU ∈ BIG := big_s (i := 38) rfl rfl
set_option maxRecDepth 20000 in
theorem q_s_39 : Cond.selects RX5 yX5_lay yX5_lay ∈ BIG := big_s (i := 39) rfl rfl
set_option maxRecDepth 20000 in
theorem q_s_40 : Cond.selects RX5 yX5_numberJ yX5_numberJ ∈ BIG := big_s (i := 40) rfl rfl
set_option maxRecDepth 20000 in
theorem q_s_41 : Cond.selects RX5 yX5_jump yX5_jump ∈ BIG := big_s (i := 41) rfl rfl
set_option maxRecDepth 20000 in
theorem q_s_42 : Cond.selects RX5 yX5_goes yX5_goes ∈ BIG := big_s (i := 42) rfl rfl
set_option maxRecDepth 20000 in
theorem q_s_43 : Cond.selects RX5 yX5_none yX5_none ∈ BIG := big_s (i := 43) rfl rfl
set_option maxRecDepth 20000 in
theorem q_s_44 : Cond.selects RX5 yX5_a yX5_a ∈ BIG := big_s (i := 44) rfl rfl
set_option maxRecDepth 20000 in
theorem q_s_45 : Cond.selects RX5 yX5_numberI yX5_numberI ∈ BIG := big_s (i := 45) rfl rfl
set_option maxRecDepth 20000 in
theorem q_s_46 : Cond.selects RX5 yX5_branch yX5_branch ∈ BIG := big_s (i := 46) rfl rfl
set_option maxRecDepth 20000 in
theorem q_s_47 : Cond.selects RX5 yX5_b yX5_b ∈ BIG := big_s (i := 47) rfl rfl
set_option maxRecDepth 20000 in
theorem q_s_48 : Cond.selects RX5 yX5_numberB yX5_numberB ∈ BIG := big_s (i := 48) rfl rfl
set_option maxRecDepth 20000 in
theorem q_s_49 : Cond.selects RX5 yX5_load yX5_load ∈ BIG := big_s (i := 49) rfl rfl
set_option maxRecDepth 20000 in
theorem q_s_50 : Cond.selects RX5 yX5_may yX5_may ∈ BIG := big_s (i := 50) rfl rfl
set_option maxRecDepth 20000 in
theorem q_s_51 : Cond.selects RX5 yX5_store yX5_store ∈ BIG := big_s (i := 51) rfl rfl
set_option maxRecDepth 20000 in
theorem q_s_52 : Cond.selects RX5 yX5_numberS yX5_numberS ∈ BIG := big_s (i := 52) rfl rfl
set_option maxRecDepth 20000 in
theorem q_s_53 : Cond.selects RX5 yX5_withNumber yX5_withNumber ∈ BIG := big_s (i := 53) rfl rfl
set_option maxRecDepth 20000 in
theorem q_s_54 : Cond.selects RX5 yX5_withRegister yX5_withRegister ∈ BIG := big_s (i := 54) rfl rfl
set_option maxRecDepth 20000 in
theorem q_s_55 : Cond.selects RX5 yX5_product yX5_product ∈ BIG := big_s (i := 55) rfl rfl
set_option maxRecDepth 20000 in
theorem q_s_56 : Cond.selects RX5 yX5_system yX5_system ∈ BIG := big_s (i := 56) rfl rfl
set_option maxRecDepth 20000 in
theorem q_s_57 : Cond.selects RX5 yX5_change yX5_change ∈ BIG := big_s (i := 57) rfl rfl
set_option maxRecDepth 20000 in
theorem q_s_58 : Cond.selects RX5 yX5_has yX5_has ∈ BIG := big_s (i := 58) rfl rfl
set_option maxRecDepth 20000 in
theorem q_s_59 : Cond.selects RX5 yX5_become yX5_become ∈ BIG := big_s (i := 59) rfl rfl
set_option maxRecDepth 20000 in
theorem q_t1_0 : Cond.initialized RL ∈ BIG := big_t1 (i := 0) rfl rfl
set_option maxRecDepth 20000 in
theorem q_t1_1 : Cond.initialized RX4 ∈ BIG := big_t1 (i := 1) rfl rfl
set_option maxRecDepth 20000 in
theorem q_t1_2 : Cond.initialized RX3 ∈ BIG := big_t1 (i := 2) rfl rfl
set_option maxRecDepth 20000 in
theorem q_t1_3 : Cond.initialized RX2 ∈ BIG := big_t1 (i := 3) rfl rfl
set_option maxRecDepth 20000 in
theorem q_t1_4 : Cond.initialized RX5 ∈ BIG := big_t1 (i := 4) rfl rfl
set_option maxRecDepth 20000 in
theorem q_t1_5 : Cond.initialized "java/lang/Throwable" ∈ BIG := big_t1 (i := 5) rfl rfl
set_option maxRecDepth 20000 in
theorem q_t1_6 : Cond.initialized "java/lang/Exception" ∈ BIG := big_t1 (i := 6) rfl rfl
set_option maxRecDepth 20000 in
theorem q_t1_7 : Cond.initialized "java/lang/RuntimeException" ∈ BIG := big_t1 (i := 7) rfl rfl
set_option maxRecDepth 20000 in
theorem q_t1_8 : Cond.initialized "java/lang/IllegalArgumentException" ∈ BIG := big_t1 (i := 8) rfl rfl
set_option maxRecDepth 20000 in
theorem q_t1_9 : Cond.initialized "java/lang/IllegalStateException" ∈ BIG := big_t1 (i := 9) rfl rfl
set_option maxRecDepth 20000 in
theorem q_t1_10 : Cond.initialized RX1 ∈ BIG := big_t1 (i := 10) rfl rfl
set_option maxRecDepth 20000 in
theorem q_t1_11 : Cond.initialized RX0 ∈ BIG := big_t1 (i := 11) rfl rfl
set_option maxRecDepth 20000 in
theorem q_t1_12 : Cond.initialized RJ7 ∈ BIG := big_t1 (i := 12) rfl rfl
set_option maxRecDepth 20000 in
theorem q_t1_13 : Cond.initialized "java/util/NoSuchElementException" ∈ BIG := big_t1 (i := 13) rfl rfl
set_option maxRecDepth 20000 in
theorem q_t1_14 : Cond.classLink RL 8 RX4 ∈ BIG := big_t1 (i := 14) rfl rfl
set_option maxRecDepth 20000 in
theorem q_t1_15 : Cond.instantiable RX4 7 ∈ BIG := big_t1 (i := 15) rfl rfl
set_option maxRecDepth 20000 in
theorem q_t1_16 : Cond.methodLink RL 28 yX4_init ∈ BIG := big_t1 (i := 16) rfl rfl
set_option maxRecDepth 20000 in
theorem q_t1_17 : Cond.instanceMethod yX4_init ∈ BIG := big_t1 (i := 17) rfl rfl
set_option maxRecDepth 20000 in
theorem q_t1_18 : Cond.code yX4_init cX4_init 1 none ∈ BIG := big_t1 (i := 18) rfl rfl
set_option maxRecDepth 20000 in
theorem q_t1_19 : Cond.methodLink RX4 1 objectInit ∈ BIG := big_t1 (i := 19) rfl rfl
set_option maxRecDepth 20000 in
theorem q_t1_20 : Cond.instanceMethod objectInit ∈ BIG := big_t1 (i := 20) rfl rfl
set_option maxRecDepth 20000 in
theorem q_t1_21 : Cond.code objectInit ⟨#[0xb1]⟩ 1 none ∈ BIG := big_t1 (i := 21) rfl rfl
set_option maxRecDepth 20000 in
theorem q_t1_22 : Cond.classLink RX4 7 RX3 ∈ BIG := big_t1 (i := 22) rfl rfl
set_option maxRecDepth 20000 in
theorem q_t1_23 : Cond.instantiable RX3 1 ∈ BIG := big_t1 (i := 23) rfl rfl
set_option maxRecDepth 20000 in
theorem q_t1_25 : Cond.instanceMethod yX3_init ∈ BIG := big_t1 (i := 25) rfl rfl
set_option maxRecDepth 20000 in
theorem q_t1_26 : Cond.code yX3_init cX3_init 1 none ∈ BIG := big_t1 (i := 26) rfl rfl
set_option maxRecDepth 20000 in
theorem q_t1_27 : Cond.methodLink RX3 1 objectInit ∈ BIG := big_t1 (i := 27) rfl rfl
set_option maxRecDepth 20000 in
theorem q_t1_28 : Cond.fieldLink RX3 9 "HartDesk$Memory" "words" "[I" ∈ BIG := big_t1 (i := 28) rfl rfl
set_option maxRecDepth 20000 in
theorem q_t1_29 : Cond.laysFinal RX3 "HartDesk$Memory" "words" "[I" ∈ BIG := big_t1 (i := 29) rfl rfl
set_option maxRecDepth 20000 in
theorem q_t1_32 : Cond.arrayClass .int ∈ BIG := big_t1 (i := 32) rfl rfl
set_option maxRecDepth 20000 in
theorem q_t1_33 : Cond.classLink RX4 16 RX2 ∈ BIG := big_t1 (i := 33) rfl rfl
set_option maxRecDepth 20000 in
theorem q_t1_34 : Cond.instantiable RX2 9 ∈ BIG := big_t1 (i := 34) rfl rfl
set_option maxRecDepth 20000 in
theorem q_t1_36 : Cond.instanceMethod yX2_init ∈ BIG := big_t1 (i := 36) rfl rfl
set_option maxRecDepth 20000 in
theorem q_t1_37 : Cond.code yX2_init cX2_init 1 none ∈ BIG := big_t1 (i := 37) rfl rfl
set_option maxRecDepth 20000 in
theorem q_t1_38 : Cond.methodLink RX2 1 objectInit ∈ BIG := big_t1 (i := 38) rfl rfl
set_option maxRecDepth 20000 in
theorem q_t1_39 : Cond.fieldLink RX2 13 "HartDesk$Controls" "status" "I" ∈ BIG := big_t1 (i := 39) rfl rfl
set_option maxRecDepth 20000 in
theorem q_t1_40 : Cond.fieldLink RX2 17 "HartDesk$Controls" "enabled" "I" ∈ BIG := big_t1 (i := 40) rfl rfl
set_option maxRecDepth 20000 in
theorem q_t1_41 : Cond.fieldLink RX2 20 "HartDesk$Controls" "vector" "I" ∈ BIG := big_t1 (i := 41) rfl rfl
set_option maxRecDepth 20000 in
theorem q_t1_43 : Cond.fieldLink RX2 23 "HartDesk$Controls" "scratch" "I" ∈ BIG := big_t1 (i := 43) rfl rfl
set_option maxRecDepth 20000 in
theorem q_t1_44 : Cond.fieldLink RX2 26 "HartDesk$Controls" "back" "I" ∈ BIG := big_t1 (i := 44) rfl rfl
set_option maxRecDepth 20000 in
theorem q_t1_45 : Cond.fieldLink RX2 29 "HartDesk$Controls" "cause" "I" ∈ BIG := big_t1 (i := 45) rfl rfl
set_option maxRecDepth 20000 in
theorem q_t1_46 : Cond.fieldLink RX2 32 "HartDesk$Controls" "value" "I" ∈ BIG := big_t1 (i := 46) rfl rfl
set_option maxRecDepth 20000 in
theorem q_t1_47 : Cond.fieldLink RX2 39 "HartDesk$Controls" "done" "I" ∈ BIG := big_t1 (i := 47) rfl rfl
set_option maxRecDepth 20000 in
theorem q_t1_50 : Cond.fieldLink RX2 35 "HartDesk$Controls" "lineUp" "Z" ∈ BIG := big_t1 (i := 50) rfl rfl
set_option maxRecDepth 20000 in
theorem q_t1_51 : Cond.lays RX2 "HartDesk$Controls" "status" "I" ∈ BIG := big_t1 (i := 51) rfl rfl
set_option maxRecDepth 20000 in
theorem q_t1_53 : Cond.lays RX2 "HartDesk$Controls" "enabled" "I" ∈ BIG := big_t1 (i := 53) rfl rfl
set_option maxRecDepth 20000 in
theorem q_t1_55 : Cond.lays RX2 "HartDesk$Controls" "vector" "I" ∈ BIG := big_t1 (i := 55) rfl rfl
set_option maxRecDepth 20000 in
theorem q_t1_57 : Cond.lays RX2 "HartDesk$Controls" "scratch" "I" ∈ BIG := big_t1 (i := 57) rfl rfl
set_option maxRecDepth 20000 in
theorem q_t1_59 : Cond.lays RX2 "HartDesk$Controls" "back" "I" ∈ BIG := big_t1 (i := 59) rfl rfl
set_option maxRecDepth 20000 in
theorem q_t1_61 : Cond.lays RX2 "HartDesk$Controls" "cause" "I" ∈ BIG := big_t1 (i := 61) rfl rfl
set_option maxRecDepth 20000 in
theorem q_t1_63 : Cond.lays RX2 "HartDesk$Controls" "value" "I" ∈ BIG := big_t1 (i := 63) rfl rfl
set_option maxRecDepth 20000 in
theorem q_t1_65 : Cond.lays RX2 "HartDesk$Controls" "done" "I" ∈ BIG := big_t1 (i := 65) rfl rfl
set_option maxRecDepth 20000 in
theorem q_t1_67 : Cond.lays RX2 "HartDesk$Controls" "lineUp" "Z" ∈ BIG := big_t1 (i := 67) rfl rfl
set_option maxRecDepth 20000 in
theorem q_t1_70 : Cond.fieldLink RX4 10 "HartDesk" "memory" "LHartDesk$Memory;" ∈ BIG := big_t1 (i := 70) rfl rfl
set_option maxRecDepth 20000 in
theorem q_t1_71 : Cond.fieldLink RX4 19 "HartDesk" "controls" "LHartDesk$Controls;" ∈ BIG := big_t1 (i := 71) rfl rfl
set_option maxRecDepth 20000 in
theorem q_t1_72 : Cond.fieldLink RX4 23 "HartDesk" "registers" "[I" ∈ BIG := big_t1 (i := 72) rfl rfl
set_option maxRecDepth 20000 in
theorem q_t1_73 : Cond.fieldLink RX4 70 "HartDesk" "pc" "I" ∈ BIG := big_t1 (i := 73) rfl rfl
set_option maxRecDepth 20000 in
theorem q_t1_74 : Cond.fieldLink RX4 55 "HartDesk" "stopped" "Z" ∈ BIG := big_t1 (i := 74) rfl rfl
set_option maxRecDepth 20000 in
theorem q_t1_75 : Cond.fieldLink RX4 100 "HartDesk" "stepsInAll" "I" ∈ BIG := big_t1 (i := 75) rfl rfl
set_option maxRecDepth 20000 in
theorem q_t1_76 : Cond.fieldLink RX4 74 "HartDesk" "traps" "I" ∈ BIG := big_t1 (i := 76) rfl rfl
set_option maxRecDepth 20000 in
theorem q_t1_77 : Cond.laysFinal RX4 "HartDesk" "memory" "LHartDesk$Memory;" ∈ BIG := big_t1 (i := 77) rfl rfl
set_option maxRecDepth 20000 in
theorem q_t1_79 : Cond.laysFinal RX4 "HartDesk" "controls" "LHartDesk$Controls;" ∈ BIG := big_t1 (i := 79) rfl rfl
set_option maxRecDepth 20000 in
theorem q_t1_81 : Cond.laysFinal RX4 "HartDesk" "registers" "[I" ∈ BIG := big_t1 (i := 81) rfl rfl
set_option maxRecDepth 20000 in
theorem q_t1_83 : Cond.lays RX4 "HartDesk" "pc" "I" ∈ BIG := big_t1 (i := 83) rfl rfl
set_option maxRecDepth 20000 in
theorem q_t1_85 : Cond.lays RX4 "HartDesk" "stopped" "Z" ∈ BIG := big_t1 (i := 85) rfl rfl
set_option maxRecDepth 20000 in
theorem q_t1_87 : Cond.lays RX4 "HartDesk" "stepsInAll" "I" ∈ BIG := big_t1 (i := 87) rfl rfl
set_option maxRecDepth 20000 in
theorem q_t1_89 : Cond.lays RX4 "HartDesk" "traps" "I" ∈ BIG := big_t1 (i := 89) rfl rfl
set_option maxRecDepth 20000 in
theorem q_t1_92 : Cond.methodLink RL 32 yX4_set ∈ BIG := big_t1 (i := 92) rfl rfl
set_option maxRecDepth 20000 in
theorem q_t1_93 : Cond.instanceMethod yX4_set ∈ BIG := big_t1 (i := 93) rfl rfl
set_option maxRecDepth 20000 in
theorem q_t1_94 : Cond.selects RX4 yX4_set yX4_set ∈ BIG := big_t1 (i := 94) rfl rfl
set_option maxRecDepth 20000 in
theorem q_t1_95 : Cond.code yX4_set cX4_set 3 (some .boolean) ∈ BIG := big_t1 (i := 95) rfl rfl
set_option maxRecDepth 20000 in
theorem q_t1_97 : Cond.static yX3_isWordAddress ∈ BIG := big_t1 (i := 97) rfl rfl
set_option maxRecDepth 20000 in
theorem q_t1_98 : Cond.code yX3_isWordAddress cX3_isWordAddress 1 (some .boolean) ∈ BIG := big_t1 (i := 98) rfl rfl
set_option maxRecDepth 20000 in
theorem q_t1_99 : Cond.methodLink RX3 13 yX3_holds ∈ BIG := big_t1 (i := 99) rfl rfl
set_option maxRecDepth 20000 in
theorem q_t1_100 : Cond.static yX3_holds ∈ BIG := big_t1 (i := 100) rfl rfl
set_option maxRecDepth 20000 in
theorem q_t1_101 : Cond.code yX3_holds cX3_holds 1 (some .boolean) ∈ BIG := big_t1 (i := 101) rfl rfl
set_option maxRecDepth 20000 in
theorem q_t1_104 : Cond.instanceMethod yX3_writeWord ∈ BIG := big_t1 (i := 104) rfl rfl
set_option maxRecDepth 20000 in
theorem q_t1_105 : Cond.code yX3_writeWord cX3_writeWord 4 none ∈ BIG := big_t1 (i := 105) rfl rfl
set_option maxRecDepth 20000 in
theorem q_t1_106 : Cond.methodLink RL 37 yX4_put ∈ BIG := big_t1 (i := 106) rfl rfl
set_option maxRecDepth 20000 in
theorem q_t1_107 : Cond.instanceMethod yX4_put ∈ BIG := big_t1 (i := 107) rfl rfl
set_option maxRecDepth 20000 in
theorem q_t1_108 : Cond.selects RX4 yX4_put yX4_put ∈ BIG := big_t1 (i := 108) rfl rfl
set_option maxRecDepth 20000 in
theorem q_t1_109 : Cond.code yX4_put cX4_put 3 (some .boolean) ∈ BIG := big_t1 (i := 109) rfl rfl
set_option maxRecDepth 20000 in
theorem q_t1_110 : Cond.methodLink RX4 35 yX4_putPc ∈ BIG := big_t1 (i := 110) rfl rfl
set_option maxRecDepth 20000 in
theorem q_t1_112 : Cond.instanceMethod yX4_putPc ∈ BIG := big_t1 (i := 112) rfl rfl
set_option maxRecDepth 20000 in
theorem q_t1_113 : Cond.code yX4_putPc cX4_putPc 2 (some .boolean) ∈ BIG := big_t1 (i := 113) rfl rfl
set_option maxRecDepth 20000 in
theorem q_t1_114 : Cond.methodLink RX4 38 yX4_writeRegister ∈ BIG := big_t1 (i := 114) rfl rfl
set_option maxRecDepth 20000 in
theorem q_t1_116 : Cond.instanceMethod yX4_writeRegister ∈ BIG := big_t1 (i := 116) rfl rfl
set_option maxRecDepth 20000 in
theorem q_t1_117 : Cond.code yX4_writeRegister cX4_writeRegister 3 none ∈ BIG := big_t1 (i := 117) rfl rfl
set_option maxRecDepth 20000 in
theorem q_t1_118 : Cond.methodLink RL 41 yX4_line ∈ BIG := big_t1 (i := 118) rfl rfl
set_option maxRecDepth 20000 in
theorem q_t1_119 : Cond.instanceMethod yX4_line ∈ BIG := big_t1 (i := 119) rfl rfl
set_option maxRecDepth 20000 in
theorem q_t1_120 : Cond.selects RX4 yX4_line yX4_line ∈ BIG := big_t1 (i := 120) rfl rfl
set_option maxRecDepth 20000 in
theorem q_t1_121 : Cond.code yX4_line cX4_line 2 none ∈ BIG := big_t1 (i := 121) rfl rfl
set_option maxRecDepth 20000 in
theorem q_t1_122 : Cond.methodLink RL 56 yX4_reset ∈ BIG := big_t1 (i := 122) rfl rfl
set_option maxRecDepth 20000 in
theorem q_t1_123 : Cond.instanceMethod yX4_reset ∈ BIG := big_t1 (i := 123) rfl rfl
set_option maxRecDepth 20000 in
theorem q_t1_124 : Cond.selects RX4 yX4_reset yX4_reset ∈ BIG := big_t1 (i := 124) rfl rfl
set_option maxRecDepth 20000 in
theorem q_t1_125 : Cond.code yX4_reset cX4_reset 2 none ∈ BIG := big_t1 (i := 125) rfl rfl
set_option maxRecDepth 20000 in
theorem q_t1_126 : Cond.methodLink RX4 61 yJ7_fill ∈ BIG := big_t1 (i := 126) rfl rfl
set_option maxRecDepth 20000 in
theorem q_t1_127 : Cond.static yJ7_fill ∈ BIG := big_t1 (i := 127) rfl rfl
set_option maxRecDepth 20000 in
theorem q_t1_128 : Cond.code yJ7_fill cJ7_fill 4 none ∈ BIG := big_t1 (i := 128) rfl rfl
set_option maxRecDepth 20000 in
theorem q_t1_131 : Cond.instanceMethod yX2_clear ∈ BIG := big_t1 (i := 131) rfl rfl
set_option maxRecDepth 20000 in
theorem q_t1_132 : Cond.code yX2_clear cX2_clear 1 none ∈ BIG := big_t1 (i := 132) rfl rfl
set_option maxRecDepth 20000 in
theorem q_t1_135 : Cond.instanceMethod yX3_clear ∈ BIG := big_t1 (i := 135) rfl rfl
set_option maxRecDepth 20000 in
theorem q_t1_136 : Cond.code yX3_clear cX3_clear 1 none ∈ BIG := big_t1 (i := 136) rfl rfl
set_option maxRecDepth 20000 in
theorem q_t1_137 : Cond.methodLink RX3 32 yJ7_fill ∈ BIG := big_t1 (i := 137) rfl rfl
set_option maxRecDepth 20000 in
theorem q_t1_138 : Cond.methodLink RL 69 yX4_state ∈ BIG := big_t1 (i := 138) rfl rfl
set_option maxRecDepth 20000 in
theorem q_t1_139 : Cond.instanceMethod yX4_state ∈ BIG := big_t1 (i := 139) rfl rfl
set_option maxRecDepth 20000 in
theorem q_t1_140 : Cond.selects RX4 yX4_state yX4_state ∈ BIG := big_t1 (i := 140) rfl rfl
set_option maxRecDepth 20000 in
theorem q_t1_141 : Cond.code yX4_state cX4_state 2 (some .int) ∈ BIG := big_t1 (i := 141) rfl rfl
set_option maxRecDepth 20000 in
theorem q_t1_142 : Cond.constant RX4 106 2147483647 ∈ BIG := big_t1 (i := 142) rfl rfl
set_option maxRecDepth 20000 in
theorem q_t1_143 : Cond.methodLink RL 46 yL_run ∈ BIG := big_t1 (i := 143) rfl rfl
set_option maxRecDepth 20000 in
theorem q_t1_144 : Cond.static yL_run ∈ BIG := big_t1 (i := 144) rfl rfl
set_option maxRecDepth 20000 in
theorem q_t1_146 : Cond.classLink RL 13 "java/lang/IllegalArgumentException" ∈ BIG := big_t1 (i := 146) rfl rfl
set_option maxRecDepth 20000 in
theorem q_t1_147 : Cond.classLink RL 15 "java/lang/IllegalStateException" ∈ BIG := big_t1 (i := 147) rfl rfl
set_option maxRecDepth 20000 in
theorem q_t1_148 : Cond.methodLink RL 7 yX4_run ∈ BIG := big_t1 (i := 148) rfl rfl
set_option maxRecDepth 20000 in
theorem q_t1_149 : Cond.instanceMethod yX4_run ∈ BIG := big_t1 (i := 149) rfl rfl
set_option maxRecDepth 20000 in
theorem q_t1_150 : Cond.selects RX4 yX4_run yX4_run ∈ BIG := big_t1 (i := 150) rfl rfl
set_option maxRecDepth 20000 in
theorem q_t1_151 : Cond.code yX4_run cX4_run 3 (some .int) ∈ BIG := big_t1 (i := 151) rfl rfl
set_option maxRecDepth 20000 in
theorem q_t1_152 : Cond.classLink RX4 45 "java/lang/IllegalArgumentException" ∈ BIG := big_t1 (i := 152) rfl rfl
set_option maxRecDepth 20000 in
theorem q_t1_153 : Cond.instantiable "java/lang/IllegalArgumentException" 6 ∈ BIG := big_t1 (i := 153) rfl rfl
set_option maxRecDepth 20000 in
theorem q_t1_161 : Cond.selects "java/lang/IllegalArgumentException" ⟨"java/lang/Throwable", "fillInStackTrace", "(I)Ljava/lang/Throwable;"⟩ ⟨"java/lang/Throwable", "fillInStackTrace", "(I)Ljava/lang/Throwable;"⟩ ∈ BIG := big_t1 (i := 161) rfl rfl
set_option maxRecDepth 20000 in
theorem q_t1_162 : Cond.selects "java/lang/IllegalArgumentException" ⟨"java/lang/Throwable", "fillInStackTrace", "()Ljava/lang/Throwable;"⟩ ⟨"java/lang/Throwable", "fillInStackTrace", "()Ljava/lang/Throwable;"⟩ ∈ BIG := big_t1 (i := 162) rfl rfl
set_option maxRecDepth 20000 in
theorem q_t1_163 : Cond.lays "java/lang/IllegalArgumentException" "java/lang/Throwable" "cause" "Ljava/lang/Throwable;" ∈ BIG := big_t1 (i := 163) rfl rfl
set_option maxRecDepth 20000 in
theorem q_t1_164 : Cond.lays "java/lang/Throwable" "java/lang/Throwable" "cause" "Ljava/lang/Throwable;" ∈ BIG := big_t1 (i := 164) rfl rfl
set_option maxRecDepth 20000 in
theorem q_t1_165 : Cond.lays "java/lang/IllegalArgumentException" "java/lang/Throwable" "stackTrace" "[Ljava/lang/StackTraceElement;" ∈ BIG := big_t1 (i := 165) rfl rfl
set_option maxRecDepth 20000 in
theorem q_t1_166 : Cond.lays "java/lang/Throwable" "java/lang/Throwable" "stackTrace" "[Ljava/lang/StackTraceElement;" ∈ BIG := big_t1 (i := 166) rfl rfl
set_option maxRecDepth 20000 in
theorem q_t1_167 : Cond.lays "java/lang/IllegalArgumentException" "java/lang/Throwable" "suppressedExceptions" "Ljava/util/List;" ∈ BIG := big_t1 (i := 167) rfl rfl
set_option maxRecDepth 20000 in
theorem q_t1_168 : Cond.lays "java/lang/Throwable" "java/lang/Throwable" "suppressedExceptions" "Ljava/util/List;" ∈ BIG := big_t1 (i := 168) rfl rfl
set_option maxRecDepth 20000 in
theorem q_t1_169 : Cond.lays "java/lang/IllegalArgumentException" "java/lang/Throwable" "detailMessage" "Ljava/lang/String;" ∈ BIG := big_t1 (i := 169) rfl rfl
set_option maxRecDepth 20000 in
theorem q_t1_170 : Cond.lays "java/lang/Throwable" "java/lang/Throwable" "detailMessage" "Ljava/lang/String;" ∈ BIG := big_t1 (i := 170) rfl rfl
set_option maxRecDepth 20000 in
theorem q_t1_171 : Cond.lays "java/lang/IllegalArgumentException" "java/lang/Throwable" "backtrace" "Ljava/lang/Object;" ∈ BIG := big_t1 (i := 171) rfl rfl
set_option maxRecDepth 20000 in
theorem q_t1_172 : Cond.lays "java/lang/Throwable" "java/lang/Throwable" "backtrace" "Ljava/lang/Object;" ∈ BIG := big_t1 (i := 172) rfl rfl
set_option maxRecDepth 20000 in
theorem q_t1_173 : Cond.fieldLink "java/lang/Throwable" 198 "java/lang/Throwable" "backtrace" "Ljava/lang/Object;" ∈ BIG := big_t1 (i := 173) rfl rfl
set_option maxRecDepth 20000 in
theorem q_t1_175 : Cond.instanceMethod ⟨"java/lang/Throwable", "<init>", "()V"⟩ ∈ BIG := big_t1 (i := 175) rfl rfl
set_option maxRecDepth 20000 in
theorem q_t1_177 : Cond.methodLink "java/lang/Throwable" 1 objectInit ∈ BIG := big_t1 (i := 177) rfl rfl
set_option maxRecDepth 20000 in
theorem q_t1_178 : Cond.fieldLink "java/lang/Throwable" 13 "java/lang/Throwable" "UNASSIGNED_STACK" "[Ljava/lang/StackTraceElement;" ∈ BIG := big_t1 (i := 178) rfl rfl
set_option maxRecDepth 20000 in
theorem q_t1_180 : Cond.fieldLink "java/lang/Throwable" 20 "java/lang/Throwable" "SUPPRESSED_SENTINEL" "Ljava/util/List;" ∈ BIG := big_t1 (i := 180) rfl rfl
set_option maxRecDepth 20000 in
theorem q_t1_182 : Cond.methodLink "java/lang/Throwable" 27 ⟨"java/lang/Throwable", "fillInStackTrace", "()Ljava/lang/Throwable;"⟩ ∈ BIG := big_t1 (i := 182) rfl rfl
set_option maxRecDepth 20000 in
theorem q_t1_183 : Cond.instanceMethod ⟨"java/lang/Throwable", "fillInStackTrace", "()Ljava/lang/Throwable;"⟩ ∈ BIG := big_t1 (i := 183) rfl rfl
set_option maxRecDepth 20000 in
theorem q_t1_185 : Cond.selects "java/lang/IllegalStateException" ⟨"java/lang/Throwable", "fillInStackTrace", "()Ljava/lang/Throwable;"⟩ ⟨"java/lang/Throwable", "fillInStackTrace", "()Ljava/lang/Throwable;"⟩ ∈ BIG := big_t1 (i := 185) rfl rfl
set_option maxRecDepth 20000 in
theorem q_t1_186 : Cond.selects "java/util/NoSuchElementException" ⟨"java/lang/Throwable", "fillInStackTrace", "()Ljava/lang/Throwable;"⟩ ⟨"java/lang/Throwable", "fillInStackTrace", "()Ljava/lang/Throwable;"⟩ ∈ BIG := big_t1 (i := 186) rfl rfl
set_option maxRecDepth 20000 in
theorem q_t1_188 : Cond.methodLink "java/lang/Throwable" 202 ⟨"java/lang/Throwable", "fillInStackTrace", "(I)Ljava/lang/Throwable;"⟩ ∈ BIG := big_t1 (i := 188) rfl rfl
set_option maxRecDepth 20000 in
theorem q_t1_190 : Cond.instanceMethod ⟨"java/lang/Throwable", "fillInStackTrace", "(I)Ljava/lang/Throwable;"⟩ ∈ BIG := big_t1 (i := 190) rfl rfl
set_option maxRecDepth 20000 in
theorem q_t1_191 : Cond.instantiable "java/lang/Throwable" 6 ∈ BIG := big_t1 (i := 191) rfl rfl
set_option maxRecDepth 20000 in
theorem q_t1_194 : Cond.methodLink RX4 49 ⟨"java/lang/IllegalArgumentException", "<init>", "(Ljava/lang/String;)V"⟩ ∈ BIG := big_t1 (i := 194) rfl rfl
set_option maxRecDepth 20000 in
theorem q_t1_195 : Cond.instanceMethod ⟨"java/lang/IllegalArgumentException", "<init>", "(Ljava/lang/String;)V"⟩ ∈ BIG := big_t1 (i := 195) rfl rfl
set_option maxRecDepth 20000 in
theorem q_t1_197 : Cond.methodLink "java/lang/IllegalArgumentException" 7 ⟨"java/lang/RuntimeException", "<init>", "(Ljava/lang/String;)V"⟩ ∈ BIG := big_t1 (i := 197) rfl rfl
set_option maxRecDepth 20000 in
theorem q_t1_198 : Cond.instanceMethod ⟨"java/lang/RuntimeException", "<init>", "(Ljava/lang/String;)V"⟩ ∈ BIG := big_t1 (i := 198) rfl rfl
set_option maxRecDepth 20000 in
theorem q_t1_200 : Cond.methodLink "java/lang/RuntimeException" 7 ⟨"java/lang/Exception", "<init>", "(Ljava/lang/String;)V"⟩ ∈ BIG := big_t1 (i := 200) rfl rfl
set_option maxRecDepth 20000 in
theorem q_t1_201 : Cond.instanceMethod ⟨"java/lang/Exception", "<init>", "(Ljava/lang/String;)V"⟩ ∈ BIG := big_t1 (i := 201) rfl rfl
set_option maxRecDepth 20000 in
theorem q_t1_203 : Cond.methodLink "java/lang/Exception" 7 ⟨"java/lang/Throwable", "<init>", "(Ljava/lang/String;)V"⟩ ∈ BIG := big_t1 (i := 203) rfl rfl
set_option maxRecDepth 20000 in
theorem q_t1_204 : Cond.instanceMethod ⟨"java/lang/Throwable", "<init>", "(Ljava/lang/String;)V"⟩ ∈ BIG := big_t1 (i := 204) rfl rfl
set_option maxRecDepth 20000 in
theorem q_t1_207 : Cond.fieldLink "java/lang/Throwable" 31 "java/lang/Throwable" "detailMessage" "Ljava/lang/String;" ∈ BIG := big_t1 (i := 207) rfl rfl
set_option maxRecDepth 20000 in
theorem q_t1_208 : Cond.fieldLink "java/lang/Throwable" 7 "java/lang/Throwable" "cause" "Ljava/lang/Throwable;" ∈ BIG := big_t1 (i := 208) rfl rfl
set_option maxRecDepth 20000 in
theorem q_t1_209 : Cond.fieldLink "java/lang/Throwable" 17 "java/lang/Throwable" "stackTrace" "[Ljava/lang/StackTraceElement;" ∈ BIG := big_t1 (i := 209) rfl rfl
set_option maxRecDepth 20000 in
theorem q_t1_210 : Cond.fieldLink "java/lang/Throwable" 24 "java/lang/Throwable" "suppressedExceptions" "Ljava/util/List;" ∈ BIG := big_t1 (i := 210) rfl rfl
set_option maxRecDepth 20000 in
theorem q_t1_215 : Cond.lays "java/lang/IllegalArgumentException" "java/lang/Throwable" "depth" "I" ∈ BIG := big_t1 (i := 215) rfl rfl
set_option maxRecDepth 20000 in
theorem q_t1_219 : Cond.arrayClass .byte ∈ BIG := big_t1 (i := 219) rfl rfl
set_option maxRecDepth 20000 in
theorem q_t1_220 : Cond.methodLink RX4 52 yX4_refuseBeyondLimit ∈ BIG := big_t1 (i := 220) rfl rfl
set_option maxRecDepth 20000 in
theorem q_t1_222 : Cond.instanceMethod yX4_refuseBeyondLimit ∈ BIG := big_t1 (i := 222) rfl rfl
set_option maxRecDepth 20000 in
theorem q_t1_223 : Cond.code yX4_refuseBeyondLimit cX4_refuseBeyondLimit 1 none ∈ BIG := big_t1 (i := 223) rfl rfl
set_option maxRecDepth 20000 in
theorem q_t1_224 : Cond.constant RX4 107 100000 ∈ BIG := big_t1 (i := 224) rfl rfl
set_option maxRecDepth 20000 in
theorem q_t1_225 : Cond.classLink RX4 108 "java/lang/IllegalStateException" ∈ BIG := big_t1 (i := 225) rfl rfl
set_option maxRecDepth 20000 in
theorem q_t1_226 : Cond.instantiable "java/lang/IllegalStateException" 6 ∈ BIG := big_t1 (i := 226) rfl rfl
set_option maxRecDepth 20000 in
theorem q_t1_228 : Cond.selects "java/lang/IllegalStateException" ⟨"java/lang/Throwable", "fillInStackTrace", "(I)Ljava/lang/Throwable;"⟩ ⟨"java/lang/Throwable", "fillInStackTrace", "(I)Ljava/lang/Throwable;"⟩ ∈ BIG := big_t1 (i := 228) rfl rfl
set_option maxRecDepth 20000 in
theorem q_t1_229 : Cond.lays "java/lang/IllegalStateException" "java/lang/Throwable" "cause" "Ljava/lang/Throwable;" ∈ BIG := big_t1 (i := 229) rfl rfl
set_option maxRecDepth 20000 in
theorem q_t1_230 : Cond.lays "java/lang/IllegalStateException" "java/lang/Throwable" "stackTrace" "[Ljava/lang/StackTraceElement;" ∈ BIG := big_t1 (i := 230) rfl rfl
set_option maxRecDepth 20000 in
theorem q_t1_231 : Cond.lays "java/lang/IllegalStateException" "java/lang/Throwable" "suppressedExceptions" "Ljava/util/List;" ∈ BIG := big_t1 (i := 231) rfl rfl
set_option maxRecDepth 20000 in
theorem q_t1_232 : Cond.lays "java/lang/IllegalStateException" "java/lang/Throwable" "detailMessage" "Ljava/lang/String;" ∈ BIG := big_t1 (i := 232) rfl rfl
set_option maxRecDepth 20000 in
theorem q_t1_233 : Cond.lays "java/lang/IllegalStateException" "java/lang/Throwable" "backtrace" "Ljava/lang/Object;" ∈ BIG := big_t1 (i := 233) rfl rfl
set_option maxRecDepth 20000 in
theorem q_t1_235 : Cond.methodLink RX4 112 ⟨"java/lang/IllegalStateException", "<init>", "(Ljava/lang/String;)V"⟩ ∈ BIG := big_t1 (i := 235) rfl rfl
set_option maxRecDepth 20000 in
theorem q_t1_236 : Cond.instanceMethod ⟨"java/lang/IllegalStateException", "<init>", "(Ljava/lang/String;)V"⟩ ∈ BIG := big_t1 (i := 236) rfl rfl
set_option maxRecDepth 20000 in
theorem q_t1_238 : Cond.methodLink "java/lang/IllegalStateException" 7 ⟨"java/lang/RuntimeException", "<init>", "(Ljava/lang/String;)V"⟩ ∈ BIG := big_t1 (i := 238) rfl rfl
set_option maxRecDepth 20000 in
theorem q_t1_239 : Cond.lays "java/lang/IllegalStateException" "java/lang/Throwable" "depth" "I" ∈ BIG := big_t1 (i := 239) rfl rfl
set_option maxRecDepth 20000 in
theorem q_t2_1 : Cond.methodLink RX4 58 yX4_step ∈ BIG := big_t2 (i := 1) rfl rfl
set_option maxRecDepth 20000 in
theorem q_t2_3 : Cond.instanceMethod yX4_step ∈ BIG := big_t2 (i := 3) rfl rfl
set_option maxRecDepth 20000 in
theorem q_t2_4 : Cond.code yX4_step cX4_step 1 none ∈ BIG := big_t2 (i := 4) rfl rfl
set_option maxRecDepth 20000 in
theorem q_t2_7 : Cond.instanceMethod yX2_isInterrupted ∈ BIG := big_t2 (i := 7) rfl rfl
set_option maxRecDepth 20000 in
theorem q_t2_8 : Cond.code yX2_isInterrupted cX2_isInterrupted 1 (some .boolean) ∈ BIG := big_t2 (i := 8) rfl rfl
set_option maxRecDepth 20000 in
theorem q_t2_9 : Cond.constant RX4 117 (-2147483637) ∈ BIG := big_t2 (i := 9) rfl rfl
set_option maxRecDepth 20000 in
theorem q_t2_10 : Cond.methodLink RX4 118 yX4_trap ∈ BIG := big_t2 (i := 10) rfl rfl
set_option maxRecDepth 20000 in
theorem q_t2_12 : Cond.instanceMethod yX4_trap ∈ BIG := big_t2 (i := 12) rfl rfl
set_option maxRecDepth 20000 in
theorem q_t2_13 : Cond.code yX4_trap cX4_trap 3 (some .boolean) ∈ BIG := big_t2 (i := 13) rfl rfl
set_option maxRecDepth 20000 in
theorem q_t2_16 : Cond.instanceMethod yX2_enterTrap ∈ BIG := big_t2 (i := 16) rfl rfl
set_option maxRecDepth 20000 in
theorem q_t2_17 : Cond.code yX2_enterTrap cX2_enterTrap 4 none ∈ BIG := big_t2 (i := 17) rfl rfl
set_option maxRecDepth 20000 in
theorem q_t2_21 : Cond.instanceMethod yX3_readWord ∈ BIG := big_t2 (i := 21) rfl rfl
set_option maxRecDepth 20000 in
theorem q_t2_22 : Cond.code yX3_readWord cX3_readWord 3 (some .int) ∈ BIG := big_t2 (i := 22) rfl rfl
set_option maxRecDepth 20000 in
theorem q_t2_23 : Cond.methodLink RX4 125 yX4_execute ∈ BIG := big_t2 (i := 23) rfl rfl
set_option maxRecDepth 20000 in
theorem q_t2_25 : Cond.instanceMethod yX4_execute ∈ BIG := big_t2 (i := 25) rfl rfl
set_option maxRecDepth 20000 in
theorem q_t2_26 : Cond.code yX4_execute cX4_execute 2 (some .boolean) ∈ BIG := big_t2 (i := 26) rfl rfl
set_option maxRecDepth 20000 in
theorem q_t2_28 : Cond.static yX1_op ∈ BIG := big_t2 (i := 28) rfl rfl
set_option maxRecDepth 20000 in
theorem q_t2_29 : Cond.code yX1_op cX1_op 1 (some .int) ∈ BIG := big_t2 (i := 29) rfl rfl
set_option maxRecDepth 20000 in
theorem q_t2_31 : Cond.static yX1_numberU ∈ BIG := big_t2 (i := 31) rfl rfl
set_option maxRecDepth 20000 in
theorem q_t2_32 : Cond.code yX1_numberU cX1_numberU 1 (some .int) ∈ BIG := big_t2 (i := 32) rfl rfl
set_option maxRecDepth 20000 in
theorem q_t2_33 : Cond.methodLink RX4 136 yX4_goOnWith ∈ BIG := big_t2 (i := 33) rfl rfl
set_option maxRecDepth 20000 in
theorem q_t2_35 : Cond.instanceMethod yX4_goOnWith ∈ BIG := big_t2 (i := 35) rfl rfl
set_option maxRecDepth 20000 in
theorem q_t2_36 : Cond.code yX4_goOnWith cX4_goOnWith 3 (some .boolean) ∈ BIG := big_t2 (i := 36) rfl rfl
set_option maxRecDepth 20000 in
theorem q_t2_38 : Cond.static yX1_d ∈ BIG := big_t2 (i := 38) rfl rfl
set_option maxRecDepth 20000 in
theorem q_t2_39 : Cond.code yX1_d cX1_d 1 (some .int) ∈ BIG := big_t2 (i := 39) rfl rfl
set_option maxRecDepth 20000 in
theorem q_t2_40 : Cond.methodLink RX4 166 yX4_goOn ∈ BIG := big_t2 (i := 40) rfl rfl
set_option maxRecDepth 20000 in
theorem q_t2_42 : Cond.instanceMethod yX4_goOn ∈ BIG := big_t2 (i := 42) rfl rfl
set_option maxRecDepth 20000 in
theorem q_t2_43 : Cond.code yX4_goOn cX4_goOn 1 (some .boolean) ∈ BIG := big_t2 (i := 43) rfl rfl
set_option maxRecDepth 20000 in
theorem q_t2_45 : Cond.static yX1_numberJ ∈ BIG := big_t2 (i := 45) rfl rfl
set_option maxRecDepth 20000 in
theorem q_t2_46 : Cond.code yX1_numberJ cX1_numberJ 1 (some .int) ∈ BIG := big_t2 (i := 46) rfl rfl
set_option maxRecDepth 20000 in
theorem q_t2_47 : Cond.methodLink RX4 145 yX4_jump ∈ BIG := big_t2 (i := 47) rfl rfl
set_option maxRecDepth 20000 in
theorem q_t2_49 : Cond.instanceMethod yX4_jump ∈ BIG := big_t2 (i := 49) rfl rfl
set_option maxRecDepth 20000 in
theorem q_t2_50 : Cond.code yX4_jump cX4_jump 3 (some .boolean) ∈ BIG := big_t2 (i := 50) rfl rfl
set_option maxRecDepth 20000 in
theorem q_t2_51 : Cond.methodLink RX4 148 yX4_jumpByRegister ∈ BIG := big_t2 (i := 51) rfl rfl
set_option maxRecDepth 20000 in
theorem q_t2_53 : Cond.instanceMethod yX4_jumpByRegister ∈ BIG := big_t2 (i := 53) rfl rfl
set_option maxRecDepth 20000 in
theorem q_t2_54 : Cond.code yX4_jumpByRegister cX4_jumpByRegister 2 (some .boolean) ∈ BIG := big_t2 (i := 54) rfl rfl
set_option maxRecDepth 20000 in
theorem q_t2_56 : Cond.static yX1_f ∈ BIG := big_t2 (i := 56) rfl rfl
set_option maxRecDepth 20000 in
theorem q_t2_57 : Cond.code yX1_f cX1_f 1 (some .int) ∈ BIG := big_t2 (i := 57) rfl rfl
set_option maxRecDepth 20000 in
theorem q_t2_58 : Cond.methodLink RX4 178 yX4_unknown ∈ BIG := big_t2 (i := 58) rfl rfl
set_option maxRecDepth 20000 in
theorem q_t2_60 : Cond.instanceMethod yX4_unknown ∈ BIG := big_t2 (i := 60) rfl rfl
set_option maxRecDepth 20000 in
theorem q_t2_61 : Cond.code yX4_unknown cX4_unknown 2 (some .boolean) ∈ BIG := big_t2 (i := 61) rfl rfl
set_option maxRecDepth 20000 in
theorem q_t2_62 : Cond.methodLink RX4 194 yX4_valueA ∈ BIG := big_t2 (i := 62) rfl rfl
set_option maxRecDepth 20000 in
theorem q_t2_64 : Cond.instanceMethod yX4_valueA ∈ BIG := big_t2 (i := 64) rfl rfl
set_option maxRecDepth 20000 in
theorem q_t2_65 : Cond.code yX4_valueA cX4_valueA 2 (some .int) ∈ BIG := big_t2 (i := 65) rfl rfl
set_option maxRecDepth 20000 in
theorem q_t2_67 : Cond.static yX1_a ∈ BIG := big_t2 (i := 67) rfl rfl
set_option maxRecDepth 20000 in
theorem q_t2_68 : Cond.code yX1_a cX1_a 1 (some .int) ∈ BIG := big_t2 (i := 68) rfl rfl
set_option maxRecDepth 20000 in
theorem q_t2_69 : Cond.methodLink RX4 83 yX4_readRegister ∈ BIG := big_t2 (i := 69) rfl rfl
set_option maxRecDepth 20000 in
theorem q_t2_71 : Cond.instanceMethod yX4_readRegister ∈ BIG := big_t2 (i := 71) rfl rfl
set_option maxRecDepth 20000 in
theorem q_t2_72 : Cond.code yX4_readRegister cX4_readRegister 2 (some .int) ∈ BIG := big_t2 (i := 72) rfl rfl
set_option maxRecDepth 20000 in
theorem q_t2_74 : Cond.static yX1_numberI ∈ BIG := big_t2 (i := 74) rfl rfl
set_option maxRecDepth 20000 in
theorem q_t2_75 : Cond.code yX1_numberI cX1_numberI 1 (some .int) ∈ BIG := big_t2 (i := 75) rfl rfl
set_option maxRecDepth 20000 in
theorem q_t2_76 : Cond.methodLink RX4 151 yX4_branch ∈ BIG := big_t2 (i := 76) rfl rfl
set_option maxRecDepth 20000 in
theorem q_t2_78 : Cond.instanceMethod yX4_branch ∈ BIG := big_t2 (i := 78) rfl rfl
set_option maxRecDepth 20000 in
theorem q_t2_79 : Cond.code yX4_branch cX4_branch 3 (some .boolean) ∈ BIG := big_t2 (i := 79) rfl rfl
set_option maxRecDepth 20000 in
theorem q_t2_80 : Cond.methodLink RX4 200 yX4_valueB ∈ BIG := big_t2 (i := 80) rfl rfl
set_option maxRecDepth 20000 in
theorem q_t2_82 : Cond.instanceMethod yX4_valueB ∈ BIG := big_t2 (i := 82) rfl rfl
set_option maxRecDepth 20000 in
theorem q_t2_83 : Cond.code yX4_valueB cX4_valueB 2 (some .int) ∈ BIG := big_t2 (i := 83) rfl rfl
set_option maxRecDepth 20000 in
theorem q_t2_85 : Cond.static yX1_b ∈ BIG := big_t2 (i := 85) rfl rfl
set_option maxRecDepth 20000 in
theorem q_t2_86 : Cond.code yX1_b cX1_b 1 (some .int) ∈ BIG := big_t2 (i := 86) rfl rfl
set_option maxRecDepth 20000 in
theorem q_t2_88 : Cond.static yX0_holds ∈ BIG := big_t2 (i := 88) rfl rfl
set_option maxRecDepth 20000 in
theorem q_t2_89 : Cond.code yX0_holds cX0_holds 3 (some .boolean) ∈ BIG := big_t2 (i := 89) rfl rfl
set_option maxRecDepth 20000 in
theorem q_t2_90 : Cond.methodLink RX0 11 yX0_isBelow ∈ BIG := big_t2 (i := 90) rfl rfl
set_option maxRecDepth 20000 in
theorem q_t2_91 : Cond.static yX0_isBelow ∈ BIG := big_t2 (i := 91) rfl rfl
set_option maxRecDepth 20000 in
theorem q_t2_92 : Cond.code yX0_isBelow cX0_isBelow 2 (some .boolean) ∈ BIG := big_t2 (i := 92) rfl rfl
set_option maxRecDepth 20000 in
theorem q_t2_93 : Cond.constantLong RX0 9 4294967295 ∈ BIG := big_t2 (i := 93) rfl rfl
set_option maxRecDepth 20000 in
theorem q_t2_95 : Cond.static yX1_numberB ∈ BIG := big_t2 (i := 95) rfl rfl
set_option maxRecDepth 20000 in
theorem q_t2_96 : Cond.code yX1_numberB cX1_numberB 1 (some .int) ∈ BIG := big_t2 (i := 96) rfl rfl
set_option maxRecDepth 20000 in
theorem q_t2_97 : Cond.methodLink RX4 154 yX4_load ∈ BIG := big_t2 (i := 97) rfl rfl
set_option maxRecDepth 20000 in
theorem q_t2_99 : Cond.instanceMethod yX4_load ∈ BIG := big_t2 (i := 99) rfl rfl
set_option maxRecDepth 20000 in
theorem q_t2_100 : Cond.code yX4_load cX4_load 4 (some .boolean) ∈ BIG := big_t2 (i := 100) rfl rfl
set_option maxRecDepth 20000 in
theorem q_t2_102 : Cond.static yX3_isBy ∈ BIG := big_t2 (i := 102) rfl rfl
set_option maxRecDepth 20000 in
theorem q_t2_103 : Cond.code yX3_isBy cX3_isBy 2 (some .boolean) ∈ BIG := big_t2 (i := 103) rfl rfl
set_option maxRecDepth 20000 in
theorem q_t2_106 : Cond.instanceMethod yX3_readPart ∈ BIG := big_t2 (i := 106) rfl rfl
set_option maxRecDepth 20000 in
theorem q_t2_107 : Cond.code yX3_readPart cX3_readPart 4 (some .int) ∈ BIG := big_t2 (i := 107) rfl rfl
set_option maxRecDepth 20000 in
theorem q_t2_108 : Cond.methodLink RX3 17 yX3_readWord ∈ BIG := big_t2 (i := 108) rfl rfl
set_option maxRecDepth 20000 in
theorem q_t2_109 : Cond.methodLink RX3 21 yX3_shift ∈ BIG := big_t2 (i := 109) rfl rfl
set_option maxRecDepth 20000 in
theorem q_t2_110 : Cond.static yX3_shift ∈ BIG := big_t2 (i := 110) rfl rfl
set_option maxRecDepth 20000 in
theorem q_t2_111 : Cond.code yX3_shift cX3_shift 1 (some .int) ∈ BIG := big_t2 (i := 111) rfl rfl
set_option maxRecDepth 20000 in
theorem q_t2_112 : Cond.constant RX3 24 65535 ∈ BIG := big_t2 (i := 112) rfl rfl
set_option maxRecDepth 20000 in
theorem q_t2_113 : Cond.methodLink RX4 157 yX4_store ∈ BIG := big_t2 (i := 113) rfl rfl
set_option maxRecDepth 20000 in
theorem q_t2_115 : Cond.instanceMethod yX4_store ∈ BIG := big_t2 (i := 115) rfl rfl
set_option maxRecDepth 20000 in
theorem q_t2_116 : Cond.code yX4_store cX4_store 4 (some .boolean) ∈ BIG := big_t2 (i := 116) rfl rfl
set_option maxRecDepth 20000 in
theorem q_t2_118 : Cond.static yX1_numberS ∈ BIG := big_t2 (i := 118) rfl rfl
set_option maxRecDepth 20000 in
theorem q_t2_119 : Cond.code yX1_numberS cX1_numberS 1 (some .int) ∈ BIG := big_t2 (i := 119) rfl rfl
set_option maxRecDepth 20000 in
theorem q_t2_120 : Cond.methodLink RX1 7 yX1_d ∈ BIG := big_t2 (i := 120) rfl rfl
set_option maxRecDepth 20000 in
theorem q_t2_123 : Cond.instanceMethod yX3_writePart ∈ BIG := big_t2 (i := 123) rfl rfl
set_option maxRecDepth 20000 in
theorem q_t2_124 : Cond.code yX3_writePart cX3_writePart 6 none ∈ BIG := big_t2 (i := 124) rfl rfl
set_option maxRecDepth 20000 in
theorem q_t2_125 : Cond.methodLink RX3 25 yX3_partMask ∈ BIG := big_t2 (i := 125) rfl rfl
set_option maxRecDepth 20000 in
theorem q_t2_126 : Cond.static yX3_partMask ∈ BIG := big_t2 (i := 126) rfl rfl
set_option maxRecDepth 20000 in
theorem q_t2_127 : Cond.code yX3_partMask cX3_partMask 1 (some .int) ∈ BIG := big_t2 (i := 127) rfl rfl
set_option maxRecDepth 20000 in
theorem q_t2_128 : Cond.methodLink RX3 28 yX3_writeWord ∈ BIG := big_t2 (i := 128) rfl rfl
set_option maxRecDepth 20000 in
theorem q_t2_129 : Cond.methodLink RX4 160 yX4_computeWithNumber ∈ BIG := big_t2 (i := 129) rfl rfl
set_option maxRecDepth 20000 in
theorem q_t2_131 : Cond.instanceMethod yX4_computeWithNumber ∈ BIG := big_t2 (i := 131) rfl rfl
set_option maxRecDepth 20000 in
theorem q_t2_132 : Cond.code yX4_computeWithNumber cX4_computeWithNumber 4 (some .boolean) ∈ BIG := big_t2 (i := 132) rfl rfl
set_option maxRecDepth 20000 in
theorem q_t2_134 : Cond.static yX1_s ∈ BIG := big_t2 (i := 134) rfl rfl
set_option maxRecDepth 20000 in
theorem q_t2_135 : Cond.code yX1_s cX1_s 1 (some .int) ∈ BIG := big_t2 (i := 135) rfl rfl
set_option maxRecDepth 20000 in
theorem q_t2_137 : Cond.static yX0_basic ∈ BIG := big_t2 (i := 137) rfl rfl
set_option maxRecDepth 20000 in
theorem q_t2_138 : Cond.code yX0_basic cX0_basic 3 (some .int) ∈ BIG := big_t2 (i := 138) rfl rfl
set_option maxRecDepth 20000 in
theorem q_t2_139 : Cond.methodLink RX4 163 yX4_computeWithRegister ∈ BIG := big_t2 (i := 139) rfl rfl
set_option maxRecDepth 20000 in
theorem q_t2_141 : Cond.instanceMethod yX4_computeWithRegister ∈ BIG := big_t2 (i := 141) rfl rfl
set_option maxRecDepth 20000 in
theorem q_t2_142 : Cond.code yX4_computeWithRegister cX4_computeWithRegister 4 (some .boolean) ∈ BIG := big_t2 (i := 142) rfl rfl
set_option maxRecDepth 20000 in
theorem q_t2_144 : Cond.static yX0_productOrQuotient ∈ BIG := big_t2 (i := 144) rfl rfl
set_option maxRecDepth 20000 in
theorem q_t2_145 : Cond.code yX0_productOrQuotient cX0_productOrQuotient 3 (some .int) ∈ BIG := big_t2 (i := 145) rfl rfl
set_option maxRecDepth 20000 in
theorem q_t2_146 : Cond.methodLink RX0 15 yX0_quotient ∈ BIG := big_t2 (i := 146) rfl rfl
set_option maxRecDepth 20000 in
theorem q_t2_147 : Cond.static yX0_quotient ∈ BIG := big_t2 (i := 147) rfl rfl
set_option maxRecDepth 20000 in
theorem q_t2_148 : Cond.code yX0_quotient cX0_quotient 4 (some .int) ∈ BIG := big_t2 (i := 148) rfl rfl
set_option maxRecDepth 20000 in
theorem q_t2_149 : Cond.methodLink RX0 19 yX0_rest ∈ BIG := big_t2 (i := 149) rfl rfl
set_option maxRecDepth 20000 in
theorem q_t2_150 : Cond.static yX0_rest ∈ BIG := big_t2 (i := 150) rfl rfl
set_option maxRecDepth 20000 in
theorem q_t2_151 : Cond.code yX0_rest cX0_rest 4 (some .int) ∈ BIG := big_t2 (i := 151) rfl rfl
set_option maxRecDepth 20000 in
theorem q_t2_152 : Cond.methodLink RX4 172 yX4_callSystem ∈ BIG := big_t2 (i := 152) rfl rfl
set_option maxRecDepth 20000 in
theorem q_t2_154 : Cond.instanceMethod yX4_callSystem ∈ BIG := big_t2 (i := 154) rfl rfl
set_option maxRecDepth 20000 in
theorem q_t2_155 : Cond.code yX4_callSystem cX4_callSystem 2 (some .boolean) ∈ BIG := big_t2 (i := 155) rfl rfl
set_option maxRecDepth 20000 in
theorem q_t2_158 : Cond.instanceMethod yX2_leaveTrap ∈ BIG := big_t2 (i := 158) rfl rfl
set_option maxRecDepth 20000 in
theorem q_t2_159 : Cond.code yX2_leaveTrap cX2_leaveTrap 1 (some .int) ∈ BIG := big_t2 (i := 159) rfl rfl
set_option maxRecDepth 20000 in
theorem q_t2_160 : Cond.methodLink RX4 175 yX4_exchangeControl ∈ BIG := big_t2 (i := 160) rfl rfl
set_option maxRecDepth 20000 in
theorem q_t2_162 : Cond.instanceMethod yX4_exchangeControl ∈ BIG := big_t2 (i := 162) rfl rfl
set_option maxRecDepth 20000 in
theorem q_t2_163 : Cond.code yX4_exchangeControl cX4_exchangeControl 8 (some .boolean) ∈ BIG := big_t2 (i := 163) rfl rfl
set_option maxRecDepth 20000 in
theorem q_t2_165 : Cond.static yX1_controlNumber ∈ BIG := big_t2 (i := 165) rfl rfl
set_option maxRecDepth 20000 in
theorem q_t2_166 : Cond.code yX1_controlNumber cX1_controlNumber 1 (some .int) ∈ BIG := big_t2 (i := 166) rfl rfl
set_option maxRecDepth 20000 in
theorem q_t2_168 : Cond.static yX2_isWritable ∈ BIG := big_t2 (i := 168) rfl rfl
set_option maxRecDepth 20000 in
theorem q_t2_169 : Cond.code yX2_isWritable cX2_isWritable 1 (some .boolean) ∈ BIG := big_t2 (i := 169) rfl rfl
set_option maxRecDepth 20000 in
theorem q_t2_171 : Cond.static yX2_isKnown ∈ BIG := big_t2 (i := 171) rfl rfl
set_option maxRecDepth 20000 in
theorem q_t2_172 : Cond.code yX2_isKnown cX2_isKnown 1 (some .boolean) ∈ BIG := big_t2 (i := 172) rfl rfl
set_option maxRecDepth 20000 in
theorem q_t2_173 : Cond.methodLink RX2 7 yX2_isWritable ∈ BIG := big_t2 (i := 173) rfl rfl
set_option maxRecDepth 20000 in
theorem q_t2_176 : Cond.instanceMethod yX2_read ∈ BIG := big_t2 (i := 176) rfl rfl
set_option maxRecDepth 20000 in
theorem q_t2_177 : Cond.code yX2_read cX2_read 2 (some .int) ∈ BIG := big_t2 (i := 177) rfl rfl
set_option maxRecDepth 20000 in
theorem q_t2_179 : Cond.static yX0_exchanged ∈ BIG := big_t2 (i := 179) rfl rfl
set_option maxRecDepth 20000 in
theorem q_t2_180 : Cond.code yX0_exchanged cX0_exchanged 3 (some .int) ∈ BIG := big_t2 (i := 180) rfl rfl
set_option maxRecDepth 20000 in
theorem q_t2_183 : Cond.instanceMethod yX2_write ∈ BIG := big_t2 (i := 183) rfl rfl
set_option maxRecDepth 20000 in
theorem q_t2_184 : Cond.code yX2_write cX2_write 3 none ∈ BIG := big_t2 (i := 184) rfl rfl
set_option maxRecDepth 20000 in
theorem q_t2_185 : Cond.methodLink RL 60 yL_register ∈ BIG := big_t2 (i := 185) rfl rfl
set_option maxRecDepth 20000 in
theorem q_t2_186 : Cond.static yL_register ∈ BIG := big_t2 (i := 186) rfl rfl
set_option maxRecDepth 20000 in
theorem q_t2_188 : Cond.classLink RL 20 "java/util/NoSuchElementException" ∈ BIG := big_t2 (i := 188) rfl rfl
set_option maxRecDepth 20000 in
theorem q_t2_189 : Cond.methodLink RL 17 yX4_register ∈ BIG := big_t2 (i := 189) rfl rfl
set_option maxRecDepth 20000 in
theorem q_t2_190 : Cond.instanceMethod yX4_register ∈ BIG := big_t2 (i := 190) rfl rfl
set_option maxRecDepth 20000 in
theorem q_t2_191 : Cond.selects RX4 yX4_register yX4_register ∈ BIG := big_t2 (i := 191) rfl rfl
set_option maxRecDepth 20000 in
theorem q_t2_192 : Cond.code yX4_register cX4_register 2 (some .int) ∈ BIG := big_t2 (i := 192) rfl rfl
set_option maxRecDepth 20000 in
theorem q_t2_193 : Cond.classLink RX4 78 "java/util/NoSuchElementException" ∈ BIG := big_t2 (i := 193) rfl rfl
set_option maxRecDepth 20000 in
theorem q_t2_194 : Cond.instantiable "java/util/NoSuchElementException" 6 ∈ BIG := big_t2 (i := 194) rfl rfl
set_option maxRecDepth 20000 in
theorem q_t2_196 : Cond.selects "java/util/NoSuchElementException" ⟨"java/lang/Throwable", "fillInStackTrace", "(I)Ljava/lang/Throwable;"⟩ ⟨"java/lang/Throwable", "fillInStackTrace", "(I)Ljava/lang/Throwable;"⟩ ∈ BIG := big_t2 (i := 196) rfl rfl
set_option maxRecDepth 20000 in
theorem q_t2_197 : Cond.lays "java/util/NoSuchElementException" "java/lang/Throwable" "cause" "Ljava/lang/Throwable;" ∈ BIG := big_t2 (i := 197) rfl rfl
set_option maxRecDepth 20000 in
theorem q_t2_198 : Cond.lays "java/util/NoSuchElementException" "java/lang/Throwable" "stackTrace" "[Ljava/lang/StackTraceElement;" ∈ BIG := big_t2 (i := 198) rfl rfl
set_option maxRecDepth 20000 in
theorem q_t2_199 : Cond.lays "java/util/NoSuchElementException" "java/lang/Throwable" "suppressedExceptions" "Ljava/util/List;" ∈ BIG := big_t2 (i := 199) rfl rfl
set_option maxRecDepth 20000 in
theorem q_t2_200 : Cond.lays "java/util/NoSuchElementException" "java/lang/Throwable" "detailMessage" "Ljava/lang/String;" ∈ BIG := big_t2 (i := 200) rfl rfl
set_option maxRecDepth 20000 in
theorem q_t2_201 : Cond.lays "java/util/NoSuchElementException" "java/lang/Throwable" "backtrace" "Ljava/lang/Object;" ∈ BIG := big_t2 (i := 201) rfl rfl
set_option maxRecDepth 20000 in
theorem q_t2_203 : Cond.methodLink RX4 82 ⟨"java/util/NoSuchElementException", "<init>", "(Ljava/lang/String;)V"⟩ ∈ BIG := big_t2 (i := 203) rfl rfl
set_option maxRecDepth 20000 in
theorem q_t2_204 : Cond.instanceMethod ⟨"java/util/NoSuchElementException", "<init>", "(Ljava/lang/String;)V"⟩ ∈ BIG := big_t2 (i := 204) rfl rfl
set_option maxRecDepth 20000 in
theorem q_t2_206 : Cond.methodLink "java/util/NoSuchElementException" 13 ⟨"java/lang/RuntimeException", "<init>", "(Ljava/lang/String;)V"⟩ ∈ BIG := big_t2 (i := 206) rfl rfl
set_option maxRecDepth 20000 in
theorem q_t2_207 : Cond.lays "java/util/NoSuchElementException" "java/lang/Throwable" "depth" "I" ∈ BIG := big_t2 (i := 207) rfl rfl
set_option maxRecDepth 20000 in
theorem q_t2_209 : Cond.methodLink RL 63 yL_control ∈ BIG := big_t2 (i := 209) rfl rfl
set_option maxRecDepth 20000 in
theorem q_t2_210 : Cond.static yL_control ∈ BIG := big_t2 (i := 210) rfl rfl
set_option maxRecDepth 20000 in
theorem q_t2_212 : Cond.methodLink RL 22 yX4_control ∈ BIG := big_t2 (i := 212) rfl rfl
set_option maxRecDepth 20000 in
theorem q_t2_213 : Cond.instanceMethod yX4_control ∈ BIG := big_t2 (i := 213) rfl rfl
set_option maxRecDepth 20000 in
theorem q_t2_214 : Cond.selects RX4 yX4_control yX4_control ∈ BIG := big_t2 (i := 214) rfl rfl
set_option maxRecDepth 20000 in
theorem q_t2_215 : Cond.code yX4_control cX4_control 2 (some .int) ∈ BIG := big_t2 (i := 215) rfl rfl
set_option maxRecDepth 20000 in
theorem q_t2_217 : Cond.methodLink RL 66 yL_word ∈ BIG := big_t2 (i := 217) rfl rfl
set_option maxRecDepth 20000 in
theorem q_t2_218 : Cond.static yL_word ∈ BIG := big_t2 (i := 218) rfl rfl
set_option maxRecDepth 20000 in
theorem q_t2_220 : Cond.methodLink RL 25 yX4_word ∈ BIG := big_t2 (i := 220) rfl rfl
set_option maxRecDepth 20000 in
theorem q_t2_221 : Cond.instanceMethod yX4_word ∈ BIG := big_t2 (i := 221) rfl rfl
set_option maxRecDepth 20000 in
theorem q_t2_222 : Cond.selects RX4 yX4_word yX4_word ∈ BIG := big_t2 (i := 222) rfl rfl
set_option maxRecDepth 20000 in
theorem q_t2_223 : Cond.code yX4_word cX4_word 2 (some .int) ∈ BIG := big_t2 (i := 223) rfl rfl
set_option maxRecDepth 20000 in
theorem q_t2_225 : Cond.classLink RL 29 RX5 ∈ BIG := big_t2 (i := 225) rfl rfl
set_option maxRecDepth 20000 in
theorem q_t2_226 : Cond.instantiable RX5 15 ∈ BIG := big_t2 (i := 226) rfl rfl
set_option maxRecDepth 20000 in
theorem q_t2_227 : Cond.methodLink RL 31 yX5_init ∈ BIG := big_t2 (i := 227) rfl rfl
set_option maxRecDepth 20000 in
theorem q_t2_228 : Cond.instanceMethod yX5_init ∈ BIG := big_t2 (i := 228) rfl rfl
set_option maxRecDepth 20000 in
theorem q_t2_229 : Cond.code yX5_init cX5_init 1 none ∈ BIG := big_t2 (i := 229) rfl rfl
set_option maxRecDepth 20000 in
theorem q_t2_230 : Cond.methodLink RX5 1 objectInit ∈ BIG := big_t2 (i := 230) rfl rfl
set_option maxRecDepth 20000 in
theorem q_t2_231 : Cond.fieldLink RX5 19 "HartDeskModel" "thrown" "I" ∈ BIG := big_t2 (i := 231) rfl rfl
set_option maxRecDepth 20000 in
theorem q_t2_232 : Cond.fieldLink RX5 7 "HartDeskModel" "memory" "[I" ∈ BIG := big_t2 (i := 232) rfl rfl
set_option maxRecDepth 20000 in
theorem q_t2_233 : Cond.fieldLink RX5 13 "HartDeskModel" "registers" "[I" ∈ BIG := big_t2 (i := 233) rfl rfl
set_option maxRecDepth 20000 in
theorem q_t2_234 : Cond.fieldLink RX5 27 "HartDeskModel" "pc" "I" ∈ BIG := big_t2 (i := 234) rfl rfl
set_option maxRecDepth 20000 in
theorem q_t2_235 : Cond.fieldLink RX5 16 "HartDeskModel" "controls" "[I" ∈ BIG := big_t2 (i := 235) rfl rfl
set_option maxRecDepth 20000 in
theorem q_t2_236 : Cond.fieldLink RX5 34 "HartDeskModel" "line" "Z" ∈ BIG := big_t2 (i := 236) rfl rfl
set_option maxRecDepth 20000 in
theorem q_t2_237 : Cond.fieldLink RX5 30 "HartDeskModel" "stopped" "Z" ∈ BIG := big_t2 (i := 237) rfl rfl
set_option maxRecDepth 20000 in
theorem q_t2_238 : Cond.fieldLink RX5 155 "HartDeskModel" "steps" "I" ∈ BIG := big_t2 (i := 238) rfl rfl
set_option maxRecDepth 20000 in
theorem q_t2_239 : Cond.fieldLink RX5 106 "HartDeskModel" "done" "I" ∈ BIG := big_t2 (i := 239) rfl rfl
set_option maxRecDepth 20000 in
theorem q_t3_0 : Cond.fieldLink RX5 158 "HartDeskModel" "traps" "I" ∈ BIG := big_t3 (i := 0) rfl rfl
set_option maxRecDepth 20000 in
theorem q_t3_1 : Cond.fieldLink RX5 37 "HartDeskModel" "word" "I" ∈ BIG := big_t3 (i := 1) rfl rfl
set_option maxRecDepth 20000 in
theorem q_t3_2 : Cond.fieldLink RX5 45 "HartDeskModel" "trapped" "Z" ∈ BIG := big_t3 (i := 2) rfl rfl
set_option maxRecDepth 20000 in
theorem q_t3_3 : Cond.fieldLink RX5 48 "HartDeskModel" "cause" "I" ∈ BIG := big_t3 (i := 3) rfl rfl
set_option maxRecDepth 20000 in
theorem q_t3_4 : Cond.fieldLink RX5 51 "HartDeskModel" "why" "I" ∈ BIG := big_t3 (i := 4) rfl rfl
set_option maxRecDepth 20000 in
theorem q_t3_5 : Cond.fieldLink RX5 58 "HartDeskModel" "next" "I" ∈ BIG := big_t3 (i := 5) rfl rfl
set_option maxRecDepth 20000 in
theorem q_t3_6 : Cond.lays RX5 "HartDeskModel" "thrown" "I" ∈ BIG := big_t3 (i := 6) rfl rfl
set_option maxRecDepth 20000 in
theorem q_t3_8 : Cond.laysFinal RX5 "HartDeskModel" "memory" "[I" ∈ BIG := big_t3 (i := 8) rfl rfl
set_option maxRecDepth 20000 in
theorem q_t3_10 : Cond.laysFinal RX5 "HartDeskModel" "registers" "[I" ∈ BIG := big_t3 (i := 10) rfl rfl
set_option maxRecDepth 20000 in
theorem q_t3_12 : Cond.lays RX5 "HartDeskModel" "pc" "I" ∈ BIG := big_t3 (i := 12) rfl rfl
set_option maxRecDepth 20000 in
theorem q_t3_14 : Cond.laysFinal RX5 "HartDeskModel" "controls" "[I" ∈ BIG := big_t3 (i := 14) rfl rfl
set_option maxRecDepth 20000 in
theorem q_t3_16 : Cond.lays RX5 "HartDeskModel" "line" "Z" ∈ BIG := big_t3 (i := 16) rfl rfl
set_option maxRecDepth 20000 in
theorem q_t3_18 : Cond.lays RX5 "HartDeskModel" "stopped" "Z" ∈ BIG := big_t3 (i := 18) rfl rfl
set_option maxRecDepth 20000 in
theorem q_t3_20 : Cond.lays RX5 "HartDeskModel" "steps" "I" ∈ BIG := big_t3 (i := 20) rfl rfl
set_option maxRecDepth 20000 in
theorem q_t3_22 : Cond.lays RX5 "HartDeskModel" "done" "I" ∈ BIG := big_t3 (i := 22) rfl rfl
set_option maxRecDepth 20000 in
theorem q_t3_24 : Cond.lays RX5 "HartDeskModel" "traps" "I" ∈ BIG := big_t3 (i := 24) rfl rfl
set_option maxRecDepth 20000 in
theorem q_t3_26 : Cond.lays RX5 "HartDeskModel" "word" "I" ∈ BIG := big_t3 (i := 26) rfl rfl
set_option maxRecDepth 20000 in
theorem q_t3_28 : Cond.lays RX5 "HartDeskModel" "trapped" "Z" ∈ BIG := big_t3 (i := 28) rfl rfl
set_option maxRecDepth 20000 in
theorem q_t3_30 : Cond.lays RX5 "HartDeskModel" "cause" "I" ∈ BIG := big_t3 (i := 30) rfl rfl
set_option maxRecDepth 20000 in
theorem q_t3_32 : Cond.lays RX5 "HartDeskModel" "why" "I" ∈ BIG := big_t3 (i := 32) rfl rfl
set_option maxRecDepth 20000 in
theorem q_t3_34 : Cond.lays RX5 "HartDeskModel" "next" "I" ∈ BIG := big_t3 (i := 34) rfl rfl
set_option maxRecDepth 20000 in
theorem q_t3_37 : Cond.methodLink RL 52 yX5_thrown ∈ BIG := big_t3 (i := 37) rfl rfl
set_option maxRecDepth 20000 in
theorem q_t3_38 : Cond.instanceMethod yX5_thrown ∈ BIG := big_t3 (i := 38) rfl rfl
set_option maxRecDepth 20000 in
theorem q_t3_39 : Cond.selects RX5 yX5_thrown yX5_thrown ∈ BIG := big_t3 (i := 39) rfl rfl
set_option maxRecDepth 20000 in
theorem q_t3_40 : Cond.code yX5_thrown cX5_thrown 1 (some .int) ∈ BIG := big_t3 (i := 40) rfl rfl
set_option maxRecDepth 20000 in
theorem q_t3_41 : Cond.methodLink RL 36 yX5_set ∈ BIG := big_t3 (i := 41) rfl rfl
set_option maxRecDepth 20000 in
theorem q_t3_42 : Cond.instanceMethod yX5_set ∈ BIG := big_t3 (i := 42) rfl rfl
set_option maxRecDepth 20000 in
theorem q_t3_43 : Cond.selects RX5 yX5_set yX5_set ∈ BIG := big_t3 (i := 43) rfl rfl
set_option maxRecDepth 20000 in
theorem q_t3_44 : Cond.code yX5_set cX5_set 3 (some .boolean) ∈ BIG := big_t3 (i := 44) rfl rfl
set_option maxRecDepth 20000 in
theorem q_t3_45 : Cond.methodLink RX5 23 yX5_isAddress ∈ BIG := big_t3 (i := 45) rfl rfl
set_option maxRecDepth 20000 in
theorem q_t3_46 : Cond.static yX5_isAddress ∈ BIG := big_t3 (i := 46) rfl rfl
set_option maxRecDepth 20000 in
theorem q_t3_47 : Cond.code yX5_isAddress cX5_isAddress 1 (some .boolean) ∈ BIG := big_t3 (i := 47) rfl rfl
set_option maxRecDepth 20000 in
theorem q_t3_48 : Cond.methodLink RL 40 yX5_put ∈ BIG := big_t3 (i := 48) rfl rfl
set_option maxRecDepth 20000 in
theorem q_t3_49 : Cond.instanceMethod yX5_put ∈ BIG := big_t3 (i := 49) rfl rfl
set_option maxRecDepth 20000 in
theorem q_t3_50 : Cond.selects RX5 yX5_put yX5_put ∈ BIG := big_t3 (i := 50) rfl rfl
set_option maxRecDepth 20000 in
theorem q_t3_51 : Cond.code yX5_put cX5_put 3 (some .boolean) ∈ BIG := big_t3 (i := 51) rfl rfl
set_option maxRecDepth 20000 in
theorem q_t3_52 : Cond.methodLink RL 45 yX5_line ∈ BIG := big_t3 (i := 52) rfl rfl
set_option maxRecDepth 20000 in
theorem q_t3_53 : Cond.instanceMethod yX5_line ∈ BIG := big_t3 (i := 53) rfl rfl
set_option maxRecDepth 20000 in
theorem q_t3_54 : Cond.selects RX5 yX5_line yX5_line ∈ BIG := big_t3 (i := 54) rfl rfl
set_option maxRecDepth 20000 in
theorem q_t3_55 : Cond.code yX5_line cX5_line 2 none ∈ BIG := big_t3 (i := 55) rfl rfl
set_option maxRecDepth 20000 in
theorem q_t3_56 : Cond.methodLink RL 51 yX5_run ∈ BIG := big_t3 (i := 56) rfl rfl
set_option maxRecDepth 20000 in
theorem q_t3_57 : Cond.instanceMethod yX5_run ∈ BIG := big_t3 (i := 57) rfl rfl
set_option maxRecDepth 20000 in
theorem q_t3_58 : Cond.selects RX5 yX5_run yX5_run ∈ BIG := big_t3 (i := 58) rfl rfl
set_option maxRecDepth 20000 in
theorem q_t3_59 : Cond.code yX5_run cX5_run 3 (some .int) ∈ BIG := big_t3 (i := 59) rfl rfl
set_option maxRecDepth 20000 in
theorem q_t3_60 : Cond.methodLink RX5 161 yX5_raise ∈ BIG := big_t3 (i := 60) rfl rfl
set_option maxRecDepth 20000 in
theorem q_t3_62 : Cond.instanceMethod yX5_raise ∈ BIG := big_t3 (i := 62) rfl rfl
set_option maxRecDepth 20000 in
theorem q_t3_63 : Cond.code yX5_raise cX5_raise 2 (some .int) ∈ BIG := big_t3 (i := 63) rfl rfl
set_option maxRecDepth 20000 in
theorem q_t3_64 : Cond.constant RX5 164 100000 ∈ BIG := big_t3 (i := 64) rfl rfl
set_option maxRecDepth 20000 in
theorem q_t3_65 : Cond.methodLink RX5 165 yX5_step ∈ BIG := big_t3 (i := 65) rfl rfl
set_option maxRecDepth 20000 in
theorem q_t3_67 : Cond.instanceMethod yX5_step ∈ BIG := big_t3 (i := 67) rfl rfl
set_option maxRecDepth 20000 in
theorem q_t3_68 : Cond.code yX5_step cX5_step 2 none ∈ BIG := big_t3 (i := 68) rfl rfl
set_option maxRecDepth 20000 in
theorem q_t3_69 : Cond.constant RX5 151 (-2147483637) ∈ BIG := big_t3 (i := 69) rfl rfl
set_option maxRecDepth 20000 in
theorem q_t3_70 : Cond.methodLink RX5 54 yX5_trap ∈ BIG := big_t3 (i := 70) rfl rfl
set_option maxRecDepth 20000 in
theorem q_t3_72 : Cond.instanceMethod yX5_trap ∈ BIG := big_t3 (i := 72) rfl rfl
set_option maxRecDepth 20000 in
theorem q_t3_73 : Cond.code yX5_trap cX5_trap 3 none ∈ BIG := big_t3 (i := 73) rfl rfl
set_option maxRecDepth 20000 in
theorem q_t3_74 : Cond.methodLink RX5 152 yX5_instruct ∈ BIG := big_t3 (i := 74) rfl rfl
set_option maxRecDepth 20000 in
theorem q_t3_76 : Cond.instanceMethod yX5_instruct ∈ BIG := big_t3 (i := 76) rfl rfl
set_option maxRecDepth 20000 in
theorem q_t3_77 : Cond.code yX5_instruct cX5_instruct 1 none ∈ BIG := big_t3 (i := 77) rfl rfl
set_option maxRecDepth 20000 in
theorem q_t3_78 : Cond.methodLink RX5 40 yX5_bits ∈ BIG := big_t3 (i := 78) rfl rfl
set_option maxRecDepth 20000 in
theorem q_t3_80 : Cond.instanceMethod yX5_bits ∈ BIG := big_t3 (i := 80) rfl rfl
set_option maxRecDepth 20000 in
theorem q_t3_81 : Cond.code yX5_bits cX5_bits 3 (some .int) ∈ BIG := big_t3 (i := 81) rfl rfl
set_option maxRecDepth 20000 in
theorem q_t3_82 : Cond.methodLink RX5 124 yX5_numberU ∈ BIG := big_t3 (i := 82) rfl rfl
set_option maxRecDepth 20000 in
theorem q_t3_84 : Cond.instanceMethod yX5_numberU ∈ BIG := big_t3 (i := 84) rfl rfl
set_option maxRecDepth 20000 in
theorem q_t3_85 : Cond.code yX5_numberU cX5_numberU 1 (some .int) ∈ BIG := big_t3 (i := 85) rfl rfl
set_option maxRecDepth 20000 in
theorem q_t3_86 : Cond.methodLink RX5 64 yX5_lay ∈ BIG := big_t3 (i := 86) rfl rfl
set_option maxRecDepth 20000 in
theorem q_t3_88 : Cond.instanceMethod yX5_lay ∈ BIG := big_t3 (i := 88) rfl rfl
set_option maxRecDepth 20000 in
theorem q_t3_89 : Cond.code yX5_lay cX5_lay 3 none ∈ BIG := big_t3 (i := 89) rfl rfl
set_option maxRecDepth 20000 in
theorem q_t3_90 : Cond.methodLink RX5 127 yX5_numberJ ∈ BIG := big_t3 (i := 90) rfl rfl
set_option maxRecDepth 20000 in
theorem q_t3_92 : Cond.instanceMethod yX5_numberJ ∈ BIG := big_t3 (i := 92) rfl rfl
set_option maxRecDepth 20000 in
theorem q_t3_93 : Cond.code yX5_numberJ cX5_numberJ 1 (some .int) ∈ BIG := big_t3 (i := 93) rfl rfl
set_option maxRecDepth 20000 in
theorem q_t3_94 : Cond.methodLink RX5 130 yX5_jump ∈ BIG := big_t3 (i := 94) rfl rfl
set_option maxRecDepth 20000 in
theorem q_t3_96 : Cond.instanceMethod yX5_jump ∈ BIG := big_t3 (i := 96) rfl rfl
set_option maxRecDepth 20000 in
theorem q_t3_97 : Cond.code yX5_jump cX5_jump 3 none ∈ BIG := big_t3 (i := 97) rfl rfl
set_option maxRecDepth 20000 in
theorem q_t3_98 : Cond.methodLink RX5 61 yX5_goes ∈ BIG := big_t3 (i := 98) rfl rfl
set_option maxRecDepth 20000 in
theorem q_t3_100 : Cond.instanceMethod yX5_goes ∈ BIG := big_t3 (i := 100) rfl rfl
set_option maxRecDepth 20000 in
theorem q_t3_101 : Cond.code yX5_goes cX5_goes 2 (some .boolean) ∈ BIG := big_t3 (i := 101) rfl rfl
set_option maxRecDepth 20000 in
theorem q_t3_102 : Cond.methodLink RX5 79 yX5_none ∈ BIG := big_t3 (i := 102) rfl rfl
set_option maxRecDepth 20000 in
theorem q_t3_104 : Cond.instanceMethod yX5_none ∈ BIG := big_t3 (i := 104) rfl rfl
set_option maxRecDepth 20000 in
theorem q_t3_105 : Cond.code yX5_none cX5_none 1 none ∈ BIG := big_t3 (i := 105) rfl rfl
set_option maxRecDepth 20000 in
theorem q_t3_106 : Cond.methodLink RX5 68 yX5_a ∈ BIG := big_t3 (i := 106) rfl rfl
set_option maxRecDepth 20000 in
theorem q_t3_108 : Cond.instanceMethod yX5_a ∈ BIG := big_t3 (i := 108) rfl rfl
set_option maxRecDepth 20000 in
theorem q_t3_109 : Cond.code yX5_a cX5_a 1 (some .int) ∈ BIG := big_t3 (i := 109) rfl rfl
set_option maxRecDepth 20000 in
theorem q_t3_110 : Cond.methodLink RX5 85 yX5_numberI ∈ BIG := big_t3 (i := 110) rfl rfl
set_option maxRecDepth 20000 in
theorem q_t3_112 : Cond.instanceMethod yX5_numberI ∈ BIG := big_t3 (i := 112) rfl rfl
set_option maxRecDepth 20000 in
theorem q_t3_113 : Cond.code yX5_numberI cX5_numberI 1 (some .int) ∈ BIG := big_t3 (i := 113) rfl rfl
set_option maxRecDepth 20000 in
theorem q_t3_114 : Cond.methodLink RX5 133 yX5_branch ∈ BIG := big_t3 (i := 114) rfl rfl
set_option maxRecDepth 20000 in
theorem q_t3_116 : Cond.instanceMethod yX5_branch ∈ BIG := big_t3 (i := 116) rfl rfl
set_option maxRecDepth 20000 in
theorem q_t3_117 : Cond.code yX5_branch cX5_branch 4 none ∈ BIG := big_t3 (i := 117) rfl rfl
set_option maxRecDepth 20000 in
theorem q_t3_118 : Cond.methodLink RX5 72 yX5_b ∈ BIG := big_t3 (i := 118) rfl rfl
set_option maxRecDepth 20000 in
theorem q_t3_120 : Cond.instanceMethod yX5_b ∈ BIG := big_t3 (i := 120) rfl rfl
set_option maxRecDepth 20000 in
theorem q_t3_121 : Cond.code yX5_b cX5_b 1 (some .int) ∈ BIG := big_t3 (i := 121) rfl rfl
set_option maxRecDepth 20000 in
theorem q_t3_122 : Cond.methodLink RX5 75 yX5_isBelow ∈ BIG := big_t3 (i := 122) rfl rfl
set_option maxRecDepth 20000 in
theorem q_t3_123 : Cond.static yX5_isBelow ∈ BIG := big_t3 (i := 123) rfl rfl
set_option maxRecDepth 20000 in
theorem q_t3_124 : Cond.code yX5_isBelow cX5_isBelow 2 (some .boolean) ∈ BIG := big_t3 (i := 124) rfl rfl
set_option maxRecDepth 20000 in
theorem q_t3_125 : Cond.constant RX5 44 (-2147483648) ∈ BIG := big_t3 (i := 125) rfl rfl
set_option maxRecDepth 20000 in
theorem q_t3_126 : Cond.methodLink RX5 82 yX5_numberB ∈ BIG := big_t3 (i := 126) rfl rfl
set_option maxRecDepth 20000 in
theorem q_t3_128 : Cond.instanceMethod yX5_numberB ∈ BIG := big_t3 (i := 128) rfl rfl
set_option maxRecDepth 20000 in
theorem q_t3_129 : Cond.code yX5_numberB cX5_numberB 1 (some .int) ∈ BIG := big_t3 (i := 129) rfl rfl
set_option maxRecDepth 20000 in
theorem q_t3_130 : Cond.methodLink RX5 136 yX5_load ∈ BIG := big_t3 (i := 130) rfl rfl
set_option maxRecDepth 20000 in
theorem q_t3_132 : Cond.instanceMethod yX5_load ∈ BIG := big_t3 (i := 132) rfl rfl
set_option maxRecDepth 20000 in
theorem q_t3_133 : Cond.code yX5_load cX5_load 5 none ∈ BIG := big_t3 (i := 133) rfl rfl
set_option maxRecDepth 20000 in
theorem q_t3_134 : Cond.methodLink RX5 88 yX5_may ∈ BIG := big_t3 (i := 134) rfl rfl
set_option maxRecDepth 20000 in
theorem q_t3_136 : Cond.instanceMethod yX5_may ∈ BIG := big_t3 (i := 136) rfl rfl
set_option maxRecDepth 20000 in
theorem q_t3_137 : Cond.code yX5_may cX5_may 5 (some .boolean) ∈ BIG := big_t3 (i := 137) rfl rfl
set_option maxRecDepth 20000 in
theorem q_t3_138 : Cond.constant RX5 92 65535 ∈ BIG := big_t3 (i := 138) rfl rfl
set_option maxRecDepth 20000 in
theorem q_t3_139 : Cond.methodLink RX5 139 yX5_store ∈ BIG := big_t3 (i := 139) rfl rfl
set_option maxRecDepth 20000 in
theorem q_t3_141 : Cond.instanceMethod yX5_store ∈ BIG := big_t3 (i := 141) rfl rfl
set_option maxRecDepth 20000 in
theorem q_t3_142 : Cond.code yX5_store cX5_store 6 none ∈ BIG := big_t3 (i := 142) rfl rfl
set_option maxRecDepth 20000 in
theorem q_t3_143 : Cond.methodLink RX5 93 yX5_numberS ∈ BIG := big_t3 (i := 143) rfl rfl
set_option maxRecDepth 20000 in
theorem q_t3_145 : Cond.instanceMethod yX5_numberS ∈ BIG := big_t3 (i := 145) rfl rfl
set_option maxRecDepth 20000 in
theorem q_t3_146 : Cond.code yX5_numberS cX5_numberS 1 (some .int) ∈ BIG := big_t3 (i := 146) rfl rfl
set_option maxRecDepth 20000 in
theorem q_t3_147 : Cond.methodLink RX5 142 yX5_withNumber ∈ BIG := big_t3 (i := 147) rfl rfl
set_option maxRecDepth 20000 in
theorem q_t3_149 : Cond.instanceMethod yX5_withNumber ∈ BIG := big_t3 (i := 149) rfl rfl
set_option maxRecDepth 20000 in
theorem q_t3_150 : Cond.code yX5_withNumber cX5_withNumber 5 none ∈ BIG := big_t3 (i := 150) rfl rfl
set_option maxRecDepth 20000 in
theorem q_t3_151 : Cond.methodLink RX5 145 yX5_withRegister ∈ BIG := big_t3 (i := 151) rfl rfl
set_option maxRecDepth 20000 in
theorem q_t3_153 : Cond.instanceMethod yX5_withRegister ∈ BIG := big_t3 (i := 153) rfl rfl
set_option maxRecDepth 20000 in
theorem q_t3_154 : Cond.code yX5_withRegister cX5_withRegister 5 none ∈ BIG := big_t3 (i := 154) rfl rfl
set_option maxRecDepth 20000 in
theorem q_t3_155 : Cond.methodLink RX5 96 yX5_product ∈ BIG := big_t3 (i := 155) rfl rfl
set_option maxRecDepth 20000 in
theorem q_t3_157 : Cond.instanceMethod yX5_product ∈ BIG := big_t3 (i := 157) rfl rfl
set_option maxRecDepth 20000 in
theorem q_t3_158 : Cond.code yX5_product cX5_product 4 none ∈ BIG := big_t3 (i := 158) rfl rfl
set_option maxRecDepth 20000 in
theorem q_t3_159 : Cond.methodLink RX5 100 yX5_upper ∈ BIG := big_t3 (i := 159) rfl rfl
set_option maxRecDepth 20000 in
theorem q_t3_160 : Cond.static yX5_upper ∈ BIG := big_t3 (i := 160) rfl rfl
set_option maxRecDepth 20000 in
theorem q_t3_161 : Cond.code yX5_upper cX5_upper 10 (some .int) ∈ BIG := big_t3 (i := 161) rfl rfl
set_option maxRecDepth 20000 in
theorem q_t3_162 : Cond.methodLink RX5 103 yX5_quotient ∈ BIG := big_t3 (i := 162) rfl rfl
set_option maxRecDepth 20000 in
theorem q_t3_163 : Cond.static yX5_quotient ∈ BIG := big_t3 (i := 163) rfl rfl
set_option maxRecDepth 20000 in
theorem q_t3_164 : Cond.code yX5_quotient cX5_quotient 6 (some .int) ∈ BIG := big_t3 (i := 164) rfl rfl
set_option maxRecDepth 20000 in
theorem q_t3_165 : Cond.methodLink RX5 148 yX5_system ∈ BIG := big_t3 (i := 165) rfl rfl
set_option maxRecDepth 20000 in
theorem q_t3_167 : Cond.instanceMethod yX5_system ∈ BIG := big_t3 (i := 167) rfl rfl
set_option maxRecDepth 20000 in
theorem q_t3_168 : Cond.code yX5_system cX5_system 2 none ∈ BIG := big_t3 (i := 168) rfl rfl
set_option maxRecDepth 20000 in
theorem q_t3_169 : Cond.constant RX5 119 1048691 ∈ BIG := big_t3 (i := 169) rfl rfl
set_option maxRecDepth 20000 in
theorem q_t3_170 : Cond.constant RX5 120 807403635 ∈ BIG := big_t3 (i := 170) rfl rfl
set_option maxRecDepth 20000 in
theorem q_t3_171 : Cond.methodLink RX5 121 yX5_change ∈ BIG := big_t3 (i := 171) rfl rfl
set_option maxRecDepth 20000 in
theorem q_t3_173 : Cond.instanceMethod yX5_change ∈ BIG := big_t3 (i := 173) rfl rfl
set_option maxRecDepth 20000 in
theorem q_t3_174 : Cond.code yX5_change cX5_change 7 none ∈ BIG := big_t3 (i := 174) rfl rfl
set_option maxRecDepth 20000 in
theorem q_t3_175 : Cond.methodLink RX5 109 yX5_controlOf ∈ BIG := big_t3 (i := 175) rfl rfl
set_option maxRecDepth 20000 in
theorem q_t3_176 : Cond.static yX5_controlOf ∈ BIG := big_t3 (i := 176) rfl rfl
set_option maxRecDepth 20000 in
theorem q_t3_177 : Cond.code yX5_controlOf cX5_controlOf 1 (some .int) ∈ BIG := big_t3 (i := 177) rfl rfl
set_option maxRecDepth 20000 in
theorem q_t3_178 : Cond.methodLink RX5 113 yX5_has ∈ BIG := big_t3 (i := 178) rfl rfl
set_option maxRecDepth 20000 in
theorem q_t3_180 : Cond.instanceMethod yX5_has ∈ BIG := big_t3 (i := 180) rfl rfl
set_option maxRecDepth 20000 in
theorem q_t3_181 : Cond.code yX5_has cX5_has 2 (some .int) ∈ BIG := big_t3 (i := 181) rfl rfl
set_option maxRecDepth 20000 in
theorem q_t3_182 : Cond.methodLink RX5 116 yX5_become ∈ BIG := big_t3 (i := 182) rfl rfl
set_option maxRecDepth 20000 in
theorem q_t3_184 : Cond.instanceMethod yX5_become ∈ BIG := big_t3 (i := 184) rfl rfl
set_option maxRecDepth 20000 in
theorem q_t3_185 : Cond.code yX5_become cX5_become 3 none ∈ BIG := big_t3 (i := 185) rfl rfl
set_option maxRecDepth 20000 in
theorem q_t3_186 : Cond.methodLink RL 59 yX5_reset ∈ BIG := big_t3 (i := 186) rfl rfl
set_option maxRecDepth 20000 in
theorem q_t3_187 : Cond.instanceMethod yX5_reset ∈ BIG := big_t3 (i := 187) rfl rfl
set_option maxRecDepth 20000 in
theorem q_t3_188 : Cond.selects RX5 yX5_reset yX5_reset ∈ BIG := big_t3 (i := 188) rfl rfl
set_option maxRecDepth 20000 in
theorem q_t3_189 : Cond.code yX5_reset cX5_reset 3 none ∈ BIG := big_t3 (i := 189) rfl rfl
set_option maxRecDepth 20000 in
theorem q_t3_190 : Cond.methodLink RL 62 yX5_register ∈ BIG := big_t3 (i := 190) rfl rfl
set_option maxRecDepth 20000 in
theorem q_t3_191 : Cond.instanceMethod yX5_register ∈ BIG := big_t3 (i := 191) rfl rfl
set_option maxRecDepth 20000 in
theorem q_t3_192 : Cond.selects RX5 yX5_register yX5_register ∈ BIG := big_t3 (i := 192) rfl rfl
set_option maxRecDepth 20000 in
theorem q_t3_193 : Cond.code yX5_register cX5_register 2 (some .int) ∈ BIG := big_t3 (i := 193) rfl rfl
set_option maxRecDepth 20000 in
theorem q_t3_194 : Cond.methodLink RL 65 yX5_control ∈ BIG := big_t3 (i := 194) rfl rfl
set_option maxRecDepth 20000 in
theorem q_t3_195 : Cond.instanceMethod yX5_control ∈ BIG := big_t3 (i := 195) rfl rfl
set_option maxRecDepth 20000 in
theorem q_t3_196 : Cond.selects RX5 yX5_control yX5_control ∈ BIG := big_t3 (i := 196) rfl rfl
set_option maxRecDepth 20000 in
theorem q_t3_197 : Cond.code yX5_control cX5_control 3 (some .int) ∈ BIG := big_t3 (i := 197) rfl rfl
set_option maxRecDepth 20000 in
theorem q_t3_198 : Cond.methodLink RL 68 yX5_word ∈ BIG := big_t3 (i := 198) rfl rfl
set_option maxRecDepth 20000 in
theorem q_t3_199 : Cond.instanceMethod yX5_word ∈ BIG := big_t3 (i := 199) rfl rfl
set_option maxRecDepth 20000 in
theorem q_t3_200 : Cond.selects RX5 yX5_word yX5_word ∈ BIG := big_t3 (i := 200) rfl rfl
set_option maxRecDepth 20000 in
theorem q_t3_201 : Cond.code yX5_word cX5_word 2 (some .int) ∈ BIG := big_t3 (i := 201) rfl rfl
set_option maxRecDepth 20000 in
theorem q_t3_202 : Cond.methodLink RL 72 yX5_state ∈ BIG := big_t3 (i := 202) rfl rfl
set_option maxRecDepth 20000 in
theorem q_t3_203 : Cond.instanceMethod yX5_state ∈ BIG := big_t3 (i := 203) rfl rfl
set_option maxRecDepth 20000 in
theorem q_t3_204 : Cond.selects RX5 yX5_state yX5_state ∈ BIG := big_t3 (i := 204) rfl rfl
set_option maxRecDepth 20000 in
theorem q_t3_205 : Cond.code yX5_state cX5_state 2 (some .int) ∈ BIG := big_t3 (i := 205) rfl rfl
set_option maxRecDepth 20000 in
theorem q_t3_206 : Cond.constant RX5 168 2147483647 ∈ BIG := big_t3 (i := 206) rfl rfl
set_option maxRecDepth 20000 in
theorem q_t3_207 : Cond.arrayClass .long ∈ BIG := big_t3 (i := 207) rfl rfl
theorem iX2 : ∀ w ∈ u_ws RX2 TX2 9, w ∈ BIG := by
  show ∀ w ∈ [Cond.lays RX2 "HartDesk$Controls" "status" "I", Cond.lays RX2 "HartDesk$Controls" "enabled" "I", Cond.lays RX2 "HartDesk$Controls" "vector" "I", Cond.lays RX2 "HartDesk$Controls" "scratch" "I", Cond.lays RX2 "HartDesk$Controls" "back" "I", Cond.lays RX2 "HartDesk$Controls" "cause" "I", Cond.lays RX2 "HartDesk$Controls" "value" "I", Cond.lays RX2 "HartDesk$Controls" "done" "I", Cond.lays RX2 "HartDesk$Controls" "lineUp" "Z"], w ∈ BIG
  exact in_c q_t1_51 (in_c q_t1_53 (in_c q_t1_55 (in_c q_t1_57 (in_c q_t1_59 (in_c q_t1_61 (in_c q_t1_63 (in_c q_t1_65 (in_c q_t1_67 (fun _ h => nomatch h)))))))))
theorem iX3 : ∀ w ∈ u_ws RX3 TX3 1, w ∈ BIG := by
  show ∀ w ∈ [Cond.laysFinal RX3 "HartDesk$Memory" "words" "[I"], w ∈ BIG
  exact in_c q_t1_29 (fun _ h => nomatch h)
theorem iX4 : ∀ w ∈ u_ws RX4 TX4 7, w ∈ BIG := by
  show ∀ w ∈ [Cond.laysFinal RX4 "HartDesk" "memory" "LHartDesk$Memory;", Cond.laysFinal RX4 "HartDesk" "controls" "LHartDesk$Controls;", Cond.laysFinal RX4 "HartDesk" "registers" "[I", Cond.lays RX4 "HartDesk" "pc" "I", Cond.lays RX4 "HartDesk" "stopped" "Z", Cond.lays RX4 "HartDesk" "stepsInAll" "I", Cond.lays RX4 "HartDesk" "traps" "I"], w ∈ BIG
  exact in_c q_t1_77 (in_c q_t1_79 (in_c q_t1_81 (in_c q_t1_83 (in_c q_t1_85 (in_c q_t1_87 (in_c q_t1_89 (fun _ h => nomatch h)))))))
theorem iX5 : ∀ w ∈ u_ws RX5 TX5 15, w ∈ BIG := by
  show ∀ w ∈ [Cond.lays RX5 "HartDeskModel" "thrown" "I", Cond.laysFinal RX5 "HartDeskModel" "memory" "[I", Cond.laysFinal RX5 "HartDeskModel" "registers" "[I", Cond.lays RX5 "HartDeskModel" "pc" "I", Cond.laysFinal RX5 "HartDeskModel" "controls" "[I", Cond.lays RX5 "HartDeskModel" "line" "Z", Cond.lays RX5 "HartDeskModel" "stopped" "Z", Cond.lays RX5 "HartDeskModel" "steps" "I", Cond.lays RX5 "HartDeskModel" "done" "I", Cond.lays RX5 "HartDeskModel" "traps" "I", Cond.lays RX5 "HartDeskModel" "word" "I", Cond.lays RX5 "HartDeskModel" "trapped" "Z", Cond.lays RX5 "HartDeskModel" "cause" "I", Cond.lays RX5 "HartDeskModel" "why" "I", Cond.lays RX5 "HartDeskModel" "next" "I"], w ∈ BIG
  exact in_c q_t3_6 (in_c q_t3_8 (in_c q_t3_10 (in_c q_t3_12 (in_c q_t3_14 (in_c q_t3_16 (in_c q_t3_18 (in_c q_t3_20 (in_c q_t3_22 (in_c q_t3_24 (in_c q_t3_26 (in_c q_t3_28 (in_c q_t3_30 (in_c q_t3_32 (in_c q_t3_34 (fun _ h => nomatch h)))))))))))))))
def wsX4_init : List Cond := .code yX4_init cX4_init 1 none :: BIG
theorem wX4_init : ∀ w ∈ wsX4_init, w ∈ BIG := in_c q_t1_18 (fun _ h => h)
theorem hX4_init : yX4_init.cls = RX4 ∧ yX4_init.cls ≠ "java/lang/invoke/MethodHandle" ∧ yX4_init.cls ≠ "java/lang/invoke/VarHandle" ∧ (parseMethodDescriptor yX4_init.desc).map (fun d => d.parameters.length) = some 0 := by decide +kernel
def wsX3_init : List Cond := .code yX3_init cX3_init 1 none :: BIG
theorem wX3_init : ∀ w ∈ wsX3_init, w ∈ BIG := in_c q_t1_26 (fun _ h => h)
theorem hX3_init : yX3_init.cls = RX3 ∧ yX3_init.cls ≠ "java/lang/invoke/MethodHandle" ∧ yX3_init.cls ≠ "java/lang/invoke/VarHandle" ∧ (parseMethodDescriptor yX3_init.desc).map (fun d => d.parameters.length) = some 0 := by decide +kernel
def wsX2_init : List Cond := .code yX2_init cX2_init 1 none :: BIG
theorem wX2_init : ∀ w ∈ wsX2_init, w ∈ BIG := in_c q_t1_37 (fun _ h => h)
theorem hX2_init : yX2_init.cls = RX2 ∧ yX2_init.cls ≠ "java/lang/invoke/MethodHandle" ∧ yX2_init.cls ≠ "java/lang/invoke/VarHandle" ∧ (parseMethodDescriptor yX2_init.desc).map (fun d => d.parameters.length) = some 0 := by decide +kernel
def wsX4_set : List Cond := .code yX4_set cX4_set 3 (some .boolean) :: BIG
theorem wX4_set : ∀ w ∈ wsX4_set, w ∈ BIG := in_c q_t1_95 (fun _ h => h)
theorem hX4_set : yX4_set.cls = RX4 ∧ yX4_set.cls ≠ "java/lang/invoke/MethodHandle" ∧ yX4_set.cls ≠ "java/lang/invoke/VarHandle" ∧ (parseMethodDescriptor yX4_set.desc).map (fun d => d.parameters.length) = some 2 := by decide +kernel
def wsX3_isWordAddress : List Cond := .code yX3_isWordAddress cX3_isWordAddress 1 (some .boolean) :: BIG
theorem wX3_isWordAddress : ∀ w ∈ wsX3_isWordAddress, w ∈ BIG := in_c q_t1_98 (fun _ h => h)
theorem hX3_isWordAddress : yX3_isWordAddress.cls = RX3 ∧ yX3_isWordAddress.cls ≠ "java/lang/invoke/MethodHandle" ∧ yX3_isWordAddress.cls ≠ "java/lang/invoke/VarHandle" ∧ (parseMethodDescriptor yX3_isWordAddress.desc).map (fun d => d.parameters.length) = some 1 := by decide +kernel
def wsX3_holds : List Cond := .code yX3_holds cX3_holds 1 (some .boolean) :: BIG
theorem wX3_holds : ∀ w ∈ wsX3_holds, w ∈ BIG := in_c q_t1_101 (fun _ h => h)
theorem hX3_holds : yX3_holds.cls = RX3 ∧ yX3_holds.cls ≠ "java/lang/invoke/MethodHandle" ∧ yX3_holds.cls ≠ "java/lang/invoke/VarHandle" ∧ (parseMethodDescriptor yX3_holds.desc).map (fun d => d.parameters.length) = some 1 := by decide +kernel
def wsX3_writeWord : List Cond := .code yX3_writeWord cX3_writeWord 4 none :: BIG
theorem wX3_writeWord : ∀ w ∈ wsX3_writeWord, w ∈ BIG := in_c q_t1_105 (fun _ h => h)
theorem hX3_writeWord : yX3_writeWord.cls = RX3 ∧ yX3_writeWord.cls ≠ "java/lang/invoke/MethodHandle" ∧ yX3_writeWord.cls ≠ "java/lang/invoke/VarHandle" ∧ (parseMethodDescriptor yX3_writeWord.desc).map (fun d => d.parameters.length) = some 2 := by decide +kernel
def wsX4_put : List Cond := .code yX4_put cX4_put 3 (some .boolean) :: BIG
theorem wX4_put : ∀ w ∈ wsX4_put, w ∈ BIG := in_c q_t1_109 (fun _ h => h)
theorem hX4_put : yX4_put.cls = RX4 ∧ yX4_put.cls ≠ "java/lang/invoke/MethodHandle" ∧ yX4_put.cls ≠ "java/lang/invoke/VarHandle" ∧ (parseMethodDescriptor yX4_put.desc).map (fun d => d.parameters.length) = some 2 := by decide +kernel
def wsX4_putPc : List Cond := .code yX4_putPc cX4_putPc 2 (some .boolean) :: BIG
theorem wX4_putPc : ∀ w ∈ wsX4_putPc, w ∈ BIG := in_c q_t1_113 (fun _ h => h)
theorem hX4_putPc : yX4_putPc.cls = RX4 ∧ yX4_putPc.cls ≠ "java/lang/invoke/MethodHandle" ∧ yX4_putPc.cls ≠ "java/lang/invoke/VarHandle" ∧ (parseMethodDescriptor yX4_putPc.desc).map (fun d => d.parameters.length) = some 1 := by decide +kernel
def wsX4_writeRegister : List Cond := .code yX4_writeRegister cX4_writeRegister 3 none :: BIG
theorem wX4_writeRegister : ∀ w ∈ wsX4_writeRegister, w ∈ BIG := in_c q_t1_117 (fun _ h => h)
theorem hX4_writeRegister : yX4_writeRegister.cls = RX4 ∧ yX4_writeRegister.cls ≠ "java/lang/invoke/MethodHandle" ∧ yX4_writeRegister.cls ≠ "java/lang/invoke/VarHandle" ∧ (parseMethodDescriptor yX4_writeRegister.desc).map (fun d => d.parameters.length) = some 2 := by decide +kernel
def wsX4_line : List Cond := .code yX4_line cX4_line 2 none :: BIG
theorem wX4_line : ∀ w ∈ wsX4_line, w ∈ BIG := in_c q_t1_121 (fun _ h => h)
theorem hX4_line : yX4_line.cls = RX4 ∧ yX4_line.cls ≠ "java/lang/invoke/MethodHandle" ∧ yX4_line.cls ≠ "java/lang/invoke/VarHandle" ∧ (parseMethodDescriptor yX4_line.desc).map (fun d => d.parameters.length) = some 1 := by decide +kernel
def wsX4_reset : List Cond := .code yX4_reset cX4_reset 2 none :: BIG
theorem wX4_reset : ∀ w ∈ wsX4_reset, w ∈ BIG := in_c q_t1_125 (fun _ h => h)
theorem hX4_reset : yX4_reset.cls = RX4 ∧ yX4_reset.cls ≠ "java/lang/invoke/MethodHandle" ∧ yX4_reset.cls ≠ "java/lang/invoke/VarHandle" ∧ (parseMethodDescriptor yX4_reset.desc).map (fun d => d.parameters.length) = some 1 := by decide +kernel
def wsJ7_fill : List Cond := .code yJ7_fill cJ7_fill 4 none :: BIG
theorem wJ7_fill : ∀ w ∈ wsJ7_fill, w ∈ BIG := in_c q_t1_128 (fun _ h => h)
theorem hJ7_fill : yJ7_fill.cls = RJ7 ∧ yJ7_fill.cls ≠ "java/lang/invoke/MethodHandle" ∧ yJ7_fill.cls ≠ "java/lang/invoke/VarHandle" ∧ (parseMethodDescriptor yJ7_fill.desc).map (fun d => d.parameters.length) = some 2 := by decide +kernel
def wsX2_clear : List Cond := .code yX2_clear cX2_clear 1 none :: BIG
theorem wX2_clear : ∀ w ∈ wsX2_clear, w ∈ BIG := in_c q_t1_132 (fun _ h => h)
theorem hX2_clear : yX2_clear.cls = RX2 ∧ yX2_clear.cls ≠ "java/lang/invoke/MethodHandle" ∧ yX2_clear.cls ≠ "java/lang/invoke/VarHandle" ∧ (parseMethodDescriptor yX2_clear.desc).map (fun d => d.parameters.length) = some 0 := by decide +kernel
def wsX3_clear : List Cond := .code yX3_clear cX3_clear 1 none :: BIG
theorem wX3_clear : ∀ w ∈ wsX3_clear, w ∈ BIG := in_c q_t1_136 (fun _ h => h)
theorem hX3_clear : yX3_clear.cls = RX3 ∧ yX3_clear.cls ≠ "java/lang/invoke/MethodHandle" ∧ yX3_clear.cls ≠ "java/lang/invoke/VarHandle" ∧ (parseMethodDescriptor yX3_clear.desc).map (fun d => d.parameters.length) = some 0 := by decide +kernel
def wsX4_state : List Cond := .code yX4_state cX4_state 2 (some .int) :: BIG
theorem wX4_state : ∀ w ∈ wsX4_state, w ∈ BIG := in_c q_t1_141 (fun _ h => h)
theorem hX4_state : yX4_state.cls = RX4 ∧ yX4_state.cls ≠ "java/lang/invoke/MethodHandle" ∧ yX4_state.cls ≠ "java/lang/invoke/VarHandle" ∧ (parseMethodDescriptor yX4_state.desc).map (fun d => d.parameters.length) = some 1 := by decide +kernel
def wsX4_run : List Cond := .code yX4_run cX4_run 3 (some .int) :: BIG
theorem wX4_run : ∀ w ∈ wsX4_run, w ∈ BIG := in_c q_t1_151 (fun _ h => h)
theorem hX4_run : yX4_run.cls = RX4 ∧ yX4_run.cls ≠ "java/lang/invoke/MethodHandle" ∧ yX4_run.cls ≠ "java/lang/invoke/VarHandle" ∧ (parseMethodDescriptor yX4_run.desc).map (fun d => d.parameters.length) = some 1 := by decide +kernel
def wsX4_refuseBeyondLimit : List Cond := .code yX4_refuseBeyondLimit cX4_refuseBeyondLimit 1 none :: BIG
theorem wX4_refuseBeyondLimit : ∀ w ∈ wsX4_refuseBeyondLimit, w ∈ BIG := in_c q_t1_223 (fun _ h => h)
theorem hX4_refuseBeyondLimit : yX4_refuseBeyondLimit.cls = RX4 ∧ yX4_refuseBeyondLimit.cls ≠ "java/lang/invoke/MethodHandle" ∧ yX4_refuseBeyondLimit.cls ≠ "java/lang/invoke/VarHandle" ∧ (parseMethodDescriptor yX4_refuseBeyondLimit.desc).map (fun d => d.parameters.length) = some 0 := by decide +kernel
def wsX4_step : List Cond := .code yX4_step cX4_step 1 none :: BIG
theorem wX4_step : ∀ w ∈ wsX4_step, w ∈ BIG := in_c q_t2_4 (fun _ h => h)
theorem hX4_step : yX4_step.cls = RX4 ∧ yX4_step.cls ≠ "java/lang/invoke/MethodHandle" ∧ yX4_step.cls ≠ "java/lang/invoke/VarHandle" ∧ (parseMethodDescriptor yX4_step.desc).map (fun d => d.parameters.length) = some 0 := by decide +kernel
def wsX2_isInterrupted : List Cond := .code yX2_isInterrupted cX2_isInterrupted 1 (some .boolean) :: BIG
theorem wX2_isInterrupted : ∀ w ∈ wsX2_isInterrupted, w ∈ BIG := in_c q_t2_8 (fun _ h => h)
theorem hX2_isInterrupted : yX2_isInterrupted.cls = RX2 ∧ yX2_isInterrupted.cls ≠ "java/lang/invoke/MethodHandle" ∧ yX2_isInterrupted.cls ≠ "java/lang/invoke/VarHandle" ∧ (parseMethodDescriptor yX2_isInterrupted.desc).map (fun d => d.parameters.length) = some 0 := by decide +kernel
def wsX4_trap : List Cond := .code yX4_trap cX4_trap 3 (some .boolean) :: BIG
theorem wX4_trap : ∀ w ∈ wsX4_trap, w ∈ BIG := in_c q_t2_13 (fun _ h => h)
theorem hX4_trap : yX4_trap.cls = RX4 ∧ yX4_trap.cls ≠ "java/lang/invoke/MethodHandle" ∧ yX4_trap.cls ≠ "java/lang/invoke/VarHandle" ∧ (parseMethodDescriptor yX4_trap.desc).map (fun d => d.parameters.length) = some 2 := by decide +kernel
def wsX2_enterTrap : List Cond := .code yX2_enterTrap cX2_enterTrap 4 none :: BIG
theorem wX2_enterTrap : ∀ w ∈ wsX2_enterTrap, w ∈ BIG := in_c q_t2_17 (fun _ h => h)
theorem hX2_enterTrap : yX2_enterTrap.cls = RX2 ∧ yX2_enterTrap.cls ≠ "java/lang/invoke/MethodHandle" ∧ yX2_enterTrap.cls ≠ "java/lang/invoke/VarHandle" ∧ (parseMethodDescriptor yX2_enterTrap.desc).map (fun d => d.parameters.length) = some 3 := by decide +kernel
def wsX3_readWord : List Cond := .code yX3_readWord cX3_readWord 3 (some .int) :: BIG
theorem wX3_readWord : ∀ w ∈ wsX3_readWord, w ∈ BIG := in_c q_t2_22 (fun _ h => h)
theorem hX3_readWord : yX3_readWord.cls = RX3 ∧ yX3_readWord.cls ≠ "java/lang/invoke/MethodHandle" ∧ yX3_readWord.cls ≠ "java/lang/invoke/VarHandle" ∧ (parseMethodDescriptor yX3_readWord.desc).map (fun d => d.parameters.length) = some 1 := by decide +kernel
def wsX4_execute : List Cond := .code yX4_execute cX4_execute 2 (some .boolean) :: BIG
theorem wX4_execute : ∀ w ∈ wsX4_execute, w ∈ BIG := in_c q_t2_26 (fun _ h => h)
theorem hX4_execute : yX4_execute.cls = RX4 ∧ yX4_execute.cls ≠ "java/lang/invoke/MethodHandle" ∧ yX4_execute.cls ≠ "java/lang/invoke/VarHandle" ∧ (parseMethodDescriptor yX4_execute.desc).map (fun d => d.parameters.length) = some 1 := by decide +kernel
def wsX1_op : List Cond := .code yX1_op cX1_op 1 (some .int) :: BIG
theorem wX1_op : ∀ w ∈ wsX1_op, w ∈ BIG := in_c q_t2_29 (fun _ h => h)
theorem hX1_op : yX1_op.cls = RX1 ∧ yX1_op.cls ≠ "java/lang/invoke/MethodHandle" ∧ yX1_op.cls ≠ "java/lang/invoke/VarHandle" ∧ (parseMethodDescriptor yX1_op.desc).map (fun d => d.parameters.length) = some 1 := by decide +kernel
def wsX1_numberU : List Cond := .code yX1_numberU cX1_numberU 1 (some .int) :: BIG
theorem wX1_numberU : ∀ w ∈ wsX1_numberU, w ∈ BIG := in_c q_t2_32 (fun _ h => h)
theorem hX1_numberU : yX1_numberU.cls = RX1 ∧ yX1_numberU.cls ≠ "java/lang/invoke/MethodHandle" ∧ yX1_numberU.cls ≠ "java/lang/invoke/VarHandle" ∧ (parseMethodDescriptor yX1_numberU.desc).map (fun d => d.parameters.length) = some 1 := by decide +kernel
def wsX4_goOnWith : List Cond := .code yX4_goOnWith cX4_goOnWith 3 (some .boolean) :: BIG
theorem wX4_goOnWith : ∀ w ∈ wsX4_goOnWith, w ∈ BIG := in_c q_t2_36 (fun _ h => h)
theorem hX4_goOnWith : yX4_goOnWith.cls = RX4 ∧ yX4_goOnWith.cls ≠ "java/lang/invoke/MethodHandle" ∧ yX4_goOnWith.cls ≠ "java/lang/invoke/VarHandle" ∧ (parseMethodDescriptor yX4_goOnWith.desc).map (fun d => d.parameters.length) = some 2 := by decide +kernel
def wsX1_d : List Cond := .code yX1_d cX1_d 1 (some .int) :: BIG
theorem wX1_d : ∀ w ∈ wsX1_d, w ∈ BIG := in_c q_t2_39 (fun _ h => h)
theorem hX1_d : yX1_d.cls = RX1 ∧ yX1_d.cls ≠ "java/lang/invoke/MethodHandle" ∧ yX1_d.cls ≠ "java/lang/invoke/VarHandle" ∧ (parseMethodDescriptor yX1_d.desc).map (fun d => d.parameters.length) = some 1 := by decide +kernel
def wsX4_goOn : List Cond := .code yX4_goOn cX4_goOn 1 (some .boolean) :: BIG
theorem wX4_goOn : ∀ w ∈ wsX4_goOn, w ∈ BIG := in_c q_t2_43 (fun _ h => h)
theorem hX4_goOn : yX4_goOn.cls = RX4 ∧ yX4_goOn.cls ≠ "java/lang/invoke/MethodHandle" ∧ yX4_goOn.cls ≠ "java/lang/invoke/VarHandle" ∧ (parseMethodDescriptor yX4_goOn.desc).map (fun d => d.parameters.length) = some 0 := by decide +kernel
def wsX1_numberJ : List Cond := .code yX1_numberJ cX1_numberJ 1 (some .int) :: BIG
theorem wX1_numberJ : ∀ w ∈ wsX1_numberJ, w ∈ BIG := in_c q_t2_46 (fun _ h => h)
theorem hX1_numberJ : yX1_numberJ.cls = RX1 ∧ yX1_numberJ.cls ≠ "java/lang/invoke/MethodHandle" ∧ yX1_numberJ.cls ≠ "java/lang/invoke/VarHandle" ∧ (parseMethodDescriptor yX1_numberJ.desc).map (fun d => d.parameters.length) = some 1 := by decide +kernel
def wsX4_jump : List Cond := .code yX4_jump cX4_jump 3 (some .boolean) :: BIG
theorem wX4_jump : ∀ w ∈ wsX4_jump, w ∈ BIG := in_c q_t2_50 (fun _ h => h)
theorem hX4_jump : yX4_jump.cls = RX4 ∧ yX4_jump.cls ≠ "java/lang/invoke/MethodHandle" ∧ yX4_jump.cls ≠ "java/lang/invoke/VarHandle" ∧ (parseMethodDescriptor yX4_jump.desc).map (fun d => d.parameters.length) = some 2 := by decide +kernel
def wsX4_jumpByRegister : List Cond := .code yX4_jumpByRegister cX4_jumpByRegister 2 (some .boolean) :: BIG
theorem wX4_jumpByRegister : ∀ w ∈ wsX4_jumpByRegister, w ∈ BIG := in_c q_t2_54 (fun _ h => h)
theorem hX4_jumpByRegister : yX4_jumpByRegister.cls = RX4 ∧ yX4_jumpByRegister.cls ≠ "java/lang/invoke/MethodHandle" ∧ yX4_jumpByRegister.cls ≠ "java/lang/invoke/VarHandle" ∧ (parseMethodDescriptor yX4_jumpByRegister.desc).map (fun d => d.parameters.length) = some 1 := by decide +kernel
def wsX1_f : List Cond := .code yX1_f cX1_f 1 (some .int) :: BIG
theorem wX1_f : ∀ w ∈ wsX1_f, w ∈ BIG := in_c q_t2_57 (fun _ h => h)
theorem hX1_f : yX1_f.cls = RX1 ∧ yX1_f.cls ≠ "java/lang/invoke/MethodHandle" ∧ yX1_f.cls ≠ "java/lang/invoke/VarHandle" ∧ (parseMethodDescriptor yX1_f.desc).map (fun d => d.parameters.length) = some 1 := by decide +kernel
def wsX4_unknown : List Cond := .code yX4_unknown cX4_unknown 2 (some .boolean) :: BIG
theorem wX4_unknown : ∀ w ∈ wsX4_unknown, w ∈ BIG := in_c q_t2_61 (fun _ h => h)
theorem hX4_unknown : yX4_unknown.cls = RX4 ∧ yX4_unknown.cls ≠ "java/lang/invoke/MethodHandle" ∧ yX4_unknown.cls ≠ "java/lang/invoke/VarHandle" ∧ (parseMethodDescriptor yX4_unknown.desc).map (fun d => d.parameters.length) = some 1 := by decide +kernel
def wsX4_valueA : List Cond := .code yX4_valueA cX4_valueA 2 (some .int) :: BIG
theorem wX4_valueA : ∀ w ∈ wsX4_valueA, w ∈ BIG := in_c q_t2_65 (fun _ h => h)
theorem hX4_valueA : yX4_valueA.cls = RX4 ∧ yX4_valueA.cls ≠ "java/lang/invoke/MethodHandle" ∧ yX4_valueA.cls ≠ "java/lang/invoke/VarHandle" ∧ (parseMethodDescriptor yX4_valueA.desc).map (fun d => d.parameters.length) = some 1 := by decide +kernel
def wsX1_a : List Cond := .code yX1_a cX1_a 1 (some .int) :: BIG
theorem wX1_a : ∀ w ∈ wsX1_a, w ∈ BIG := in_c q_t2_68 (fun _ h => h)
theorem hX1_a : yX1_a.cls = RX1 ∧ yX1_a.cls ≠ "java/lang/invoke/MethodHandle" ∧ yX1_a.cls ≠ "java/lang/invoke/VarHandle" ∧ (parseMethodDescriptor yX1_a.desc).map (fun d => d.parameters.length) = some 1 := by decide +kernel
def wsX4_readRegister : List Cond := .code yX4_readRegister cX4_readRegister 2 (some .int) :: BIG
theorem wX4_readRegister : ∀ w ∈ wsX4_readRegister, w ∈ BIG := in_c q_t2_72 (fun _ h => h)
theorem hX4_readRegister : yX4_readRegister.cls = RX4 ∧ yX4_readRegister.cls ≠ "java/lang/invoke/MethodHandle" ∧ yX4_readRegister.cls ≠ "java/lang/invoke/VarHandle" ∧ (parseMethodDescriptor yX4_readRegister.desc).map (fun d => d.parameters.length) = some 1 := by decide +kernel
def wsX1_numberI : List Cond := .code yX1_numberI cX1_numberI 1 (some .int) :: BIG
theorem wX1_numberI : ∀ w ∈ wsX1_numberI, w ∈ BIG := in_c q_t2_75 (fun _ h => h)
theorem hX1_numberI : yX1_numberI.cls = RX1 ∧ yX1_numberI.cls ≠ "java/lang/invoke/MethodHandle" ∧ yX1_numberI.cls ≠ "java/lang/invoke/VarHandle" ∧ (parseMethodDescriptor yX1_numberI.desc).map (fun d => d.parameters.length) = some 1 := by decide +kernel
def wsX4_branch : List Cond := .code yX4_branch cX4_branch 3 (some .boolean) :: BIG
theorem wX4_branch : ∀ w ∈ wsX4_branch, w ∈ BIG := in_c q_t2_79 (fun _ h => h)
theorem hX4_branch : yX4_branch.cls = RX4 ∧ yX4_branch.cls ≠ "java/lang/invoke/MethodHandle" ∧ yX4_branch.cls ≠ "java/lang/invoke/VarHandle" ∧ (parseMethodDescriptor yX4_branch.desc).map (fun d => d.parameters.length) = some 1 := by decide +kernel
def wsX4_valueB : List Cond := .code yX4_valueB cX4_valueB 2 (some .int) :: BIG
theorem wX4_valueB : ∀ w ∈ wsX4_valueB, w ∈ BIG := in_c q_t2_83 (fun _ h => h)
theorem hX4_valueB : yX4_valueB.cls = RX4 ∧ yX4_valueB.cls ≠ "java/lang/invoke/MethodHandle" ∧ yX4_valueB.cls ≠ "java/lang/invoke/VarHandle" ∧ (parseMethodDescriptor yX4_valueB.desc).map (fun d => d.parameters.length) = some 1 := by decide +kernel
def wsX1_b : List Cond := .code yX1_b cX1_b 1 (some .int) :: BIG
theorem wX1_b : ∀ w ∈ wsX1_b, w ∈ BIG := in_c q_t2_86 (fun _ h => h)
theorem hX1_b : yX1_b.cls = RX1 ∧ yX1_b.cls ≠ "java/lang/invoke/MethodHandle" ∧ yX1_b.cls ≠ "java/lang/invoke/VarHandle" ∧ (parseMethodDescriptor yX1_b.desc).map (fun d => d.parameters.length) = some 1 := by decide +kernel
def wsX0_holds : List Cond := .code yX0_holds cX0_holds 3 (some .boolean) :: BIG
theorem wX0_holds : ∀ w ∈ wsX0_holds, w ∈ BIG := in_c q_t2_89 (fun _ h => h)
theorem hX0_holds : yX0_holds.cls = RX0 ∧ yX0_holds.cls ≠ "java/lang/invoke/MethodHandle" ∧ yX0_holds.cls ≠ "java/lang/invoke/VarHandle" ∧ (parseMethodDescriptor yX0_holds.desc).map (fun d => d.parameters.length) = some 3 := by decide +kernel
def wsX0_isBelow : List Cond := .code yX0_isBelow cX0_isBelow 2 (some .boolean) :: BIG
theorem wX0_isBelow : ∀ w ∈ wsX0_isBelow, w ∈ BIG := in_c q_t2_92 (fun _ h => h)
theorem hX0_isBelow : yX0_isBelow.cls = RX0 ∧ yX0_isBelow.cls ≠ "java/lang/invoke/MethodHandle" ∧ yX0_isBelow.cls ≠ "java/lang/invoke/VarHandle" ∧ (parseMethodDescriptor yX0_isBelow.desc).map (fun d => d.parameters.length) = some 2 := by decide +kernel
def wsX1_numberB : List Cond := .code yX1_numberB cX1_numberB 1 (some .int) :: BIG
theorem wX1_numberB : ∀ w ∈ wsX1_numberB, w ∈ BIG := in_c q_t2_96 (fun _ h => h)
theorem hX1_numberB : yX1_numberB.cls = RX1 ∧ yX1_numberB.cls ≠ "java/lang/invoke/MethodHandle" ∧ yX1_numberB.cls ≠ "java/lang/invoke/VarHandle" ∧ (parseMethodDescriptor yX1_numberB.desc).map (fun d => d.parameters.length) = some 1 := by decide +kernel
def wsX4_load : List Cond := .code yX4_load cX4_load 4 (some .boolean) :: BIG
theorem wX4_load : ∀ w ∈ wsX4_load, w ∈ BIG := in_c q_t2_100 (fun _ h => h)
theorem hX4_load : yX4_load.cls = RX4 ∧ yX4_load.cls ≠ "java/lang/invoke/MethodHandle" ∧ yX4_load.cls ≠ "java/lang/invoke/VarHandle" ∧ (parseMethodDescriptor yX4_load.desc).map (fun d => d.parameters.length) = some 1 := by decide +kernel
def wsX3_isBy : List Cond := .code yX3_isBy cX3_isBy 2 (some .boolean) :: BIG
theorem wX3_isBy : ∀ w ∈ wsX3_isBy, w ∈ BIG := in_c q_t2_103 (fun _ h => h)
theorem hX3_isBy : yX3_isBy.cls = RX3 ∧ yX3_isBy.cls ≠ "java/lang/invoke/MethodHandle" ∧ yX3_isBy.cls ≠ "java/lang/invoke/VarHandle" ∧ (parseMethodDescriptor yX3_isBy.desc).map (fun d => d.parameters.length) = some 2 := by decide +kernel
def wsX3_readPart : List Cond := .code yX3_readPart cX3_readPart 4 (some .int) :: BIG
theorem wX3_readPart : ∀ w ∈ wsX3_readPart, w ∈ BIG := in_c q_t2_107 (fun _ h => h)
theorem hX3_readPart : yX3_readPart.cls = RX3 ∧ yX3_readPart.cls ≠ "java/lang/invoke/MethodHandle" ∧ yX3_readPart.cls ≠ "java/lang/invoke/VarHandle" ∧ (parseMethodDescriptor yX3_readPart.desc).map (fun d => d.parameters.length) = some 2 := by decide +kernel
def wsX3_shift : List Cond := .code yX3_shift cX3_shift 1 (some .int) :: BIG
theorem wX3_shift : ∀ w ∈ wsX3_shift, w ∈ BIG := in_c q_t2_111 (fun _ h => h)
theorem hX3_shift : yX3_shift.cls = RX3 ∧ yX3_shift.cls ≠ "java/lang/invoke/MethodHandle" ∧ yX3_shift.cls ≠ "java/lang/invoke/VarHandle" ∧ (parseMethodDescriptor yX3_shift.desc).map (fun d => d.parameters.length) = some 1 := by decide +kernel
def wsX4_store : List Cond := .code yX4_store cX4_store 4 (some .boolean) :: BIG
theorem wX4_store : ∀ w ∈ wsX4_store, w ∈ BIG := in_c q_t2_116 (fun _ h => h)
theorem hX4_store : yX4_store.cls = RX4 ∧ yX4_store.cls ≠ "java/lang/invoke/MethodHandle" ∧ yX4_store.cls ≠ "java/lang/invoke/VarHandle" ∧ (parseMethodDescriptor yX4_store.desc).map (fun d => d.parameters.length) = some 1 := by decide +kernel
def wsX1_numberS : List Cond := .code yX1_numberS cX1_numberS 1 (some .int) :: BIG
theorem wX1_numberS : ∀ w ∈ wsX1_numberS, w ∈ BIG := in_c q_t2_119 (fun _ h => h)
theorem hX1_numberS : yX1_numberS.cls = RX1 ∧ yX1_numberS.cls ≠ "java/lang/invoke/MethodHandle" ∧ yX1_numberS.cls ≠ "java/lang/invoke/VarHandle" ∧ (parseMethodDescriptor yX1_numberS.desc).map (fun d => d.parameters.length) = some 1 := by decide +kernel
def wsX3_writePart : List Cond := .code yX3_writePart cX3_writePart 6 none :: BIG
theorem wX3_writePart : ∀ w ∈ wsX3_writePart, w ∈ BIG := in_c q_t2_124 (fun _ h => h)
theorem hX3_writePart : yX3_writePart.cls = RX3 ∧ yX3_writePart.cls ≠ "java/lang/invoke/MethodHandle" ∧ yX3_writePart.cls ≠ "java/lang/invoke/VarHandle" ∧ (parseMethodDescriptor yX3_writePart.desc).map (fun d => d.parameters.length) = some 3 := by decide +kernel
def wsX3_partMask : List Cond := .code yX3_partMask cX3_partMask 1 (some .int) :: BIG
theorem wX3_partMask : ∀ w ∈ wsX3_partMask, w ∈ BIG := in_c q_t2_127 (fun _ h => h)
theorem hX3_partMask : yX3_partMask.cls = RX3 ∧ yX3_partMask.cls ≠ "java/lang/invoke/MethodHandle" ∧ yX3_partMask.cls ≠ "java/lang/invoke/VarHandle" ∧ (parseMethodDescriptor yX3_partMask.desc).map (fun d => d.parameters.length) = some 1 := by decide +kernel
def wsX4_computeWithNumber : List Cond := .code yX4_computeWithNumber cX4_computeWithNumber 4 (some .boolean) :: BIG
theorem wX4_computeWithNumber : ∀ w ∈ wsX4_computeWithNumber, w ∈ BIG := in_c q_t2_132 (fun _ h => h)
theorem hX4_computeWithNumber : yX4_computeWithNumber.cls = RX4 ∧ yX4_computeWithNumber.cls ≠ "java/lang/invoke/MethodHandle" ∧ yX4_computeWithNumber.cls ≠ "java/lang/invoke/VarHandle" ∧ (parseMethodDescriptor yX4_computeWithNumber.desc).map (fun d => d.parameters.length) = some 1 := by decide +kernel
def wsX1_s : List Cond := .code yX1_s cX1_s 1 (some .int) :: BIG
theorem wX1_s : ∀ w ∈ wsX1_s, w ∈ BIG := in_c q_t2_135 (fun _ h => h)
theorem hX1_s : yX1_s.cls = RX1 ∧ yX1_s.cls ≠ "java/lang/invoke/MethodHandle" ∧ yX1_s.cls ≠ "java/lang/invoke/VarHandle" ∧ (parseMethodDescriptor yX1_s.desc).map (fun d => d.parameters.length) = some 1 := by decide +kernel
def wsX0_basic : List Cond := .code yX0_basic cX0_basic 3 (some .int) :: BIG
theorem wX0_basic : ∀ w ∈ wsX0_basic, w ∈ BIG := in_c q_t2_138 (fun _ h => h)
theorem hX0_basic : yX0_basic.cls = RX0 ∧ yX0_basic.cls ≠ "java/lang/invoke/MethodHandle" ∧ yX0_basic.cls ≠ "java/lang/invoke/VarHandle" ∧ (parseMethodDescriptor yX0_basic.desc).map (fun d => d.parameters.length) = some 3 := by decide +kernel
def wsX4_computeWithRegister : List Cond := .code yX4_computeWithRegister cX4_computeWithRegister 4 (some .boolean) :: BIG
theorem wX4_computeWithRegister : ∀ w ∈ wsX4_computeWithRegister, w ∈ BIG := in_c q_t2_142 (fun _ h => h)
theorem hX4_computeWithRegister : yX4_computeWithRegister.cls = RX4 ∧ yX4_computeWithRegister.cls ≠ "java/lang/invoke/MethodHandle" ∧ yX4_computeWithRegister.cls ≠ "java/lang/invoke/VarHandle" ∧ (parseMethodDescriptor yX4_computeWithRegister.desc).map (fun d => d.parameters.length) = some 1 := by decide +kernel
def wsX0_productOrQuotient : List Cond := .code yX0_productOrQuotient cX0_productOrQuotient 3 (some .int) :: BIG
theorem wX0_productOrQuotient : ∀ w ∈ wsX0_productOrQuotient, w ∈ BIG := in_c q_t2_145 (fun _ h => h)
theorem hX0_productOrQuotient : yX0_productOrQuotient.cls = RX0 ∧ yX0_productOrQuotient.cls ≠ "java/lang/invoke/MethodHandle" ∧ yX0_productOrQuotient.cls ≠ "java/lang/invoke/VarHandle" ∧ (parseMethodDescriptor yX0_productOrQuotient.desc).map (fun d => d.parameters.length) = some 3 := by decide +kernel
def wsX0_quotient : List Cond := .code yX0_quotient cX0_quotient 4 (some .int) :: BIG
theorem wX0_quotient : ∀ w ∈ wsX0_quotient, w ∈ BIG := in_c q_t2_148 (fun _ h => h)
theorem hX0_quotient : yX0_quotient.cls = RX0 ∧ yX0_quotient.cls ≠ "java/lang/invoke/MethodHandle" ∧ yX0_quotient.cls ≠ "java/lang/invoke/VarHandle" ∧ (parseMethodDescriptor yX0_quotient.desc).map (fun d => d.parameters.length) = some 2 := by decide +kernel
def wsX0_rest : List Cond := .code yX0_rest cX0_rest 4 (some .int) :: BIG
theorem wX0_rest : ∀ w ∈ wsX0_rest, w ∈ BIG := in_c q_t2_151 (fun _ h => h)
theorem hX0_rest : yX0_rest.cls = RX0 ∧ yX0_rest.cls ≠ "java/lang/invoke/MethodHandle" ∧ yX0_rest.cls ≠ "java/lang/invoke/VarHandle" ∧ (parseMethodDescriptor yX0_rest.desc).map (fun d => d.parameters.length) = some 2 := by decide +kernel
def wsX4_callSystem : List Cond := .code yX4_callSystem cX4_callSystem 2 (some .boolean) :: BIG
theorem wX4_callSystem : ∀ w ∈ wsX4_callSystem, w ∈ BIG := in_c q_t2_155 (fun _ h => h)
theorem hX4_callSystem : yX4_callSystem.cls = RX4 ∧ yX4_callSystem.cls ≠ "java/lang/invoke/MethodHandle" ∧ yX4_callSystem.cls ≠ "java/lang/invoke/VarHandle" ∧ (parseMethodDescriptor yX4_callSystem.desc).map (fun d => d.parameters.length) = some 1 := by decide +kernel
def wsX2_leaveTrap : List Cond := .code yX2_leaveTrap cX2_leaveTrap 1 (some .int) :: BIG
theorem wX2_leaveTrap : ∀ w ∈ wsX2_leaveTrap, w ∈ BIG := in_c q_t2_159 (fun _ h => h)
theorem hX2_leaveTrap : yX2_leaveTrap.cls = RX2 ∧ yX2_leaveTrap.cls ≠ "java/lang/invoke/MethodHandle" ∧ yX2_leaveTrap.cls ≠ "java/lang/invoke/VarHandle" ∧ (parseMethodDescriptor yX2_leaveTrap.desc).map (fun d => d.parameters.length) = some 0 := by decide +kernel
def wsX4_exchangeControl : List Cond := .code yX4_exchangeControl cX4_exchangeControl 8 (some .boolean) :: BIG
theorem wX4_exchangeControl : ∀ w ∈ wsX4_exchangeControl, w ∈ BIG := in_c q_t2_163 (fun _ h => h)
theorem hX4_exchangeControl : yX4_exchangeControl.cls = RX4 ∧ yX4_exchangeControl.cls ≠ "java/lang/invoke/MethodHandle" ∧ yX4_exchangeControl.cls ≠ "java/lang/invoke/VarHandle" ∧ (parseMethodDescriptor yX4_exchangeControl.desc).map (fun d => d.parameters.length) = some 1 := by decide +kernel
def wsX1_controlNumber : List Cond := .code yX1_controlNumber cX1_controlNumber 1 (some .int) :: BIG
theorem wX1_controlNumber : ∀ w ∈ wsX1_controlNumber, w ∈ BIG := in_c q_t2_166 (fun _ h => h)
theorem hX1_controlNumber : yX1_controlNumber.cls = RX1 ∧ yX1_controlNumber.cls ≠ "java/lang/invoke/MethodHandle" ∧ yX1_controlNumber.cls ≠ "java/lang/invoke/VarHandle" ∧ (parseMethodDescriptor yX1_controlNumber.desc).map (fun d => d.parameters.length) = some 1 := by decide +kernel
def wsX2_isWritable : List Cond := .code yX2_isWritable cX2_isWritable 1 (some .boolean) :: BIG
theorem wX2_isWritable : ∀ w ∈ wsX2_isWritable, w ∈ BIG := in_c q_t2_169 (fun _ h => h)
theorem hX2_isWritable : yX2_isWritable.cls = RX2 ∧ yX2_isWritable.cls ≠ "java/lang/invoke/MethodHandle" ∧ yX2_isWritable.cls ≠ "java/lang/invoke/VarHandle" ∧ (parseMethodDescriptor yX2_isWritable.desc).map (fun d => d.parameters.length) = some 1 := by decide +kernel
def wsX2_isKnown : List Cond := .code yX2_isKnown cX2_isKnown 1 (some .boolean) :: BIG
theorem wX2_isKnown : ∀ w ∈ wsX2_isKnown, w ∈ BIG := in_c q_t2_172 (fun _ h => h)
theorem hX2_isKnown : yX2_isKnown.cls = RX2 ∧ yX2_isKnown.cls ≠ "java/lang/invoke/MethodHandle" ∧ yX2_isKnown.cls ≠ "java/lang/invoke/VarHandle" ∧ (parseMethodDescriptor yX2_isKnown.desc).map (fun d => d.parameters.length) = some 1 := by decide +kernel
def wsX2_read : List Cond := .code yX2_read cX2_read 2 (some .int) :: BIG
theorem wX2_read : ∀ w ∈ wsX2_read, w ∈ BIG := in_c q_t2_177 (fun _ h => h)
theorem hX2_read : yX2_read.cls = RX2 ∧ yX2_read.cls ≠ "java/lang/invoke/MethodHandle" ∧ yX2_read.cls ≠ "java/lang/invoke/VarHandle" ∧ (parseMethodDescriptor yX2_read.desc).map (fun d => d.parameters.length) = some 1 := by decide +kernel
def wsX0_exchanged : List Cond := .code yX0_exchanged cX0_exchanged 3 (some .int) :: BIG
theorem wX0_exchanged : ∀ w ∈ wsX0_exchanged, w ∈ BIG := in_c q_t2_180 (fun _ h => h)
theorem hX0_exchanged : yX0_exchanged.cls = RX0 ∧ yX0_exchanged.cls ≠ "java/lang/invoke/MethodHandle" ∧ yX0_exchanged.cls ≠ "java/lang/invoke/VarHandle" ∧ (parseMethodDescriptor yX0_exchanged.desc).map (fun d => d.parameters.length) = some 3 := by decide +kernel
def wsX2_write : List Cond := .code yX2_write cX2_write 3 none :: BIG
theorem wX2_write : ∀ w ∈ wsX2_write, w ∈ BIG := in_c q_t2_184 (fun _ h => h)
theorem hX2_write : yX2_write.cls = RX2 ∧ yX2_write.cls ≠ "java/lang/invoke/MethodHandle" ∧ yX2_write.cls ≠ "java/lang/invoke/VarHandle" ∧ (parseMethodDescriptor yX2_write.desc).map (fun d => d.parameters.length) = some 2 := by decide +kernel
def wsX4_register : List Cond := .code yX4_register cX4_register 2 (some .int) :: BIG
theorem wX4_register : ∀ w ∈ wsX4_register, w ∈ BIG := in_c q_t2_192 (fun _ h => h)
theorem hX4_register : yX4_register.cls = RX4 ∧ yX4_register.cls ≠ "java/lang/invoke/MethodHandle" ∧ yX4_register.cls ≠ "java/lang/invoke/VarHandle" ∧ (parseMethodDescriptor yX4_register.desc).map (fun d => d.parameters.length) = some 1 := by decide +kernel
def wsX4_control : List Cond := .code yX4_control cX4_control 2 (some .int) :: BIG
theorem wX4_control : ∀ w ∈ wsX4_control, w ∈ BIG := in_c q_t2_215 (fun _ h => h)
theorem hX4_control : yX4_control.cls = RX4 ∧ yX4_control.cls ≠ "java/lang/invoke/MethodHandle" ∧ yX4_control.cls ≠ "java/lang/invoke/VarHandle" ∧ (parseMethodDescriptor yX4_control.desc).map (fun d => d.parameters.length) = some 1 := by decide +kernel
def wsX4_word : List Cond := .code yX4_word cX4_word 2 (some .int) :: BIG
theorem wX4_word : ∀ w ∈ wsX4_word, w ∈ BIG := in_c q_t2_223 (fun _ h => h)
theorem hX4_word : yX4_word.cls = RX4 ∧ yX4_word.cls ≠ "java/lang/invoke/MethodHandle" ∧ yX4_word.cls ≠ "java/lang/invoke/VarHandle" ∧ (parseMethodDescriptor yX4_word.desc).map (fun d => d.parameters.length) = some 1 := by decide +kernel
def wsX5_init : List Cond := .code yX5_init cX5_init 1 none :: BIG
theorem wX5_init : ∀ w ∈ wsX5_init, w ∈ BIG := in_c q_t2_229 (fun _ h => h)
theorem hX5_init : yX5_init.cls = RX5 ∧ yX5_init.cls ≠ "java/lang/invoke/MethodHandle" ∧ yX5_init.cls ≠ "java/lang/invoke/VarHandle" ∧ (parseMethodDescriptor yX5_init.desc).map (fun d => d.parameters.length) = some 0 := by decide +kernel
def wsX5_thrown : List Cond := .code yX5_thrown cX5_thrown 1 (some .int) :: BIG
theorem wX5_thrown : ∀ w ∈ wsX5_thrown, w ∈ BIG := in_c q_t3_40 (fun _ h => h)
theorem hX5_thrown : yX5_thrown.cls = RX5 ∧ yX5_thrown.cls ≠ "java/lang/invoke/MethodHandle" ∧ yX5_thrown.cls ≠ "java/lang/invoke/VarHandle" ∧ (parseMethodDescriptor yX5_thrown.desc).map (fun d => d.parameters.length) = some 0 := by decide +kernel
def wsX5_set : List Cond := .code yX5_set cX5_set 3 (some .boolean) :: BIG
theorem wX5_set : ∀ w ∈ wsX5_set, w ∈ BIG := in_c q_t3_44 (fun _ h => h)
theorem hX5_set : yX5_set.cls = RX5 ∧ yX5_set.cls ≠ "java/lang/invoke/MethodHandle" ∧ yX5_set.cls ≠ "java/lang/invoke/VarHandle" ∧ (parseMethodDescriptor yX5_set.desc).map (fun d => d.parameters.length) = some 2 := by decide +kernel
def wsX5_isAddress : List Cond := .code yX5_isAddress cX5_isAddress 1 (some .boolean) :: BIG
theorem wX5_isAddress : ∀ w ∈ wsX5_isAddress, w ∈ BIG := in_c q_t3_47 (fun _ h => h)
theorem hX5_isAddress : yX5_isAddress.cls = RX5 ∧ yX5_isAddress.cls ≠ "java/lang/invoke/MethodHandle" ∧ yX5_isAddress.cls ≠ "java/lang/invoke/VarHandle" ∧ (parseMethodDescriptor yX5_isAddress.desc).map (fun d => d.parameters.length) = some 1 := by decide +kernel
def wsX5_put : List Cond := .code yX5_put cX5_put 3 (some .boolean) :: BIG
theorem wX5_put : ∀ w ∈ wsX5_put, w ∈ BIG := in_c q_t3_51 (fun _ h => h)
theorem hX5_put : yX5_put.cls = RX5 ∧ yX5_put.cls ≠ "java/lang/invoke/MethodHandle" ∧ yX5_put.cls ≠ "java/lang/invoke/VarHandle" ∧ (parseMethodDescriptor yX5_put.desc).map (fun d => d.parameters.length) = some 2 := by decide +kernel
def wsX5_line : List Cond := .code yX5_line cX5_line 2 none :: BIG
theorem wX5_line : ∀ w ∈ wsX5_line, w ∈ BIG := in_c q_t3_55 (fun _ h => h)
theorem hX5_line : yX5_line.cls = RX5 ∧ yX5_line.cls ≠ "java/lang/invoke/MethodHandle" ∧ yX5_line.cls ≠ "java/lang/invoke/VarHandle" ∧ (parseMethodDescriptor yX5_line.desc).map (fun d => d.parameters.length) = some 1 := by decide +kernel
def wsX5_run : List Cond := .code yX5_run cX5_run 3 (some .int) :: BIG
theorem wX5_run : ∀ w ∈ wsX5_run, w ∈ BIG := in_c q_t3_59 (fun _ h => h)
theorem hX5_run : yX5_run.cls = RX5 ∧ yX5_run.cls ≠ "java/lang/invoke/MethodHandle" ∧ yX5_run.cls ≠ "java/lang/invoke/VarHandle" ∧ (parseMethodDescriptor yX5_run.desc).map (fun d => d.parameters.length) = some 1 := by decide +kernel
def wsX5_raise : List Cond := .code yX5_raise cX5_raise 2 (some .int) :: BIG
theorem wX5_raise : ∀ w ∈ wsX5_raise, w ∈ BIG := in_c q_t3_63 (fun _ h => h)
theorem hX5_raise : yX5_raise.cls = RX5 ∧ yX5_raise.cls ≠ "java/lang/invoke/MethodHandle" ∧ yX5_raise.cls ≠ "java/lang/invoke/VarHandle" ∧ (parseMethodDescriptor yX5_raise.desc).map (fun d => d.parameters.length) = some 1 := by decide +kernel
def wsX5_step : List Cond := .code yX5_step cX5_step 2 none :: BIG
theorem wX5_step : ∀ w ∈ wsX5_step, w ∈ BIG := in_c q_t3_68 (fun _ h => h)
theorem hX5_step : yX5_step.cls = RX5 ∧ yX5_step.cls ≠ "java/lang/invoke/MethodHandle" ∧ yX5_step.cls ≠ "java/lang/invoke/VarHandle" ∧ (parseMethodDescriptor yX5_step.desc).map (fun d => d.parameters.length) = some 0 := by decide +kernel
def wsX5_trap : List Cond := .code yX5_trap cX5_trap 3 none :: BIG
theorem wX5_trap : ∀ w ∈ wsX5_trap, w ∈ BIG := in_c q_t3_73 (fun _ h => h)
theorem hX5_trap : yX5_trap.cls = RX5 ∧ yX5_trap.cls ≠ "java/lang/invoke/MethodHandle" ∧ yX5_trap.cls ≠ "java/lang/invoke/VarHandle" ∧ (parseMethodDescriptor yX5_trap.desc).map (fun d => d.parameters.length) = some 2 := by decide +kernel
def wsX5_instruct : List Cond := .code yX5_instruct cX5_instruct 1 none :: BIG
theorem wX5_instruct : ∀ w ∈ wsX5_instruct, w ∈ BIG := in_c q_t3_77 (fun _ h => h)
theorem hX5_instruct : yX5_instruct.cls = RX5 ∧ yX5_instruct.cls ≠ "java/lang/invoke/MethodHandle" ∧ yX5_instruct.cls ≠ "java/lang/invoke/VarHandle" ∧ (parseMethodDescriptor yX5_instruct.desc).map (fun d => d.parameters.length) = some 0 := by decide +kernel
def wsX5_bits : List Cond := .code yX5_bits cX5_bits 3 (some .int) :: BIG
theorem wX5_bits : ∀ w ∈ wsX5_bits, w ∈ BIG := in_c q_t3_81 (fun _ h => h)
theorem hX5_bits : yX5_bits.cls = RX5 ∧ yX5_bits.cls ≠ "java/lang/invoke/MethodHandle" ∧ yX5_bits.cls ≠ "java/lang/invoke/VarHandle" ∧ (parseMethodDescriptor yX5_bits.desc).map (fun d => d.parameters.length) = some 2 := by decide +kernel
def wsX5_numberU : List Cond := .code yX5_numberU cX5_numberU 1 (some .int) :: BIG
theorem wX5_numberU : ∀ w ∈ wsX5_numberU, w ∈ BIG := in_c q_t3_85 (fun _ h => h)
theorem hX5_numberU : yX5_numberU.cls = RX5 ∧ yX5_numberU.cls ≠ "java/lang/invoke/MethodHandle" ∧ yX5_numberU.cls ≠ "java/lang/invoke/VarHandle" ∧ (parseMethodDescriptor yX5_numberU.desc).map (fun d => d.parameters.length) = some 0 := by decide +kernel
def wsX5_lay : List Cond := .code yX5_lay cX5_lay 3 none :: BIG
theorem wX5_lay : ∀ w ∈ wsX5_lay, w ∈ BIG := in_c q_t3_89 (fun _ h => h)
theorem hX5_lay : yX5_lay.cls = RX5 ∧ yX5_lay.cls ≠ "java/lang/invoke/MethodHandle" ∧ yX5_lay.cls ≠ "java/lang/invoke/VarHandle" ∧ (parseMethodDescriptor yX5_lay.desc).map (fun d => d.parameters.length) = some 1 := by decide +kernel
def wsX5_numberJ : List Cond := .code yX5_numberJ cX5_numberJ 1 (some .int) :: BIG
theorem wX5_numberJ : ∀ w ∈ wsX5_numberJ, w ∈ BIG := in_c q_t3_93 (fun _ h => h)
theorem hX5_numberJ : yX5_numberJ.cls = RX5 ∧ yX5_numberJ.cls ≠ "java/lang/invoke/MethodHandle" ∧ yX5_numberJ.cls ≠ "java/lang/invoke/VarHandle" ∧ (parseMethodDescriptor yX5_numberJ.desc).map (fun d => d.parameters.length) = some 0 := by decide +kernel
def wsX5_jump : List Cond := .code yX5_jump cX5_jump 3 none :: BIG
theorem wX5_jump : ∀ w ∈ wsX5_jump, w ∈ BIG := in_c q_t3_97 (fun _ h => h)
theorem hX5_jump : yX5_jump.cls = RX5 ∧ yX5_jump.cls ≠ "java/lang/invoke/MethodHandle" ∧ yX5_jump.cls ≠ "java/lang/invoke/VarHandle" ∧ (parseMethodDescriptor yX5_jump.desc).map (fun d => d.parameters.length) = some 1 := by decide +kernel
def wsX5_goes : List Cond := .code yX5_goes cX5_goes 2 (some .boolean) :: BIG
theorem wX5_goes : ∀ w ∈ wsX5_goes, w ∈ BIG := in_c q_t3_101 (fun _ h => h)
theorem hX5_goes : yX5_goes.cls = RX5 ∧ yX5_goes.cls ≠ "java/lang/invoke/MethodHandle" ∧ yX5_goes.cls ≠ "java/lang/invoke/VarHandle" ∧ (parseMethodDescriptor yX5_goes.desc).map (fun d => d.parameters.length) = some 1 := by decide +kernel
def wsX5_none : List Cond := .code yX5_none cX5_none 1 none :: BIG
theorem wX5_none : ∀ w ∈ wsX5_none, w ∈ BIG := in_c q_t3_105 (fun _ h => h)
theorem hX5_none : yX5_none.cls = RX5 ∧ yX5_none.cls ≠ "java/lang/invoke/MethodHandle" ∧ yX5_none.cls ≠ "java/lang/invoke/VarHandle" ∧ (parseMethodDescriptor yX5_none.desc).map (fun d => d.parameters.length) = some 0 := by decide +kernel
def wsX5_a : List Cond := .code yX5_a cX5_a 1 (some .int) :: BIG
theorem wX5_a : ∀ w ∈ wsX5_a, w ∈ BIG := in_c q_t3_109 (fun _ h => h)
theorem hX5_a : yX5_a.cls = RX5 ∧ yX5_a.cls ≠ "java/lang/invoke/MethodHandle" ∧ yX5_a.cls ≠ "java/lang/invoke/VarHandle" ∧ (parseMethodDescriptor yX5_a.desc).map (fun d => d.parameters.length) = some 0 := by decide +kernel
def wsX5_numberI : List Cond := .code yX5_numberI cX5_numberI 1 (some .int) :: BIG
theorem wX5_numberI : ∀ w ∈ wsX5_numberI, w ∈ BIG := in_c q_t3_113 (fun _ h => h)
theorem hX5_numberI : yX5_numberI.cls = RX5 ∧ yX5_numberI.cls ≠ "java/lang/invoke/MethodHandle" ∧ yX5_numberI.cls ≠ "java/lang/invoke/VarHandle" ∧ (parseMethodDescriptor yX5_numberI.desc).map (fun d => d.parameters.length) = some 0 := by decide +kernel
def wsX5_branch : List Cond := .code yX5_branch cX5_branch 4 none :: BIG
theorem wX5_branch : ∀ w ∈ wsX5_branch, w ∈ BIG := in_c q_t3_117 (fun _ h => h)
theorem hX5_branch : yX5_branch.cls = RX5 ∧ yX5_branch.cls ≠ "java/lang/invoke/MethodHandle" ∧ yX5_branch.cls ≠ "java/lang/invoke/VarHandle" ∧ (parseMethodDescriptor yX5_branch.desc).map (fun d => d.parameters.length) = some 0 := by decide +kernel
def wsX5_b : List Cond := .code yX5_b cX5_b 1 (some .int) :: BIG
theorem wX5_b : ∀ w ∈ wsX5_b, w ∈ BIG := in_c q_t3_121 (fun _ h => h)
theorem hX5_b : yX5_b.cls = RX5 ∧ yX5_b.cls ≠ "java/lang/invoke/MethodHandle" ∧ yX5_b.cls ≠ "java/lang/invoke/VarHandle" ∧ (parseMethodDescriptor yX5_b.desc).map (fun d => d.parameters.length) = some 0 := by decide +kernel
def wsX5_isBelow : List Cond := .code yX5_isBelow cX5_isBelow 2 (some .boolean) :: BIG
theorem wX5_isBelow : ∀ w ∈ wsX5_isBelow, w ∈ BIG := in_c q_t3_124 (fun _ h => h)
theorem hX5_isBelow : yX5_isBelow.cls = RX5 ∧ yX5_isBelow.cls ≠ "java/lang/invoke/MethodHandle" ∧ yX5_isBelow.cls ≠ "java/lang/invoke/VarHandle" ∧ (parseMethodDescriptor yX5_isBelow.desc).map (fun d => d.parameters.length) = some 2 := by decide +kernel
def wsX5_numberB : List Cond := .code yX5_numberB cX5_numberB 1 (some .int) :: BIG
theorem wX5_numberB : ∀ w ∈ wsX5_numberB, w ∈ BIG := in_c q_t3_129 (fun _ h => h)
theorem hX5_numberB : yX5_numberB.cls = RX5 ∧ yX5_numberB.cls ≠ "java/lang/invoke/MethodHandle" ∧ yX5_numberB.cls ≠ "java/lang/invoke/VarHandle" ∧ (parseMethodDescriptor yX5_numberB.desc).map (fun d => d.parameters.length) = some 0 := by decide +kernel
def wsX5_load : List Cond := .code yX5_load cX5_load 5 none :: BIG
theorem wX5_load : ∀ w ∈ wsX5_load, w ∈ BIG := in_c q_t3_133 (fun _ h => h)
theorem hX5_load : yX5_load.cls = RX5 ∧ yX5_load.cls ≠ "java/lang/invoke/MethodHandle" ∧ yX5_load.cls ≠ "java/lang/invoke/VarHandle" ∧ (parseMethodDescriptor yX5_load.desc).map (fun d => d.parameters.length) = some 0 := by decide +kernel
def wsX5_may : List Cond := .code yX5_may cX5_may 5 (some .boolean) :: BIG
theorem wX5_may : ∀ w ∈ wsX5_may, w ∈ BIG := in_c q_t3_137 (fun _ h => h)
theorem hX5_may : yX5_may.cls = RX5 ∧ yX5_may.cls ≠ "java/lang/invoke/MethodHandle" ∧ yX5_may.cls ≠ "java/lang/invoke/VarHandle" ∧ (parseMethodDescriptor yX5_may.desc).map (fun d => d.parameters.length) = some 4 := by decide +kernel
def wsX5_store : List Cond := .code yX5_store cX5_store 6 none :: BIG
theorem wX5_store : ∀ w ∈ wsX5_store, w ∈ BIG := in_c q_t3_142 (fun _ h => h)
theorem hX5_store : yX5_store.cls = RX5 ∧ yX5_store.cls ≠ "java/lang/invoke/MethodHandle" ∧ yX5_store.cls ≠ "java/lang/invoke/VarHandle" ∧ (parseMethodDescriptor yX5_store.desc).map (fun d => d.parameters.length) = some 0 := by decide +kernel
def wsX5_numberS : List Cond := .code yX5_numberS cX5_numberS 1 (some .int) :: BIG
theorem wX5_numberS : ∀ w ∈ wsX5_numberS, w ∈ BIG := in_c q_t3_146 (fun _ h => h)
theorem hX5_numberS : yX5_numberS.cls = RX5 ∧ yX5_numberS.cls ≠ "java/lang/invoke/MethodHandle" ∧ yX5_numberS.cls ≠ "java/lang/invoke/VarHandle" ∧ (parseMethodDescriptor yX5_numberS.desc).map (fun d => d.parameters.length) = some 0 := by decide +kernel
def wsX5_withNumber : List Cond := .code yX5_withNumber cX5_withNumber 5 none :: BIG
theorem wX5_withNumber : ∀ w ∈ wsX5_withNumber, w ∈ BIG := in_c q_t3_150 (fun _ h => h)
theorem hX5_withNumber : yX5_withNumber.cls = RX5 ∧ yX5_withNumber.cls ≠ "java/lang/invoke/MethodHandle" ∧ yX5_withNumber.cls ≠ "java/lang/invoke/VarHandle" ∧ (parseMethodDescriptor yX5_withNumber.desc).map (fun d => d.parameters.length) = some 0 := by decide +kernel
def wsX5_withRegister : List Cond := .code yX5_withRegister cX5_withRegister 5 none :: BIG
theorem wX5_withRegister : ∀ w ∈ wsX5_withRegister, w ∈ BIG := in_c q_t3_154 (fun _ h => h)
theorem hX5_withRegister : yX5_withRegister.cls = RX5 ∧ yX5_withRegister.cls ≠ "java/lang/invoke/MethodHandle" ∧ yX5_withRegister.cls ≠ "java/lang/invoke/VarHandle" ∧ (parseMethodDescriptor yX5_withRegister.desc).map (fun d => d.parameters.length) = some 0 := by decide +kernel
def wsX5_product : List Cond := .code yX5_product cX5_product 4 none :: BIG
theorem wX5_product : ∀ w ∈ wsX5_product, w ∈ BIG := in_c q_t3_158 (fun _ h => h)
theorem hX5_product : yX5_product.cls = RX5 ∧ yX5_product.cls ≠ "java/lang/invoke/MethodHandle" ∧ yX5_product.cls ≠ "java/lang/invoke/VarHandle" ∧ (parseMethodDescriptor yX5_product.desc).map (fun d => d.parameters.length) = some 3 := by decide +kernel
def wsX5_upper : List Cond := .code yX5_upper cX5_upper 10 (some .int) :: BIG
theorem wX5_upper : ∀ w ∈ wsX5_upper, w ∈ BIG := in_c q_t3_161 (fun _ h => h)
theorem hX5_upper : yX5_upper.cls = RX5 ∧ yX5_upper.cls ≠ "java/lang/invoke/MethodHandle" ∧ yX5_upper.cls ≠ "java/lang/invoke/VarHandle" ∧ (parseMethodDescriptor yX5_upper.desc).map (fun d => d.parameters.length) = some 2 := by decide +kernel
def wsX5_quotient : List Cond := .code yX5_quotient cX5_quotient 6 (some .int) :: BIG
theorem wX5_quotient : ∀ w ∈ wsX5_quotient, w ∈ BIG := in_c q_t3_164 (fun _ h => h)
theorem hX5_quotient : yX5_quotient.cls = RX5 ∧ yX5_quotient.cls ≠ "java/lang/invoke/MethodHandle" ∧ yX5_quotient.cls ≠ "java/lang/invoke/VarHandle" ∧ (parseMethodDescriptor yX5_quotient.desc).map (fun d => d.parameters.length) = some 2 := by decide +kernel
def wsX5_system : List Cond := .code yX5_system cX5_system 2 none :: BIG
theorem wX5_system : ∀ w ∈ wsX5_system, w ∈ BIG := in_c q_t3_168 (fun _ h => h)
theorem hX5_system : yX5_system.cls = RX5 ∧ yX5_system.cls ≠ "java/lang/invoke/MethodHandle" ∧ yX5_system.cls ≠ "java/lang/invoke/VarHandle" ∧ (parseMethodDescriptor yX5_system.desc).map (fun d => d.parameters.length) = some 0 := by decide +kernel
def wsX5_change : List Cond := .code yX5_change cX5_change 7 none :: BIG
theorem wX5_change : ∀ w ∈ wsX5_change, w ∈ BIG := in_c q_t3_174 (fun _ h => h)
theorem hX5_change : yX5_change.cls = RX5 ∧ yX5_change.cls ≠ "java/lang/invoke/MethodHandle" ∧ yX5_change.cls ≠ "java/lang/invoke/VarHandle" ∧ (parseMethodDescriptor yX5_change.desc).map (fun d => d.parameters.length) = some 0 := by decide +kernel
def wsX5_controlOf : List Cond := .code yX5_controlOf cX5_controlOf 1 (some .int) :: BIG
theorem wX5_controlOf : ∀ w ∈ wsX5_controlOf, w ∈ BIG := in_c q_t3_177 (fun _ h => h)
theorem hX5_controlOf : yX5_controlOf.cls = RX5 ∧ yX5_controlOf.cls ≠ "java/lang/invoke/MethodHandle" ∧ yX5_controlOf.cls ≠ "java/lang/invoke/VarHandle" ∧ (parseMethodDescriptor yX5_controlOf.desc).map (fun d => d.parameters.length) = some 1 := by decide +kernel
def wsX5_has : List Cond := .code yX5_has cX5_has 2 (some .int) :: BIG
theorem wX5_has : ∀ w ∈ wsX5_has, w ∈ BIG := in_c q_t3_181 (fun _ h => h)
theorem hX5_has : yX5_has.cls = RX5 ∧ yX5_has.cls ≠ "java/lang/invoke/MethodHandle" ∧ yX5_has.cls ≠ "java/lang/invoke/VarHandle" ∧ (parseMethodDescriptor yX5_has.desc).map (fun d => d.parameters.length) = some 1 := by decide +kernel
def wsX5_become : List Cond := .code yX5_become cX5_become 3 none :: BIG
theorem wX5_become : ∀ w ∈ wsX5_become, w ∈ BIG := in_c q_t3_185 (fun _ h => h)
theorem hX5_become : yX5_become.cls = RX5 ∧ yX5_become.cls ≠ "java/lang/invoke/MethodHandle" ∧ yX5_become.cls ≠ "java/lang/invoke/VarHandle" ∧ (parseMethodDescriptor yX5_become.desc).map (fun d => d.parameters.length) = some 2 := by decide +kernel
def wsX5_reset : List Cond := .code yX5_reset cX5_reset 3 none :: BIG
theorem wX5_reset : ∀ w ∈ wsX5_reset, w ∈ BIG := in_c q_t3_189 (fun _ h => h)
theorem hX5_reset : yX5_reset.cls = RX5 ∧ yX5_reset.cls ≠ "java/lang/invoke/MethodHandle" ∧ yX5_reset.cls ≠ "java/lang/invoke/VarHandle" ∧ (parseMethodDescriptor yX5_reset.desc).map (fun d => d.parameters.length) = some 1 := by decide +kernel
def wsX5_register : List Cond := .code yX5_register cX5_register 2 (some .int) :: BIG
theorem wX5_register : ∀ w ∈ wsX5_register, w ∈ BIG := in_c q_t3_193 (fun _ h => h)
theorem hX5_register : yX5_register.cls = RX5 ∧ yX5_register.cls ≠ "java/lang/invoke/MethodHandle" ∧ yX5_register.cls ≠ "java/lang/invoke/VarHandle" ∧ (parseMethodDescriptor yX5_register.desc).map (fun d => d.parameters.length) = some 1 := by decide +kernel
def wsX5_control : List Cond := .code yX5_control cX5_control 3 (some .int) :: BIG
theorem wX5_control : ∀ w ∈ wsX5_control, w ∈ BIG := in_c q_t3_197 (fun _ h => h)
theorem hX5_control : yX5_control.cls = RX5 ∧ yX5_control.cls ≠ "java/lang/invoke/MethodHandle" ∧ yX5_control.cls ≠ "java/lang/invoke/VarHandle" ∧ (parseMethodDescriptor yX5_control.desc).map (fun d => d.parameters.length) = some 1 := by decide +kernel
def wsX5_word : List Cond := .code yX5_word cX5_word 2 (some .int) :: BIG
theorem wX5_word : ∀ w ∈ wsX5_word, w ∈ BIG := in_c q_t3_201 (fun _ h => h)
theorem hX5_word : yX5_word.cls = RX5 ∧ yX5_word.cls ≠ "java/lang/invoke/MethodHandle" ∧ yX5_word.cls ≠ "java/lang/invoke/VarHandle" ∧ (parseMethodDescriptor yX5_word.desc).map (fun d => d.parameters.length) = some 1 := by decide +kernel
def wsX5_state : List Cond := .code yX5_state cX5_state 2 (some .int) :: BIG
theorem wX5_state : ∀ w ∈ wsX5_state, w ∈ BIG := in_c q_t3_205 (fun _ h => h)
theorem hX5_state : yX5_state.cls = RX5 ∧ yX5_state.cls ≠ "java/lang/invoke/MethodHandle" ∧ yX5_state.cls ≠ "java/lang/invoke/VarHandle" ∧ (parseMethodDescriptor yX5_state.desc).map (fun d => d.parameters.length) = some 1 := by decide +kernel
