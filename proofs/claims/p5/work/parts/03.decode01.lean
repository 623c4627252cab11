theorem dX4_init_0 : decode cX4_init 0 = .ok (.aload_n 0, 1) := by decide +kernel
theorem dX4_init_1 : decode cX4_init 1 = .ok (.invokespecial 1, 3) := by decide +kernel
theorem dX4_init_4 : decode cX4_init 4 = .ok (.aload_n 0, 1) := by decide +kernel
theorem dX4_init_5 : decode cX4_init 5 = .ok (.new 7, 3) := by decide +kernel
theorem dX4_init_8 : decode cX4_init 8 = .ok (.dup, 1) := by decide +kernel
theorem dX4_init_9 : decode cX4_init 9 = .ok (.invokespecial 9, 3) := by decide +kernel
theorem dX4_init_12 : decode cX4_init 12 = .ok (.putfield 10, 3) := by decide +kernel
theorem dX4_init_15 : decode cX4_init 15 = .ok (.aload_n 0, 1) := by decide +kernel
theorem dX4_init_16 : decode cX4_init 16 = .ok (.new 16, 3) := by decide +kernel
theorem dX4_init_19 : decode cX4_init 19 = .ok (.dup, 1) := by decide +kernel
theorem dX4_init_20 : decode cX4_init 20 = .ok (.invokespecial 18, 3) := by decide +kernel
theorem dX4_init_23 : decode cX4_init 23 = .ok (.putfield 19, 3) := by decide +kernel
theorem dX4_init_26 : decode cX4_init 26 = .ok (.aload_n 0, 1) := by decide +kernel
theorem dX4_init_27 : decode cX4_init 27 = .ok (.bipush 32, 2) := by decide +kernel
theorem dX4_init_29 : decode cX4_init 29 = .ok (.newarray .int, 2) := by decide +kernel
theorem dX4_init_31 : decode cX4_init 31 = .ok (.putfield 23, 3) := by decide +kernel
theorem dX4_init_34 : decode cX4_init 34 = .ok (.return_, 1) := by decide +kernel
theorem dX3_init_0 : decode cX3_init 0 = .ok (.aload_n 0, 1) := by decide +kernel
theorem dX3_init_1 : decode cX3_init 1 = .ok (.invokespecial 1, 3) := by decide +kernel
theorem dX3_init_4 : decode cX3_init 4 = .ok (.aload_n 0, 1) := by decide +kernel
theorem dX3_init_5 : decode cX3_init 5 = .ok (.sipush 1024, 3) := by decide +kernel
theorem dX3_init_8 : decode cX3_init 8 = .ok (.newarray .int, 2) := by decide +kernel
theorem dX3_init_10 : decode cX3_init 10 = .ok (.putfield 9, 3) := by decide +kernel
theorem dX3_init_13 : decode cX3_init 13 = .ok (.return_, 1) := by decide +kernel
theorem dX2_init_0 : decode cX2_init 0 = .ok (.aload_n 0, 1) := by decide +kernel
theorem dX2_init_1 : decode cX2_init 1 = .ok (.invokespecial 1, 3) := by decide +kernel
theorem dX2_init_4 : decode cX2_init 4 = .ok (.return_, 1) := by decide +kernel
theorem dX4_set_0 : decode cX4_set 0 = .ok (.iload_n 1, 1) := by decide +kernel
theorem dX4_set_1 : decode cX4_set 1 = .ok (.invokestatic 27, 3) := by decide +kernel
theorem dX4_set_4 : decode cX4_set 4 = .ok (.ifCond .ne 5, 3) := by decide +kernel
theorem dX4_set_7 : decode cX4_set 7 = .ok (.iconst 0, 1) := by decide +kernel
theorem dX4_set_8 : decode cX4_set 8 = .ok (.ireturn, 1) := by decide +kernel
theorem dX4_set_9 : decode cX4_set 9 = .ok (.aload_n 0, 1) := by decide +kernel
theorem dX4_set_10 : decode cX4_set 10 = .ok (.getfield 10, 3) := by decide +kernel
theorem dX4_set_13 : decode cX4_set 13 = .ok (.iload_n 1, 1) := by decide +kernel
theorem dX4_set_14 : decode cX4_set 14 = .ok (.iload_n 2, 1) := by decide +kernel
theorem dX4_set_15 : decode cX4_set 15 = .ok (.invokevirtual 31, 3) := by decide +kernel
theorem dX4_set_18 : decode cX4_set 18 = .ok (.iconst 1, 1) := by decide +kernel
theorem dX4_set_19 : decode cX4_set 19 = .ok (.ireturn, 1) := by decide +kernel
theorem dX3_isWordAddress_0 : decode cX3_isWordAddress 0 = .ok (.iload_n 0, 1) := by decide +kernel
theorem dX3_isWordAddress_1 : decode cX3_isWordAddress 1 = .ok (.invokestatic 13, 3) := by decide +kernel
theorem dX3_isWordAddress_4 : decode cX3_isWordAddress 4 = .ok (.ifCond .eq 13, 3) := by decide +kernel
theorem dX3_isWordAddress_7 : decode cX3_isWordAddress 7 = .ok (.iload_n 0, 1) := by decide +kernel
theorem dX3_isWordAddress_8 : decode cX3_isWordAddress 8 = .ok (.iconst 3, 1) := by decide +kernel
theorem dX3_isWordAddress_9 : decode cX3_isWordAddress 9 = .ok (.iand, 1) := by decide +kernel
theorem dX3_isWordAddress_10 : decode cX3_isWordAddress 10 = .ok (.ifCond .ne 7, 3) := by decide +kernel
theorem dX3_isWordAddress_13 : decode cX3_isWordAddress 13 = .ok (.iconst 1, 1) := by decide +kernel
theorem dX3_isWordAddress_14 : decode cX3_isWordAddress 14 = .ok (.goto 4, 3) := by decide +kernel
theorem dX3_isWordAddress_17 : decode cX3_isWordAddress 17 = .ok (.iconst 0, 1) := by decide +kernel
theorem dX3_isWordAddress_18 : decode cX3_isWordAddress 18 = .ok (.ireturn, 1) := by decide +kernel
theorem dX3_holds_0 : decode cX3_holds 0 = .ok (.iload_n 0, 1) := by decide +kernel
theorem dX3_holds_1 : decode cX3_holds 1 = .ok (.ifCond .lt 14, 3) := by decide +kernel
theorem dX3_holds_4 : decode cX3_holds 4 = .ok (.iload_n 0, 1) := by decide +kernel
theorem dX3_holds_5 : decode cX3_holds 5 = .ok (.sipush 4096, 3) := by decide +kernel
theorem dX3_holds_8 : decode cX3_holds 8 = .ok (.if_icmp .ge 7, 3) := by decide +kernel
theorem dX3_holds_11 : decode cX3_holds 11 = .ok (.iconst 1, 1) := by decide +kernel
theorem dX3_holds_12 : decode cX3_holds 12 = .ok (.goto 4, 3) := by decide +kernel
theorem dX3_holds_15 : decode cX3_holds 15 = .ok (.iconst 0, 1) := by decide +kernel
theorem dX3_holds_16 : decode cX3_holds 16 = .ok (.ireturn, 1) := by decide +kernel
theorem dX3_writeWord_0 : decode cX3_writeWord 0 = .ok (.iload_n 1, 1) := by decide +kernel
theorem dX3_writeWord_1 : decode cX3_writeWord 1 = .ok (.iconst 2, 1) := by decide +kernel
theorem dX3_writeWord_2 : decode cX3_writeWord 2 = .ok (.iushr, 1) := by decide +kernel
theorem dX3_writeWord_3 : decode cX3_writeWord 3 = .ok (.istore_n 3, 1) := by decide +kernel
theorem dX3_writeWord_4 : decode cX3_writeWord 4 = .ok (.iload_n 3, 1) := by decide +kernel
theorem dX3_writeWord_5 : decode cX3_writeWord 5 = .ok (.aload_n 0, 1) := by decide +kernel
theorem dX3_writeWord_6 : decode cX3_writeWord 6 = .ok (.getfield 9, 3) := by decide +kernel
theorem dX3_writeWord_9 : decode cX3_writeWord 9 = .ok (.arraylength, 1) := by decide +kernel
theorem dX3_writeWord_10 : decode cX3_writeWord 10 = .ok (.if_icmp .ge 10, 3) := by decide +kernel
theorem dX3_writeWord_13 : decode cX3_writeWord 13 = .ok (.aload_n 0, 1) := by decide +kernel
theorem dX3_writeWord_14 : decode cX3_writeWord 14 = .ok (.getfield 9, 3) := by decide +kernel
theorem dX3_writeWord_17 : decode cX3_writeWord 17 = .ok (.iload_n 3, 1) := by decide +kernel
theorem dX3_writeWord_18 : decode cX3_writeWord 18 = .ok (.iload_n 2, 1) := by decide +kernel
theorem dX3_writeWord_19 : decode cX3_writeWord 19 = .ok (.iastore, 1) := by decide +kernel
theorem dX3_writeWord_20 : decode cX3_writeWord 20 = .ok (.return_, 1) := by decide +kernel
theorem dX4_put_0 : decode cX4_put 0 = .ok (.iload_n 1, 1) := by decide +kernel
theorem dX4_put_1 : decode cX4_put 1 = .ok (.bipush 32, 2) := by decide +kernel
theorem dX4_put_3 : decode cX4_put 3 = .ok (.if_icmp .ne 9, 3) := by decide +kernel
theorem dX4_put_6 : decode cX4_put 6 = .ok (.aload_n 0, 1) := by decide +kernel
theorem dX4_put_7 : decode cX4_put 7 = .ok (.iload_n 2, 1) := by decide +kernel
theorem dX4_put_8 : decode cX4_put 8 = .ok (.invokevirtual 35, 3) := by decide +kernel
theorem dX4_put_11 : decode cX4_put 11 = .ok (.ireturn, 1) := by decide +kernel
theorem dX4_put_12 : decode cX4_put 12 = .ok (.iload_n 1, 1) := by decide +kernel
theorem dX4_put_13 : decode cX4_put 13 = .ok (.iconst 1, 1) := by decide +kernel
theorem dX4_put_14 : decode cX4_put 14 = .ok (.if_icmp .lt 9, 3) := by decide +kernel
theorem dX4_put_17 : decode cX4_put 17 = .ok (.iload_n 1, 1) := by decide +kernel
theorem dX4_put_18 : decode cX4_put 18 = .ok (.bipush 32, 2) := by decide +kernel
theorem dX4_put_20 : decode cX4_put 20 = .ok (.if_icmp .lt 5, 3) := by decide +kernel
theorem dX4_put_23 : decode cX4_put 23 = .ok (.iconst 0, 1) := by decide +kernel
theorem dX4_put_24 : decode cX4_put 24 = .ok (.ireturn, 1) := by decide +kernel
theorem dX4_put_25 : decode cX4_put 25 = .ok (.aload_n 0, 1) := by decide +kernel
theorem dX4_put_26 : decode cX4_put 26 = .ok (.iload_n 1, 1) := by decide +kernel
theorem dX4_put_27 : decode cX4_put 27 = .ok (.iload_n 2, 1) := by decide +kernel
theorem dX4_put_28 : decode cX4_put 28 = .ok (.invokevirtual 38, 3) := by decide +kernel
theorem dX4_put_31 : decode cX4_put 31 = .ok (.iconst 1, 1) := by decide +kernel
theorem dX4_put_32 : decode cX4_put 32 = .ok (.ireturn, 1) := by decide +kernel
theorem dX4_putPc_0 : decode cX4_putPc 0 = .ok (.iload_n 1, 1) := by decide +kernel
theorem dX4_putPc_1 : decode cX4_putPc 1 = .ok (.iconst 3, 1) := by decide +kernel
theorem dX4_putPc_2 : decode cX4_putPc 2 = .ok (.iand, 1) := by decide +kernel
theorem dX4_putPc_3 : decode cX4_putPc 3 = .ok (.ifCond .eq 5, 3) := by decide +kernel
theorem dX4_putPc_6 : decode cX4_putPc 6 = .ok (.iconst 0, 1) := by decide +kernel
theorem dX4_putPc_7 : decode cX4_putPc 7 = .ok (.ireturn, 1) := by decide +kernel
theorem dX4_putPc_8 : decode cX4_putPc 8 = .ok (.aload_n 0, 1) := by decide +kernel
theorem dX4_putPc_9 : decode cX4_putPc 9 = .ok (.iload_n 1, 1) := by decide +kernel
theorem dX4_putPc_10 : decode cX4_putPc 10 = .ok (.putfield 70, 3) := by decide +kernel
theorem dX4_putPc_13 : decode cX4_putPc 13 = .ok (.aload_n 0, 1) := by decide +kernel
theorem dX4_putPc_14 : decode cX4_putPc 14 = .ok (.iconst 0, 1) := by decide +kernel
theorem dX4_putPc_15 : decode cX4_putPc 15 = .ok (.putfield 55, 3) := by decide +kernel
theorem dX4_putPc_18 : decode cX4_putPc 18 = .ok (.iconst 1, 1) := by decide +kernel
theorem dX4_putPc_19 : decode cX4_putPc 19 = .ok (.ireturn, 1) := by decide +kernel
theorem dX4_writeRegister_0 : decode cX4_writeRegister 0 = .ok (.iload_n 1, 1) := by decide +kernel
theorem dX4_writeRegister_1 : decode cX4_writeRegister 1 = .ok (.iconst 1, 1) := by decide +kernel
theorem dX4_writeRegister_2 : decode cX4_writeRegister 2 = .ok (.if_icmp .lt 19, 3) := by decide +kernel
theorem dX4_writeRegister_5 : decode cX4_writeRegister 5 = .ok (.iload_n 1, 1) := by decide +kernel
theorem dX4_writeRegister_6 : decode cX4_writeRegister 6 = .ok (.aload_n 0, 1) := by decide +kernel
theorem dX4_writeRegister_7 : decode cX4_writeRegister 7 = .ok (.getfield 23, 3) := by decide +kernel
theorem dX4_writeRegister_10 : decode cX4_writeRegister 10 = .ok (.arraylength, 1) := by decide +kernel
theorem dX4_writeRegister_11 : decode cX4_writeRegister 11 = .ok (.if_icmp .ge 10, 3) := by decide +kernel
theorem dX4_writeRegister_14 : decode cX4_writeRegister 14 = .ok (.aload_n 0, 1) := by decide +kernel
theorem dX4_writeRegister_15 : decode cX4_writeRegister 15 = .ok (.getfield 23, 3) := by decide +kernel
theorem dX4_writeRegister_18 : decode cX4_writeRegister 18 = .ok (.iload_n 1, 1) := by decide +kernel
theorem dX4_writeRegister_19 : decode cX4_writeRegister 19 = .ok (.iload_n 2, 1) := by decide +kernel
theorem dX4_writeRegister_20 : decode cX4_writeRegister 20 = .ok (.iastore, 1) := by decide +kernel
theorem dX4_writeRegister_21 : decode cX4_writeRegister 21 = .ok (.return_, 1) := by decide +kernel
theorem dX4_line_0 : decode cX4_line 0 = .ok (.aload_n 0, 1) := by decide +kernel
theorem dX4_line_1 : decode cX4_line 1 = .ok (.getfield 19, 3) := by decide +kernel
theorem dX4_line_4 : decode cX4_line 4 = .ok (.iload_n 1, 1) := by decide +kernel
theorem dX4_line_5 : decode cX4_line 5 = .ok (.putfield 41, 3) := by decide +kernel
theorem dX4_line_8 : decode cX4_line 8 = .ok (.return_, 1) := by decide +kernel
theorem dX4_reset_0 : decode cX4_reset 0 = .ok (.aload_n 0, 1) := by decide +kernel
theorem dX4_reset_1 : decode cX4_reset 1 = .ok (.getfield 23, 3) := by decide +kernel
theorem dX4_reset_4 : decode cX4_reset 4 = .ok (.iconst 0, 1) := by decide +kernel
theorem dX4_reset_5 : decode cX4_reset 5 = .ok (.invokestatic 61, 3) := by decide +kernel
theorem dX4_reset_8 : decode cX4_reset 8 = .ok (.aload_n 0, 1) := by decide +kernel
theorem dX4_reset_9 : decode cX4_reset 9 = .ok (.getfield 19, 3) := by decide +kernel
theorem dX4_reset_12 : decode cX4_reset 12 = .ok (.invokevirtual 67, 3) := by decide +kernel
theorem dX4_reset_15 : decode cX4_reset 15 = .ok (.aload_n 0, 1) := by decide +kernel
theorem dX4_reset_16 : decode cX4_reset 16 = .ok (.iconst 0, 1) := by decide +kernel
theorem dX4_reset_17 : decode cX4_reset 17 = .ok (.putfield 70, 3) := by decide +kernel
theorem dX4_reset_20 : decode cX4_reset 20 = .ok (.aload_n 0, 1) := by decide +kernel
theorem dX4_reset_21 : decode cX4_reset 21 = .ok (.iconst 0, 1) := by decide +kernel
theorem dX4_reset_22 : decode cX4_reset 22 = .ok (.putfield 55, 3) := by decide +kernel
theorem dX4_reset_25 : decode cX4_reset 25 = .ok (.aload_n 0, 1) := by decide +kernel
theorem dX4_reset_26 : decode cX4_reset 26 = .ok (.iconst 0, 1) := by decide +kernel
theorem dX4_reset_27 : decode cX4_reset 27 = .ok (.putfield 74, 3) := by decide +kernel
theorem dX4_reset_30 : decode cX4_reset 30 = .ok (.iload_n 1, 1) := by decide +kernel
theorem dX4_reset_31 : decode cX4_reset 31 = .ok (.ifCond .eq 10, 3) := by decide +kernel
theorem dX4_reset_34 : decode cX4_reset 34 = .ok (.aload_n 0, 1) := by decide +kernel
theorem dX4_reset_35 : decode cX4_reset 35 = .ok (.getfield 10, 3) := by decide +kernel
theorem dX4_reset_38 : decode cX4_reset 38 = .ok (.invokevirtual 77, 3) := by decide +kernel
theorem dX4_reset_41 : decode cX4_reset 41 = .ok (.return_, 1) := by decide +kernel
theorem dJ7_fill_0 : decode cJ7_fill 0 = .ok (.iconst 0, 1) := by decide +kernel
theorem dJ7_fill_1 : decode cJ7_fill 1 = .ok (.istore_n 2, 1) := by decide +kernel
theorem dJ7_fill_2 : decode cJ7_fill 2 = .ok (.aload_n 0, 1) := by decide +kernel
theorem dJ7_fill_3 : decode cJ7_fill 3 = .ok (.arraylength, 1) := by decide +kernel
theorem dJ7_fill_4 : decode cJ7_fill 4 = .ok (.istore_n 3, 1) := by decide +kernel
theorem dJ7_fill_5 : decode cJ7_fill 5 = .ok (.iload_n 2, 1) := by decide +kernel
theorem dJ7_fill_6 : decode cJ7_fill 6 = .ok (.iload_n 3, 1) := by decide +kernel
theorem dJ7_fill_7 : decode cJ7_fill 7 = .ok (.if_icmp .ge 13, 3) := by decide +kernel
theorem dJ7_fill_10 : decode cJ7_fill 10 = .ok (.aload_n 0, 1) := by decide +kernel
theorem dJ7_fill_11 : decode cJ7_fill 11 = .ok (.iload_n 2, 1) := by decide +kernel
theorem dJ7_fill_12 : decode cJ7_fill 12 = .ok (.iload_n 1, 1) := by decide +kernel
theorem dJ7_fill_13 : decode cJ7_fill 13 = .ok (.iastore, 1) := by decide +kernel
theorem dJ7_fill_14 : decode cJ7_fill 14 = .ok (.iinc 2 1, 3) := by decide +kernel
theorem dJ7_fill_17 : decode cJ7_fill 17 = .ok (.goto (-12), 3) := by decide +kernel
theorem dJ7_fill_20 : decode cJ7_fill 20 = .ok (.return_, 1) := by decide +kernel
theorem dX2_clear_0 : decode cX2_clear 0 = .ok (.aload_n 0, 1) := by decide +kernel
theorem dX2_clear_1 : decode cX2_clear 1 = .ok (.iconst 0, 1) := by decide +kernel
theorem dX2_clear_2 : decode cX2_clear 2 = .ok (.putfield 13, 3) := by decide +kernel
theorem dX2_clear_5 : decode cX2_clear 5 = .ok (.aload_n 0, 1) := by decide +kernel
theorem dX2_clear_6 : decode cX2_clear 6 = .ok (.iconst 0, 1) := by decide +kernel
theorem dX2_clear_7 : decode cX2_clear 7 = .ok (.putfield 17, 3) := by decide +kernel
theorem dX2_clear_10 : decode cX2_clear 10 = .ok (.aload_n 0, 1) := by decide +kernel
theorem dX2_clear_11 : decode cX2_clear 11 = .ok (.iconst 0, 1) := by decide +kernel
theorem dX2_clear_12 : decode cX2_clear 12 = .ok (.putfield 20, 3) := by decide +kernel
theorem dX2_clear_15 : decode cX2_clear 15 = .ok (.aload_n 0, 1) := by decide +kernel
theorem dX2_clear_16 : decode cX2_clear 16 = .ok (.iconst 0, 1) := by decide +kernel
theorem dX2_clear_17 : decode cX2_clear 17 = .ok (.putfield 23, 3) := by decide +kernel
theorem dX2_clear_20 : decode cX2_clear 20 = .ok (.aload_n 0, 1) := by decide +kernel
theorem dX2_clear_21 : decode cX2_clear 21 = .ok (.iconst 0, 1) := by decide +kernel
theorem dX2_clear_22 : decode cX2_clear 22 = .ok (.putfield 26, 3) := by decide +kernel
theorem dX2_clear_25 : decode cX2_clear 25 = .ok (.aload_n 0, 1) := by decide +kernel
theorem dX2_clear_26 : decode cX2_clear 26 = .ok (.iconst 0, 1) := by decide +kernel
theorem dX2_clear_27 : decode cX2_clear 27 = .ok (.putfield 29, 3) := by decide +kernel
theorem dX2_clear_30 : decode cX2_clear 30 = .ok (.aload_n 0, 1) := by decide +kernel
theorem dX2_clear_31 : decode cX2_clear 31 = .ok (.iconst 0, 1) := by decide +kernel
theorem dX2_clear_32 : decode cX2_clear 32 = .ok (.putfield 32, 3) := by decide +kernel
theorem dX2_clear_35 : decode cX2_clear 35 = .ok (.aload_n 0, 1) := by decide +kernel
theorem dX2_clear_36 : decode cX2_clear 36 = .ok (.iconst 0, 1) := by decide +kernel
theorem dX2_clear_37 : decode cX2_clear 37 = .ok (.putfield 39, 3) := by decide +kernel
theorem dX2_clear_40 : decode cX2_clear 40 = .ok (.return_, 1) := by decide +kernel
theorem dX3_clear_0 : decode cX3_clear 0 = .ok (.aload_n 0, 1) := by decide +kernel
theorem dX3_clear_1 : decode cX3_clear 1 = .ok (.getfield 9, 3) := by decide +kernel
theorem dX3_clear_4 : decode cX3_clear 4 = .ok (.iconst 0, 1) := by decide +kernel
theorem dX3_clear_5 : decode cX3_clear 5 = .ok (.invokestatic 32, 3) := by decide +kernel
theorem dX3_clear_8 : decode cX3_clear 8 = .ok (.return_, 1) := by decide +kernel
theorem dX4_state_0 : decode cX4_state 0 = .ok (.iload_n 1, 1) := by decide +kernel
theorem dX4_state_1 : decode cX4_state 1 = .ok (.tableswitch 85 0 4 #[35, 48, 53, 64, 69], 35) := by decide +kernel
theorem dX4_state_36 : decode cX4_state 36 = .ok (.aload_n 0, 1) := by decide +kernel
theorem dX4_state_37 : decode cX4_state 37 = .ok (.getfield 55, 3) := by decide +kernel
theorem dX4_state_40 : decode cX4_state 40 = .ok (.ifCond .eq 7, 3) := by decide +kernel
theorem dX4_state_43 : decode cX4_state 43 = .ok (.iconst 1, 1) := by decide +kernel
theorem dX4_state_44 : decode cX4_state 44 = .ok (.goto 4, 3) := by decide +kernel
theorem dX4_state_47 : decode cX4_state 47 = .ok (.iconst 0, 1) := by decide +kernel
theorem dX4_state_48 : decode cX4_state 48 = .ok (.ireturn, 1) := by decide +kernel
theorem dX4_state_49 : decode cX4_state 49 = .ok (.aload_n 0, 1) := by decide +kernel
theorem dX4_state_50 : decode cX4_state 50 = .ok (.getfield 100, 3) := by decide +kernel
theorem dX4_state_53 : decode cX4_state 53 = .ok (.ireturn, 1) := by decide +kernel
theorem dX4_state_54 : decode cX4_state 54 = .ok (.aload_n 0, 1) := by decide +kernel
theorem dX4_state_55 : decode cX4_state 55 = .ok (.getfield 19, 3) := by decide +kernel
theorem dX4_state_58 : decode cX4_state 58 = .ok (.getfield 103, 3) := by decide +kernel
theorem dX4_state_61 : decode cX4_state 61 = .ok (.ldc 106, 2) := by decide +kernel
theorem dX4_state_63 : decode cX4_state 63 = .ok (.iand, 1) := by decide +kernel
theorem dX4_state_64 : decode cX4_state 64 = .ok (.ireturn, 1) := by decide +kernel
theorem dX4_state_65 : decode cX4_state 65 = .ok (.aload_n 0, 1) := by decide +kernel
theorem dX4_state_66 : decode cX4_state 66 = .ok (.getfield 74, 3) := by decide +kernel
theorem dX4_state_69 : decode cX4_state 69 = .ok (.ireturn, 1) := by decide +kernel
theorem dX4_state_70 : decode cX4_state 70 = .ok (.aload_n 0, 1) := by decide +kernel
theorem dX4_state_71 : decode cX4_state 71 = .ok (.getfield 19, 3) := by decide +kernel
theorem dX4_state_74 : decode cX4_state 74 = .ok (.getfield 41, 3) := by decide +kernel
theorem dX4_state_77 : decode cX4_state 77 = .ok (.ifCond .eq 7, 3) := by decide +kernel
theorem dX4_state_80 : decode cX4_state 80 = .ok (.iconst 1, 1) := by decide +kernel
theorem dX4_state_81 : decode cX4_state 81 = .ok (.goto 4, 3) := by decide +kernel
theorem dX4_state_84 : decode cX4_state 84 = .ok (.iconst 0, 1) := by decide +kernel
theorem dX4_state_85 : decode cX4_state 85 = .ok (.ireturn, 1) := by decide +kernel
theorem dX4_state_86 : decode cX4_state 86 = .ok (.iconst (-1), 1) := by decide +kernel
theorem dX4_state_87 : decode cX4_state 87 = .ok (.ireturn, 1) := by decide +kernel
theorem dX4_run_0 : decode cX4_run 0 = .ok (.iload_n 1, 1) := by decide +kernel
theorem dX4_run_1 : decode cX4_run 1 = .ok (.iconst 1, 1) := by decide +kernel
theorem dX4_run_2 : decode cX4_run 2 = .ok (.if_icmp .lt 10, 3) := by decide +kernel
theorem dX4_run_5 : decode cX4_run 5 = .ok (.iload_n 1, 1) := by decide +kernel
theorem dX4_run_6 : decode cX4_run 6 = .ok (.sipush 1000, 3) := by decide +kernel
theorem dX4_run_9 : decode cX4_run 9 = .ok (.if_icmp .le 13, 3) := by decide +kernel
theorem dX4_run_12 : decode cX4_run 12 = .ok (.new 45, 3) := by decide +kernel
theorem dX4_run_15 : decode cX4_run 15 = .ok (.dup, 1) := by decide +kernel
theorem dX4_run_16 : decode cX4_run 16 = .ok (.ldc 47, 2) := by decide +kernel
theorem dX4_run_18 : decode cX4_run 18 = .ok (.invokespecial 49, 3) := by decide +kernel
theorem dX4_run_21 : decode cX4_run 21 = .ok (.athrow, 1) := by decide +kernel
theorem dX4_run_22 : decode cX4_run 22 = .ok (.aload_n 0, 1) := by decide +kernel
theorem dX4_run_23 : decode cX4_run 23 = .ok (.invokevirtual 52, 3) := by decide +kernel
theorem dX4_run_26 : decode cX4_run 26 = .ok (.iconst 0, 1) := by decide +kernel
theorem dX4_run_27 : decode cX4_run 27 = .ok (.istore_n 2, 1) := by decide +kernel
theorem dX4_run_28 : decode cX4_run 28 = .ok (.iload_n 2, 1) := by decide +kernel
theorem dX4_run_29 : decode cX4_run 29 = .ok (.iload_n 1, 1) := by decide +kernel
theorem dX4_run_30 : decode cX4_run 30 = .ok (.if_icmp .ge 24, 3) := by decide +kernel
theorem dX4_run_33 : decode cX4_run 33 = .ok (.aload_n 0, 1) := by decide +kernel
theorem dX4_run_34 : decode cX4_run 34 = .ok (.getfield 55, 3) := by decide +kernel
theorem dX4_run_37 : decode cX4_run 37 = .ok (.ifCond .ne 17, 3) := by decide +kernel
theorem dX4_run_40 : decode cX4_run 40 = .ok (.aload_n 0, 1) := by decide +kernel
theorem dX4_run_41 : decode cX4_run 41 = .ok (.invokevirtual 52, 3) := by decide +kernel
theorem dX4_run_44 : decode cX4_run 44 = .ok (.aload_n 0, 1) := by decide +kernel
theorem dX4_run_45 : decode cX4_run 45 = .ok (.invokevirtual 58, 3) := by decide +kernel
theorem dX4_run_48 : decode cX4_run 48 = .ok (.iinc 2 1, 3) := by decide +kernel
theorem dX4_run_51 : decode cX4_run 51 = .ok (.goto (-23), 3) := by decide +kernel
theorem dX4_run_54 : decode cX4_run 54 = .ok (.iload_n 2, 1) := by decide +kernel
theorem dX4_run_55 : decode cX4_run 55 = .ok (.ireturn, 1) := by decide +kernel
theorem dX4_refuseBeyondLimit_0 : decode cX4_refuseBeyondLimit 0 = .ok (.aload_n 0, 1) := by decide +kernel
theorem dX4_refuseBeyondLimit_1 : decode cX4_refuseBeyondLimit 1 = .ok (.getfield 100, 3) := by decide +kernel
theorem dX4_refuseBeyondLimit_4 : decode cX4_refuseBeyondLimit 4 = .ok (.ldc 107, 2) := by decide +kernel
theorem dX4_refuseBeyondLimit_6 : decode cX4_refuseBeyondLimit 6 = .ok (.if_icmp .lt 13, 3) := by decide +kernel
theorem dX4_refuseBeyondLimit_9 : decode cX4_refuseBeyondLimit 9 = .ok (.new 108, 3) := by decide +kernel
