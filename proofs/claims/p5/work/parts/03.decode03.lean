theorem dX4_jump_1 : decode cX4_jump 1 = .ok (.iconst 3, 1) := by decide +kernel
theorem dX4_jump_2 : decode cX4_jump 2 = .ok (.iand, 1) := by decide +kernel
theorem dX4_jump_3 : decode cX4_jump 3 = .ok (.ifCond .eq 10, 3) := by decide +kernel
theorem dX4_jump_6 : decode cX4_jump 6 = .ok (.aload_n 0, 1) := by decide +kernel
theorem dX4_jump_7 : decode cX4_jump 7 = .ok (.iconst 0, 1) := by decide +kernel
theorem dX4_jump_8 : decode cX4_jump 8 = .ok (.iload_n 2, 1) := by decide +kernel
theorem dX4_jump_9 : decode cX4_jump 9 = .ok (.invokevirtual 118, 3) := by decide +kernel
theorem dX4_jump_12 : decode cX4_jump 12 = .ok (.ireturn, 1) := by decide +kernel
theorem dX4_jump_13 : decode cX4_jump 13 = .ok (.aload_n 0, 1) := by decide +kernel
theorem dX4_jump_14 : decode cX4_jump 14 = .ok (.iload_n 1, 1) := by decide +kernel
theorem dX4_jump_15 : decode cX4_jump 15 = .ok (.aload_n 0, 1) := by decide +kernel
theorem dX4_jump_16 : decode cX4_jump 16 = .ok (.getfield 70, 3) := by decide +kernel
theorem dX4_jump_19 : decode cX4_jump 19 = .ok (.iconst 4, 1) := by decide +kernel
theorem dX4_jump_20 : decode cX4_jump 20 = .ok (.iadd, 1) := by decide +kernel
theorem dX4_jump_21 : decode cX4_jump 21 = .ok (.invokevirtual 38, 3) := by decide +kernel
theorem dX4_jump_24 : decode cX4_jump 24 = .ok (.aload_n 0, 1) := by decide +kernel
theorem dX4_jump_25 : decode cX4_jump 25 = .ok (.iload_n 2, 1) := by decide +kernel
theorem dX4_jump_26 : decode cX4_jump 26 = .ok (.putfield 70, 3) := by decide +kernel
theorem dX4_jump_29 : decode cX4_jump 29 = .ok (.iconst 1, 1) := by decide +kernel
theorem dX4_jump_30 : decode cX4_jump 30 = .ok (.ireturn, 1) := by decide +kernel
theorem dX4_jumpByRegister_0 : decode cX4_jumpByRegister 0 = .ok (.iload_n 1, 1) := by decide +kernel
theorem dX4_jumpByRegister_1 : decode cX4_jumpByRegister 1 = .ok (.invokestatic 169, 3) := by decide +kernel
theorem dX4_jumpByRegister_4 : decode cX4_jumpByRegister 4 = .ok (.ifCond .eq 9, 3) := by decide +kernel
theorem dX4_jumpByRegister_7 : decode cX4_jumpByRegister 7 = .ok (.aload_n 0, 1) := by decide +kernel
theorem dX4_jumpByRegister_8 : decode cX4_jumpByRegister 8 = .ok (.iload_n 1, 1) := by decide +kernel
theorem dX4_jumpByRegister_9 : decode cX4_jumpByRegister 9 = .ok (.invokevirtual 178, 3) := by decide +kernel
theorem dX4_jumpByRegister_12 : decode cX4_jumpByRegister 12 = .ok (.ireturn, 1) := by decide +kernel
theorem dX4_jumpByRegister_13 : decode cX4_jumpByRegister 13 = .ok (.aload_n 0, 1) := by decide +kernel
theorem dX4_jumpByRegister_14 : decode cX4_jumpByRegister 14 = .ok (.iload_n 1, 1) := by decide +kernel
theorem dX4_jumpByRegister_15 : decode cX4_jumpByRegister 15 = .ok (.invokestatic 139, 3) := by decide +kernel
theorem dX4_jumpByRegister_18 : decode cX4_jumpByRegister 18 = .ok (.aload_n 0, 1) := by decide +kernel
theorem dX4_jumpByRegister_19 : decode cX4_jumpByRegister 19 = .ok (.iload_n 1, 1) := by decide +kernel
theorem dX4_jumpByRegister_20 : decode cX4_jumpByRegister 20 = .ok (.invokevirtual 194, 3) := by decide +kernel
theorem dX4_jumpByRegister_23 : decode cX4_jumpByRegister 23 = .ok (.iload_n 1, 1) := by decide +kernel
theorem dX4_jumpByRegister_24 : decode cX4_jumpByRegister 24 = .ok (.invokestatic 197, 3) := by decide +kernel
theorem dX4_jumpByRegister_27 : decode cX4_jumpByRegister 27 = .ok (.iadd, 1) := by decide +kernel
theorem dX4_jumpByRegister_28 : decode cX4_jumpByRegister 28 = .ok (.bipush (-2), 2) := by decide +kernel
theorem dX4_jumpByRegister_30 : decode cX4_jumpByRegister 30 = .ok (.iand, 1) := by decide +kernel
theorem dX4_jumpByRegister_31 : decode cX4_jumpByRegister 31 = .ok (.invokevirtual 145, 3) := by decide +kernel
theorem dX4_jumpByRegister_34 : decode cX4_jumpByRegister 34 = .ok (.ireturn, 1) := by decide +kernel
theorem dX1_f_0 : decode cX1_f 0 = .ok (.iload_n 0, 1) := by decide +kernel
theorem dX1_f_1 : decode cX1_f 1 = .ok (.bipush 12, 2) := by decide +kernel
theorem dX1_f_3 : decode cX1_f 3 = .ok (.iushr, 1) := by decide +kernel
theorem dX1_f_4 : decode cX1_f 4 = .ok (.bipush 7, 2) := by decide +kernel
theorem dX1_f_6 : decode cX1_f 6 = .ok (.iand, 1) := by decide +kernel
theorem dX1_f_7 : decode cX1_f 7 = .ok (.ireturn, 1) := by decide +kernel
theorem dX4_unknown_0 : decode cX4_unknown 0 = .ok (.aload_n 0, 1) := by decide +kernel
theorem dX4_unknown_1 : decode cX4_unknown 1 = .ok (.iconst 2, 1) := by decide +kernel
theorem dX4_unknown_2 : decode cX4_unknown 2 = .ok (.iload_n 1, 1) := by decide +kernel
theorem dX4_unknown_3 : decode cX4_unknown 3 = .ok (.invokevirtual 118, 3) := by decide +kernel
theorem dX4_unknown_6 : decode cX4_unknown 6 = .ok (.ireturn, 1) := by decide +kernel
theorem dX4_valueA_0 : decode cX4_valueA 0 = .ok (.aload_n 0, 1) := by decide +kernel
theorem dX4_valueA_1 : decode cX4_valueA 1 = .ok (.iload_n 1, 1) := by decide +kernel
theorem dX4_valueA_2 : decode cX4_valueA 2 = .ok (.invokestatic 181, 3) := by decide +kernel
theorem dX4_valueA_5 : decode cX4_valueA 5 = .ok (.invokevirtual 83, 3) := by decide +kernel
theorem dX4_valueA_8 : decode cX4_valueA 8 = .ok (.ireturn, 1) := by decide +kernel
theorem dX1_a_0 : decode cX1_a 0 = .ok (.iload_n 0, 1) := by decide +kernel
theorem dX1_a_1 : decode cX1_a 1 = .ok (.bipush 15, 2) := by decide +kernel
theorem dX1_a_3 : decode cX1_a 3 = .ok (.iushr, 1) := by decide +kernel
theorem dX1_a_4 : decode cX1_a 4 = .ok (.bipush 31, 2) := by decide +kernel
theorem dX1_a_6 : decode cX1_a 6 = .ok (.iand, 1) := by decide +kernel
theorem dX1_a_7 : decode cX1_a 7 = .ok (.ireturn, 1) := by decide +kernel
theorem dX4_readRegister_0 : decode cX4_readRegister 0 = .ok (.iload_n 1, 1) := by decide +kernel
theorem dX4_readRegister_1 : decode cX4_readRegister 1 = .ok (.iconst 1, 1) := by decide +kernel
theorem dX4_readRegister_2 : decode cX4_readRegister 2 = .ok (.if_icmp .lt 21, 3) := by decide +kernel
theorem dX4_readRegister_5 : decode cX4_readRegister 5 = .ok (.iload_n 1, 1) := by decide +kernel
theorem dX4_readRegister_6 : decode cX4_readRegister 6 = .ok (.aload_n 0, 1) := by decide +kernel
theorem dX4_readRegister_7 : decode cX4_readRegister 7 = .ok (.getfield 23, 3) := by decide +kernel
theorem dX4_readRegister_10 : decode cX4_readRegister 10 = .ok (.arraylength, 1) := by decide +kernel
theorem dX4_readRegister_11 : decode cX4_readRegister 11 = .ok (.if_icmp .ge 12, 3) := by decide +kernel
theorem dX4_readRegister_14 : decode cX4_readRegister 14 = .ok (.aload_n 0, 1) := by decide +kernel
theorem dX4_readRegister_15 : decode cX4_readRegister 15 = .ok (.getfield 23, 3) := by decide +kernel
theorem dX4_readRegister_18 : decode cX4_readRegister 18 = .ok (.iload_n 1, 1) := by decide +kernel
theorem dX4_readRegister_19 : decode cX4_readRegister 19 = .ok (.iaload, 1) := by decide +kernel
theorem dX4_readRegister_20 : decode cX4_readRegister 20 = .ok (.goto 4, 3) := by decide +kernel
theorem dX4_readRegister_23 : decode cX4_readRegister 23 = .ok (.iconst 0, 1) := by decide +kernel
theorem dX4_readRegister_24 : decode cX4_readRegister 24 = .ok (.ireturn, 1) := by decide +kernel
theorem dX1_numberI_0 : decode cX1_numberI 0 = .ok (.iload_n 0, 1) := by decide +kernel
theorem dX1_numberI_1 : decode cX1_numberI 1 = .ok (.bipush 20, 2) := by decide +kernel
theorem dX1_numberI_3 : decode cX1_numberI 3 = .ok (.ishr, 1) := by decide +kernel
theorem dX1_numberI_4 : decode cX1_numberI 4 = .ok (.ireturn, 1) := by decide +kernel
theorem dX4_branch_0 : decode cX4_branch 0 = .ok (.iload_n 1, 1) := by decide +kernel
theorem dX4_branch_1 : decode cX4_branch 1 = .ok (.invokestatic 169, 3) := by decide +kernel
theorem dX4_branch_4 : decode cX4_branch 4 = .ok (.istore_n 2, 1) := by decide +kernel
theorem dX4_branch_5 : decode cX4_branch 5 = .ok (.iload_n 2, 1) := by decide +kernel
theorem dX4_branch_6 : decode cX4_branch 6 = .ok (.iconst 2, 1) := by decide +kernel
theorem dX4_branch_7 : decode cX4_branch 7 = .ok (.if_icmp .eq 8, 3) := by decide +kernel
theorem dX4_branch_10 : decode cX4_branch 10 = .ok (.iload_n 2, 1) := by decide +kernel
theorem dX4_branch_11 : decode cX4_branch 11 = .ok (.iconst 3, 1) := by decide +kernel
theorem dX4_branch_12 : decode cX4_branch 12 = .ok (.if_icmp .ne 9, 3) := by decide +kernel
theorem dX4_branch_15 : decode cX4_branch 15 = .ok (.aload_n 0, 1) := by decide +kernel
theorem dX4_branch_16 : decode cX4_branch 16 = .ok (.iload_n 1, 1) := by decide +kernel
theorem dX4_branch_17 : decode cX4_branch 17 = .ok (.invokevirtual 178, 3) := by decide +kernel
theorem dX4_branch_20 : decode cX4_branch 20 = .ok (.ireturn, 1) := by decide +kernel
theorem dX4_branch_21 : decode cX4_branch 21 = .ok (.iload_n 2, 1) := by decide +kernel
theorem dX4_branch_22 : decode cX4_branch 22 = .ok (.aload_n 0, 1) := by decide +kernel
theorem dX4_branch_23 : decode cX4_branch 23 = .ok (.iload_n 1, 1) := by decide +kernel
theorem dX4_branch_24 : decode cX4_branch 24 = .ok (.invokevirtual 194, 3) := by decide +kernel
theorem dX4_branch_27 : decode cX4_branch 27 = .ok (.aload_n 0, 1) := by decide +kernel
theorem dX4_branch_28 : decode cX4_branch 28 = .ok (.iload_n 1, 1) := by decide +kernel
theorem dX4_branch_29 : decode cX4_branch 29 = .ok (.invokevirtual 200, 3) := by decide +kernel
theorem dX4_branch_32 : decode cX4_branch 32 = .ok (.invokestatic 203, 3) := by decide +kernel
theorem dX4_branch_35 : decode cX4_branch 35 = .ok (.ifCond .ne 8, 3) := by decide +kernel
theorem dX4_branch_38 : decode cX4_branch 38 = .ok (.aload_n 0, 1) := by decide +kernel
theorem dX4_branch_39 : decode cX4_branch 39 = .ok (.invokevirtual 166, 3) := by decide +kernel
theorem dX4_branch_42 : decode cX4_branch 42 = .ok (.ireturn, 1) := by decide +kernel
theorem dX4_branch_43 : decode cX4_branch 43 = .ok (.aload_n 0, 1) := by decide +kernel
theorem dX4_branch_44 : decode cX4_branch 44 = .ok (.iconst 0, 1) := by decide +kernel
theorem dX4_branch_45 : decode cX4_branch 45 = .ok (.aload_n 0, 1) := by decide +kernel
theorem dX4_branch_46 : decode cX4_branch 46 = .ok (.getfield 70, 3) := by decide +kernel
theorem dX4_branch_49 : decode cX4_branch 49 = .ok (.iload_n 1, 1) := by decide +kernel
theorem dX4_branch_50 : decode cX4_branch 50 = .ok (.invokestatic 208, 3) := by decide +kernel
theorem dX4_branch_53 : decode cX4_branch 53 = .ok (.iadd, 1) := by decide +kernel
theorem dX4_branch_54 : decode cX4_branch 54 = .ok (.invokevirtual 145, 3) := by decide +kernel
theorem dX4_branch_57 : decode cX4_branch 57 = .ok (.ireturn, 1) := by decide +kernel
theorem dX4_valueB_0 : decode cX4_valueB 0 = .ok (.aload_n 0, 1) := by decide +kernel
theorem dX4_valueB_1 : decode cX4_valueB 1 = .ok (.iload_n 1, 1) := by decide +kernel
theorem dX4_valueB_2 : decode cX4_valueB 2 = .ok (.invokestatic 184, 3) := by decide +kernel
theorem dX4_valueB_5 : decode cX4_valueB 5 = .ok (.invokevirtual 83, 3) := by decide +kernel
theorem dX4_valueB_8 : decode cX4_valueB 8 = .ok (.ireturn, 1) := by decide +kernel
theorem dX1_b_0 : decode cX1_b 0 = .ok (.iload_n 0, 1) := by decide +kernel
theorem dX1_b_1 : decode cX1_b 1 = .ok (.bipush 20, 2) := by decide +kernel
theorem dX1_b_3 : decode cX1_b 3 = .ok (.iushr, 1) := by decide +kernel
theorem dX1_b_4 : decode cX1_b 4 = .ok (.bipush 31, 2) := by decide +kernel
theorem dX1_b_6 : decode cX1_b 6 = .ok (.iand, 1) := by decide +kernel
theorem dX1_b_7 : decode cX1_b 7 = .ok (.ireturn, 1) := by decide +kernel
theorem dX0_holds_0 : decode cX0_holds 0 = .ok (.iload_n 0, 1) := by decide +kernel
theorem dX0_holds_1 : decode cX0_holds 1 = .ok (.tableswitch 93 0 6 #[43, 54, 93, 93, 65, 76, 87], 43) := by decide +kernel
theorem dX0_holds_44 : decode cX0_holds 44 = .ok (.iload_n 1, 1) := by decide +kernel
theorem dX0_holds_45 : decode cX0_holds 45 = .ok (.iload_n 2, 1) := by decide +kernel
theorem dX0_holds_46 : decode cX0_holds 46 = .ok (.if_icmp .ne 7, 3) := by decide +kernel
theorem dX0_holds_49 : decode cX0_holds 49 = .ok (.iconst 1, 1) := by decide +kernel
theorem dX0_holds_50 : decode cX0_holds 50 = .ok (.goto 4, 3) := by decide +kernel
theorem dX0_holds_53 : decode cX0_holds 53 = .ok (.iconst 0, 1) := by decide +kernel
theorem dX0_holds_54 : decode cX0_holds 54 = .ok (.ireturn, 1) := by decide +kernel
theorem dX0_holds_55 : decode cX0_holds 55 = .ok (.iload_n 1, 1) := by decide +kernel
theorem dX0_holds_56 : decode cX0_holds 56 = .ok (.iload_n 2, 1) := by decide +kernel
theorem dX0_holds_57 : decode cX0_holds 57 = .ok (.if_icmp .eq 7, 3) := by decide +kernel
theorem dX0_holds_60 : decode cX0_holds 60 = .ok (.iconst 1, 1) := by decide +kernel
theorem dX0_holds_61 : decode cX0_holds 61 = .ok (.goto 4, 3) := by decide +kernel
theorem dX0_holds_64 : decode cX0_holds 64 = .ok (.iconst 0, 1) := by decide +kernel
theorem dX0_holds_65 : decode cX0_holds 65 = .ok (.ireturn, 1) := by decide +kernel
theorem dX0_holds_66 : decode cX0_holds 66 = .ok (.iload_n 1, 1) := by decide +kernel
theorem dX0_holds_67 : decode cX0_holds 67 = .ok (.iload_n 2, 1) := by decide +kernel
theorem dX0_holds_68 : decode cX0_holds 68 = .ok (.if_icmp .ge 7, 3) := by decide +kernel
theorem dX0_holds_71 : decode cX0_holds 71 = .ok (.iconst 1, 1) := by decide +kernel
theorem dX0_holds_72 : decode cX0_holds 72 = .ok (.goto 4, 3) := by decide +kernel
theorem dX0_holds_75 : decode cX0_holds 75 = .ok (.iconst 0, 1) := by decide +kernel
theorem dX0_holds_76 : decode cX0_holds 76 = .ok (.ireturn, 1) := by decide +kernel
theorem dX0_holds_77 : decode cX0_holds 77 = .ok (.iload_n 1, 1) := by decide +kernel
theorem dX0_holds_78 : decode cX0_holds 78 = .ok (.iload_n 2, 1) := by decide +kernel
theorem dX0_holds_79 : decode cX0_holds 79 = .ok (.if_icmp .lt 7, 3) := by decide +kernel
theorem dX0_holds_82 : decode cX0_holds 82 = .ok (.iconst 1, 1) := by decide +kernel
theorem dX0_holds_83 : decode cX0_holds 83 = .ok (.goto 4, 3) := by decide +kernel
theorem dX0_holds_86 : decode cX0_holds 86 = .ok (.iconst 0, 1) := by decide +kernel
theorem dX0_holds_87 : decode cX0_holds 87 = .ok (.ireturn, 1) := by decide +kernel
theorem dX0_holds_88 : decode cX0_holds 88 = .ok (.iload_n 1, 1) := by decide +kernel
theorem dX0_holds_89 : decode cX0_holds 89 = .ok (.iload_n 2, 1) := by decide +kernel
theorem dX0_holds_90 : decode cX0_holds 90 = .ok (.invokestatic 11, 3) := by decide +kernel
theorem dX0_holds_93 : decode cX0_holds 93 = .ok (.ireturn, 1) := by decide +kernel
theorem dX0_holds_94 : decode cX0_holds 94 = .ok (.iload_n 1, 1) := by decide +kernel
theorem dX0_holds_95 : decode cX0_holds 95 = .ok (.iload_n 2, 1) := by decide +kernel
theorem dX0_holds_96 : decode cX0_holds 96 = .ok (.invokestatic 11, 3) := by decide +kernel
theorem dX0_holds_99 : decode cX0_holds 99 = .ok (.ifCond .ne 7, 3) := by decide +kernel
theorem dX0_holds_102 : decode cX0_holds 102 = .ok (.iconst 1, 1) := by decide +kernel
theorem dX0_holds_103 : decode cX0_holds 103 = .ok (.goto 4, 3) := by decide +kernel
theorem dX0_holds_106 : decode cX0_holds 106 = .ok (.iconst 0, 1) := by decide +kernel
theorem dX0_holds_107 : decode cX0_holds 107 = .ok (.ireturn, 1) := by decide +kernel
theorem dX0_isBelow_0 : decode cX0_isBelow 0 = .ok (.iload_n 0, 1) := by decide +kernel
theorem dX0_isBelow_1 : decode cX0_isBelow 1 = .ok (.i2l, 1) := by decide +kernel
theorem dX0_isBelow_2 : decode cX0_isBelow 2 = .ok (.ldc2_w 9, 3) := by decide +kernel
theorem dX0_isBelow_5 : decode cX0_isBelow 5 = .ok (.land, 1) := by decide +kernel
theorem dX0_isBelow_6 : decode cX0_isBelow 6 = .ok (.iload_n 1, 1) := by decide +kernel
theorem dX0_isBelow_7 : decode cX0_isBelow 7 = .ok (.i2l, 1) := by decide +kernel
theorem dX0_isBelow_8 : decode cX0_isBelow 8 = .ok (.ldc2_w 9, 3) := by decide +kernel
theorem dX0_isBelow_11 : decode cX0_isBelow 11 = .ok (.land, 1) := by decide +kernel
theorem dX0_isBelow_12 : decode cX0_isBelow 12 = .ok (.lcmp, 1) := by decide +kernel
theorem dX0_isBelow_13 : decode cX0_isBelow 13 = .ok (.ifCond .ge 7, 3) := by decide +kernel
theorem dX0_isBelow_16 : decode cX0_isBelow 16 = .ok (.iconst 1, 1) := by decide +kernel
theorem dX0_isBelow_17 : decode cX0_isBelow 17 = .ok (.goto 4, 3) := by decide +kernel
theorem dX0_isBelow_20 : decode cX0_isBelow 20 = .ok (.iconst 0, 1) := by decide +kernel
theorem dX0_isBelow_21 : decode cX0_isBelow 21 = .ok (.ireturn, 1) := by decide +kernel
theorem dX1_numberB_0 : decode cX1_numberB 0 = .ok (.iload_n 0, 1) := by decide +kernel
theorem dX1_numberB_1 : decode cX1_numberB 1 = .ok (.bipush 31, 2) := by decide +kernel
theorem dX1_numberB_3 : decode cX1_numberB 3 = .ok (.ishr, 1) := by decide +kernel
theorem dX1_numberB_4 : decode cX1_numberB 4 = .ok (.bipush 12, 2) := by decide +kernel
theorem dX1_numberB_6 : decode cX1_numberB 6 = .ok (.ishl, 1) := by decide +kernel
theorem dX1_numberB_7 : decode cX1_numberB 7 = .ok (.iload_n 0, 1) := by decide +kernel
theorem dX1_numberB_8 : decode cX1_numberB 8 = .ok (.bipush 7, 2) := by decide +kernel
theorem dX1_numberB_10 : decode cX1_numberB 10 = .ok (.iushr, 1) := by decide +kernel
theorem dX1_numberB_11 : decode cX1_numberB 11 = .ok (.iconst 1, 1) := by decide +kernel
theorem dX1_numberB_12 : decode cX1_numberB 12 = .ok (.iand, 1) := by decide +kernel
theorem dX1_numberB_13 : decode cX1_numberB 13 = .ok (.bipush 11, 2) := by decide +kernel
theorem dX1_numberB_15 : decode cX1_numberB 15 = .ok (.ishl, 1) := by decide +kernel
theorem dX1_numberB_16 : decode cX1_numberB 16 = .ok (.ior, 1) := by decide +kernel
theorem dX1_numberB_17 : decode cX1_numberB 17 = .ok (.iload_n 0, 1) := by decide +kernel
theorem dX1_numberB_18 : decode cX1_numberB 18 = .ok (.bipush 25, 2) := by decide +kernel
theorem dX1_numberB_20 : decode cX1_numberB 20 = .ok (.iushr, 1) := by decide +kernel
theorem dX1_numberB_21 : decode cX1_numberB 21 = .ok (.bipush 63, 2) := by decide +kernel
theorem dX1_numberB_23 : decode cX1_numberB 23 = .ok (.iand, 1) := by decide +kernel
theorem dX1_numberB_24 : decode cX1_numberB 24 = .ok (.iconst 5, 1) := by decide +kernel
theorem dX1_numberB_25 : decode cX1_numberB 25 = .ok (.ishl, 1) := by decide +kernel
theorem dX1_numberB_26 : decode cX1_numberB 26 = .ok (.ior, 1) := by decide +kernel
theorem dX1_numberB_27 : decode cX1_numberB 27 = .ok (.iload_n 0, 1) := by decide +kernel
theorem dX1_numberB_28 : decode cX1_numberB 28 = .ok (.bipush 8, 2) := by decide +kernel
theorem dX1_numberB_30 : decode cX1_numberB 30 = .ok (.iushr, 1) := by decide +kernel
theorem dX1_numberB_31 : decode cX1_numberB 31 = .ok (.bipush 15, 2) := by decide +kernel
theorem dX1_numberB_33 : decode cX1_numberB 33 = .ok (.iand, 1) := by decide +kernel
theorem dX1_numberB_34 : decode cX1_numberB 34 = .ok (.iconst 1, 1) := by decide +kernel
theorem dX1_numberB_35 : decode cX1_numberB 35 = .ok (.ishl, 1) := by decide +kernel
theorem dX1_numberB_36 : decode cX1_numberB 36 = .ok (.ior, 1) := by decide +kernel
theorem dX1_numberB_37 : decode cX1_numberB 37 = .ok (.ireturn, 1) := by decide +kernel
theorem dX4_load_0 : decode cX4_load 0 = .ok (.iload_n 1, 1) := by decide +kernel
theorem dX4_load_1 : decode cX4_load 1 = .ok (.invokestatic 169, 3) := by decide +kernel
theorem dX4_load_4 : decode cX4_load 4 = .ok (.istore_n 2, 1) := by decide +kernel
theorem dX4_load_5 : decode cX4_load 5 = .ok (.iload_n 2, 1) := by decide +kernel
theorem dX4_load_6 : decode cX4_load 6 = .ok (.iconst 3, 1) := by decide +kernel
theorem dX4_load_7 : decode cX4_load 7 = .ok (.if_icmp .eq 8, 3) := by decide +kernel
theorem dX4_load_10 : decode cX4_load 10 = .ok (.iload_n 2, 1) := by decide +kernel
theorem dX4_load_11 : decode cX4_load 11 = .ok (.iconst 5, 1) := by decide +kernel
theorem dX4_load_12 : decode cX4_load 12 = .ok (.if_icmp .le 9, 3) := by decide +kernel
theorem dX4_load_15 : decode cX4_load 15 = .ok (.aload_n 0, 1) := by decide +kernel
theorem dX4_load_16 : decode cX4_load 16 = .ok (.iload_n 1, 1) := by decide +kernel
theorem dX4_load_17 : decode cX4_load 17 = .ok (.invokevirtual 178, 3) := by decide +kernel
theorem dX4_load_20 : decode cX4_load 20 = .ok (.ireturn, 1) := by decide +kernel
theorem dX4_load_21 : decode cX4_load 21 = .ok (.aload_n 0, 1) := by decide +kernel
theorem dX4_load_22 : decode cX4_load 22 = .ok (.iload_n 1, 1) := by decide +kernel
theorem dX4_load_23 : decode cX4_load 23 = .ok (.invokevirtual 194, 3) := by decide +kernel
theorem dX4_load_26 : decode cX4_load 26 = .ok (.iload_n 1, 1) := by decide +kernel
theorem dX4_load_27 : decode cX4_load 27 = .ok (.invokestatic 197, 3) := by decide +kernel
theorem dX4_load_30 : decode cX4_load 30 = .ok (.iadd, 1) := by decide +kernel
theorem dX4_load_31 : decode cX4_load 31 = .ok (.istore_n 3, 1) := by decide +kernel
theorem dX4_load_32 : decode cX4_load 32 = .ok (.iload_n 3, 1) := by decide +kernel
theorem dX4_load_33 : decode cX4_load 33 = .ok (.iload_n 2, 1) := by decide +kernel
theorem dX4_load_34 : decode cX4_load 34 = .ok (.iconst 3, 1) := by decide +kernel
theorem dX4_load_35 : decode cX4_load 35 = .ok (.iand, 1) := by decide +kernel
theorem dX4_load_36 : decode cX4_load 36 = .ok (.invokestatic 211, 3) := by decide +kernel
theorem dX4_load_39 : decode cX4_load 39 = .ok (.ifCond .ne 10, 3) := by decide +kernel
theorem dX4_load_42 : decode cX4_load 42 = .ok (.aload_n 0, 1) := by decide +kernel
theorem dX4_load_43 : decode cX4_load 43 = .ok (.iconst 4, 1) := by decide +kernel
theorem dX4_load_44 : decode cX4_load 44 = .ok (.iload_n 3, 1) := by decide +kernel
theorem dX4_load_45 : decode cX4_load 45 = .ok (.invokevirtual 118, 3) := by decide +kernel
theorem dX4_load_48 : decode cX4_load 48 = .ok (.ireturn, 1) := by decide +kernel
theorem dX4_load_49 : decode cX4_load 49 = .ok (.iload_n 3, 1) := by decide +kernel
theorem dX4_load_50 : decode cX4_load 50 = .ok (.invokestatic 122, 3) := by decide +kernel
theorem dX4_load_53 : decode cX4_load 53 = .ok (.ifCond .ne 10, 3) := by decide +kernel
theorem dX4_load_56 : decode cX4_load 56 = .ok (.aload_n 0, 1) := by decide +kernel
theorem dX4_load_57 : decode cX4_load 57 = .ok (.iconst 5, 1) := by decide +kernel
theorem dX4_load_58 : decode cX4_load 58 = .ok (.iload_n 3, 1) := by decide +kernel
theorem dX4_load_59 : decode cX4_load 59 = .ok (.invokevirtual 118, 3) := by decide +kernel
theorem dX4_load_62 : decode cX4_load 62 = .ok (.ireturn, 1) := by decide +kernel
theorem dX4_load_63 : decode cX4_load 63 = .ok (.aload_n 0, 1) := by decide +kernel
theorem dX4_load_64 : decode cX4_load 64 = .ok (.iload_n 1, 1) := by decide +kernel
theorem dX4_load_65 : decode cX4_load 65 = .ok (.aload_n 0, 1) := by decide +kernel
theorem dX4_load_66 : decode cX4_load 66 = .ok (.getfield 10, 3) := by decide +kernel
theorem dX4_load_69 : decode cX4_load 69 = .ok (.iload_n 3, 1) := by decide +kernel
theorem dX4_load_70 : decode cX4_load 70 = .ok (.iload_n 2, 1) := by decide +kernel
theorem dX4_load_71 : decode cX4_load 71 = .ok (.invokevirtual 214, 3) := by decide +kernel
theorem dX4_load_74 : decode cX4_load 74 = .ok (.invokevirtual 136, 3) := by decide +kernel
theorem dX4_load_77 : decode cX4_load 77 = .ok (.ireturn, 1) := by decide +kernel
