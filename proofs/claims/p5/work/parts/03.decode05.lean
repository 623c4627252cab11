theorem dX4_computeWithRegister_40 : decode cX4_computeWithRegister 40 = .ok (.iload_n 1, 1) := by decide +kernel
theorem dX4_computeWithRegister_41 : decode cX4_computeWithRegister 41 = .ok (.iload_n 2, 1) := by decide +kernel
theorem dX4_computeWithRegister_42 : decode cX4_computeWithRegister 42 = .ok (.aload_n 0, 1) := by decide +kernel
theorem dX4_computeWithRegister_43 : decode cX4_computeWithRegister 43 = .ok (.iload_n 1, 1) := by decide +kernel
theorem dX4_computeWithRegister_44 : decode cX4_computeWithRegister 44 = .ok (.invokevirtual 194, 3) := by decide +kernel
theorem dX4_computeWithRegister_47 : decode cX4_computeWithRegister 47 = .ok (.aload_n 0, 1) := by decide +kernel
theorem dX4_computeWithRegister_48 : decode cX4_computeWithRegister 48 = .ok (.iload_n 1, 1) := by decide +kernel
theorem dX4_computeWithRegister_49 : decode cX4_computeWithRegister 49 = .ok (.invokevirtual 200, 3) := by decide +kernel
theorem dX4_computeWithRegister_52 : decode cX4_computeWithRegister 52 = .ok (.invokestatic 231, 3) := by decide +kernel
theorem dX4_computeWithRegister_55 : decode cX4_computeWithRegister 55 = .ok (.invokevirtual 136, 3) := by decide +kernel
theorem dX4_computeWithRegister_58 : decode cX4_computeWithRegister 58 = .ok (.ireturn, 1) := by decide +kernel
theorem dX4_computeWithRegister_59 : decode cX4_computeWithRegister 59 = .ok (.iload_n 3, 1) := by decide +kernel
theorem dX4_computeWithRegister_60 : decode cX4_computeWithRegister 60 = .ok (.bipush 32, 2) := by decide +kernel
theorem dX4_computeWithRegister_62 : decode cX4_computeWithRegister 62 = .ok (.if_icmp .ne 24, 3) := by decide +kernel
theorem dX4_computeWithRegister_65 : decode cX4_computeWithRegister 65 = .ok (.iload_n 2, 1) := by decide +kernel
theorem dX4_computeWithRegister_66 : decode cX4_computeWithRegister 66 = .ok (.ifCond .ne 20, 3) := by decide +kernel
theorem dX4_computeWithRegister_69 : decode cX4_computeWithRegister 69 = .ok (.aload_n 0, 1) := by decide +kernel
theorem dX4_computeWithRegister_70 : decode cX4_computeWithRegister 70 = .ok (.iload_n 1, 1) := by decide +kernel
theorem dX4_computeWithRegister_71 : decode cX4_computeWithRegister 71 = .ok (.aload_n 0, 1) := by decide +kernel
theorem dX4_computeWithRegister_72 : decode cX4_computeWithRegister 72 = .ok (.iload_n 1, 1) := by decide +kernel
theorem dX4_computeWithRegister_73 : decode cX4_computeWithRegister 73 = .ok (.invokevirtual 194, 3) := by decide +kernel
theorem dX4_computeWithRegister_76 : decode cX4_computeWithRegister 76 = .ok (.aload_n 0, 1) := by decide +kernel
theorem dX4_computeWithRegister_77 : decode cX4_computeWithRegister 77 = .ok (.iload_n 1, 1) := by decide +kernel
theorem dX4_computeWithRegister_78 : decode cX4_computeWithRegister 78 = .ok (.invokevirtual 200, 3) := by decide +kernel
theorem dX4_computeWithRegister_81 : decode cX4_computeWithRegister 81 = .ok (.isub, 1) := by decide +kernel
theorem dX4_computeWithRegister_82 : decode cX4_computeWithRegister 82 = .ok (.invokevirtual 136, 3) := by decide +kernel
theorem dX4_computeWithRegister_85 : decode cX4_computeWithRegister 85 = .ok (.ireturn, 1) := by decide +kernel
theorem dX4_computeWithRegister_86 : decode cX4_computeWithRegister 86 = .ok (.iload_n 3, 1) := by decide +kernel
theorem dX4_computeWithRegister_87 : decode cX4_computeWithRegister 87 = .ok (.bipush 32, 2) := by decide +kernel
theorem dX4_computeWithRegister_89 : decode cX4_computeWithRegister 89 = .ok (.if_icmp .ne 28, 3) := by decide +kernel
theorem dX4_computeWithRegister_92 : decode cX4_computeWithRegister 92 = .ok (.iload_n 2, 1) := by decide +kernel
theorem dX4_computeWithRegister_93 : decode cX4_computeWithRegister 93 = .ok (.iconst 5, 1) := by decide +kernel
theorem dX4_computeWithRegister_94 : decode cX4_computeWithRegister 94 = .ok (.if_icmp .ne 23, 3) := by decide +kernel
theorem dX4_computeWithRegister_97 : decode cX4_computeWithRegister 97 = .ok (.aload_n 0, 1) := by decide +kernel
theorem dX4_computeWithRegister_98 : decode cX4_computeWithRegister 98 = .ok (.iload_n 1, 1) := by decide +kernel
theorem dX4_computeWithRegister_99 : decode cX4_computeWithRegister 99 = .ok (.aload_n 0, 1) := by decide +kernel
theorem dX4_computeWithRegister_100 : decode cX4_computeWithRegister 100 = .ok (.iload_n 1, 1) := by decide +kernel
theorem dX4_computeWithRegister_101 : decode cX4_computeWithRegister 101 = .ok (.invokevirtual 194, 3) := by decide +kernel
theorem dX4_computeWithRegister_104 : decode cX4_computeWithRegister 104 = .ok (.aload_n 0, 1) := by decide +kernel
theorem dX4_computeWithRegister_105 : decode cX4_computeWithRegister 105 = .ok (.iload_n 1, 1) := by decide +kernel
theorem dX4_computeWithRegister_106 : decode cX4_computeWithRegister 106 = .ok (.invokevirtual 200, 3) := by decide +kernel
theorem dX4_computeWithRegister_109 : decode cX4_computeWithRegister 109 = .ok (.bipush 31, 2) := by decide +kernel
theorem dX4_computeWithRegister_111 : decode cX4_computeWithRegister 111 = .ok (.iand, 1) := by decide +kernel
theorem dX4_computeWithRegister_112 : decode cX4_computeWithRegister 112 = .ok (.ishr, 1) := by decide +kernel
theorem dX4_computeWithRegister_113 : decode cX4_computeWithRegister 113 = .ok (.invokevirtual 136, 3) := by decide +kernel
theorem dX4_computeWithRegister_116 : decode cX4_computeWithRegister 116 = .ok (.ireturn, 1) := by decide +kernel
theorem dX4_computeWithRegister_117 : decode cX4_computeWithRegister 117 = .ok (.aload_n 0, 1) := by decide +kernel
theorem dX4_computeWithRegister_118 : decode cX4_computeWithRegister 118 = .ok (.iload_n 1, 1) := by decide +kernel
theorem dX4_computeWithRegister_119 : decode cX4_computeWithRegister 119 = .ok (.invokevirtual 178, 3) := by decide +kernel
theorem dX4_computeWithRegister_122 : decode cX4_computeWithRegister 122 = .ok (.ireturn, 1) := by decide +kernel
theorem dX0_productOrQuotient_0 : decode cX0_productOrQuotient 0 = .ok (.iload_n 0, 1) := by decide +kernel
theorem dX0_productOrQuotient_1 : decode cX0_productOrQuotient 1 = .ok (.tableswitch 121 0 6 #[43, 47, 57, 71, 89, 97, 113], 43) := by decide +kernel
theorem dX0_productOrQuotient_44 : decode cX0_productOrQuotient 44 = .ok (.iload_n 1, 1) := by decide +kernel
theorem dX0_productOrQuotient_45 : decode cX0_productOrQuotient 45 = .ok (.iload_n 2, 1) := by decide +kernel
theorem dX0_productOrQuotient_46 : decode cX0_productOrQuotient 46 = .ok (.imul, 1) := by decide +kernel
theorem dX0_productOrQuotient_47 : decode cX0_productOrQuotient 47 = .ok (.ireturn, 1) := by decide +kernel
theorem dX0_productOrQuotient_48 : decode cX0_productOrQuotient 48 = .ok (.iload_n 1, 1) := by decide +kernel
theorem dX0_productOrQuotient_49 : decode cX0_productOrQuotient 49 = .ok (.i2l, 1) := by decide +kernel
theorem dX0_productOrQuotient_50 : decode cX0_productOrQuotient 50 = .ok (.iload_n 2, 1) := by decide +kernel
theorem dX0_productOrQuotient_51 : decode cX0_productOrQuotient 51 = .ok (.i2l, 1) := by decide +kernel
theorem dX0_productOrQuotient_52 : decode cX0_productOrQuotient 52 = .ok (.lmul, 1) := by decide +kernel
theorem dX0_productOrQuotient_53 : decode cX0_productOrQuotient 53 = .ok (.bipush 32, 2) := by decide +kernel
theorem dX0_productOrQuotient_55 : decode cX0_productOrQuotient 55 = .ok (.lshr, 1) := by decide +kernel
theorem dX0_productOrQuotient_56 : decode cX0_productOrQuotient 56 = .ok (.l2i, 1) := by decide +kernel
theorem dX0_productOrQuotient_57 : decode cX0_productOrQuotient 57 = .ok (.ireturn, 1) := by decide +kernel
theorem dX0_productOrQuotient_58 : decode cX0_productOrQuotient 58 = .ok (.iload_n 1, 1) := by decide +kernel
theorem dX0_productOrQuotient_59 : decode cX0_productOrQuotient 59 = .ok (.i2l, 1) := by decide +kernel
theorem dX0_productOrQuotient_60 : decode cX0_productOrQuotient 60 = .ok (.iload_n 2, 1) := by decide +kernel
theorem dX0_productOrQuotient_61 : decode cX0_productOrQuotient 61 = .ok (.i2l, 1) := by decide +kernel
theorem dX0_productOrQuotient_62 : decode cX0_productOrQuotient 62 = .ok (.ldc2_w 9, 3) := by decide +kernel
theorem dX0_productOrQuotient_65 : decode cX0_productOrQuotient 65 = .ok (.land, 1) := by decide +kernel
theorem dX0_productOrQuotient_66 : decode cX0_productOrQuotient 66 = .ok (.lmul, 1) := by decide +kernel
theorem dX0_productOrQuotient_67 : decode cX0_productOrQuotient 67 = .ok (.bipush 32, 2) := by decide +kernel
theorem dX0_productOrQuotient_69 : decode cX0_productOrQuotient 69 = .ok (.lshr, 1) := by decide +kernel
theorem dX0_productOrQuotient_70 : decode cX0_productOrQuotient 70 = .ok (.l2i, 1) := by decide +kernel
theorem dX0_productOrQuotient_71 : decode cX0_productOrQuotient 71 = .ok (.ireturn, 1) := by decide +kernel
theorem dX0_productOrQuotient_72 : decode cX0_productOrQuotient 72 = .ok (.iload_n 1, 1) := by decide +kernel
theorem dX0_productOrQuotient_73 : decode cX0_productOrQuotient 73 = .ok (.i2l, 1) := by decide +kernel
theorem dX0_productOrQuotient_74 : decode cX0_productOrQuotient 74 = .ok (.ldc2_w 9, 3) := by decide +kernel
theorem dX0_productOrQuotient_77 : decode cX0_productOrQuotient 77 = .ok (.land, 1) := by decide +kernel
theorem dX0_productOrQuotient_78 : decode cX0_productOrQuotient 78 = .ok (.iload_n 2, 1) := by decide +kernel
theorem dX0_productOrQuotient_79 : decode cX0_productOrQuotient 79 = .ok (.i2l, 1) := by decide +kernel
theorem dX0_productOrQuotient_80 : decode cX0_productOrQuotient 80 = .ok (.ldc2_w 9, 3) := by decide +kernel
theorem dX0_productOrQuotient_83 : decode cX0_productOrQuotient 83 = .ok (.land, 1) := by decide +kernel
theorem dX0_productOrQuotient_84 : decode cX0_productOrQuotient 84 = .ok (.lmul, 1) := by decide +kernel
theorem dX0_productOrQuotient_85 : decode cX0_productOrQuotient 85 = .ok (.bipush 32, 2) := by decide +kernel
theorem dX0_productOrQuotient_87 : decode cX0_productOrQuotient 87 = .ok (.lushr, 1) := by decide +kernel
theorem dX0_productOrQuotient_88 : decode cX0_productOrQuotient 88 = .ok (.l2i, 1) := by decide +kernel
theorem dX0_productOrQuotient_89 : decode cX0_productOrQuotient 89 = .ok (.ireturn, 1) := by decide +kernel
theorem dX0_productOrQuotient_90 : decode cX0_productOrQuotient 90 = .ok (.iload_n 1, 1) := by decide +kernel
theorem dX0_productOrQuotient_91 : decode cX0_productOrQuotient 91 = .ok (.i2l, 1) := by decide +kernel
theorem dX0_productOrQuotient_92 : decode cX0_productOrQuotient 92 = .ok (.iload_n 2, 1) := by decide +kernel
theorem dX0_productOrQuotient_93 : decode cX0_productOrQuotient 93 = .ok (.i2l, 1) := by decide +kernel
theorem dX0_productOrQuotient_94 : decode cX0_productOrQuotient 94 = .ok (.invokestatic 15, 3) := by decide +kernel
theorem dX0_productOrQuotient_97 : decode cX0_productOrQuotient 97 = .ok (.ireturn, 1) := by decide +kernel
theorem dX0_productOrQuotient_98 : decode cX0_productOrQuotient 98 = .ok (.iload_n 1, 1) := by decide +kernel
theorem dX0_productOrQuotient_99 : decode cX0_productOrQuotient 99 = .ok (.i2l, 1) := by decide +kernel
theorem dX0_productOrQuotient_100 : decode cX0_productOrQuotient 100 = .ok (.ldc2_w 9, 3) := by decide +kernel
theorem dX0_productOrQuotient_103 : decode cX0_productOrQuotient 103 = .ok (.land, 1) := by decide +kernel
theorem dX0_productOrQuotient_104 : decode cX0_productOrQuotient 104 = .ok (.iload_n 2, 1) := by decide +kernel
theorem dX0_productOrQuotient_105 : decode cX0_productOrQuotient 105 = .ok (.i2l, 1) := by decide +kernel
theorem dX0_productOrQuotient_106 : decode cX0_productOrQuotient 106 = .ok (.ldc2_w 9, 3) := by decide +kernel
theorem dX0_productOrQuotient_109 : decode cX0_productOrQuotient 109 = .ok (.land, 1) := by decide +kernel
theorem dX0_productOrQuotient_110 : decode cX0_productOrQuotient 110 = .ok (.invokestatic 15, 3) := by decide +kernel
theorem dX0_productOrQuotient_113 : decode cX0_productOrQuotient 113 = .ok (.ireturn, 1) := by decide +kernel
theorem dX0_productOrQuotient_114 : decode cX0_productOrQuotient 114 = .ok (.iload_n 1, 1) := by decide +kernel
theorem dX0_productOrQuotient_115 : decode cX0_productOrQuotient 115 = .ok (.i2l, 1) := by decide +kernel
theorem dX0_productOrQuotient_116 : decode cX0_productOrQuotient 116 = .ok (.iload_n 2, 1) := by decide +kernel
theorem dX0_productOrQuotient_117 : decode cX0_productOrQuotient 117 = .ok (.i2l, 1) := by decide +kernel
theorem dX0_productOrQuotient_118 : decode cX0_productOrQuotient 118 = .ok (.invokestatic 19, 3) := by decide +kernel
theorem dX0_productOrQuotient_121 : decode cX0_productOrQuotient 121 = .ok (.ireturn, 1) := by decide +kernel
theorem dX0_productOrQuotient_122 : decode cX0_productOrQuotient 122 = .ok (.iload_n 1, 1) := by decide +kernel
theorem dX0_productOrQuotient_123 : decode cX0_productOrQuotient 123 = .ok (.i2l, 1) := by decide +kernel
theorem dX0_productOrQuotient_124 : decode cX0_productOrQuotient 124 = .ok (.ldc2_w 9, 3) := by decide +kernel
theorem dX0_productOrQuotient_127 : decode cX0_productOrQuotient 127 = .ok (.land, 1) := by decide +kernel
theorem dX0_productOrQuotient_128 : decode cX0_productOrQuotient 128 = .ok (.iload_n 2, 1) := by decide +kernel
theorem dX0_productOrQuotient_129 : decode cX0_productOrQuotient 129 = .ok (.i2l, 1) := by decide +kernel
theorem dX0_productOrQuotient_130 : decode cX0_productOrQuotient 130 = .ok (.ldc2_w 9, 3) := by decide +kernel
theorem dX0_productOrQuotient_133 : decode cX0_productOrQuotient 133 = .ok (.land, 1) := by decide +kernel
theorem dX0_productOrQuotient_134 : decode cX0_productOrQuotient 134 = .ok (.invokestatic 19, 3) := by decide +kernel
theorem dX0_productOrQuotient_137 : decode cX0_productOrQuotient 137 = .ok (.ireturn, 1) := by decide +kernel
theorem dX0_quotient_0 : decode cX0_quotient 0 = .ok (.lload_n 2, 1) := by decide +kernel
theorem dX0_quotient_1 : decode cX0_quotient 1 = .ok (.lconst 0, 1) := by decide +kernel
theorem dX0_quotient_2 : decode cX0_quotient 2 = .ok (.lcmp, 1) := by decide +kernel
theorem dX0_quotient_3 : decode cX0_quotient 3 = .ok (.ifCond .ne 7, 3) := by decide +kernel
theorem dX0_quotient_6 : decode cX0_quotient 6 = .ok (.iconst (-1), 1) := by decide +kernel
theorem dX0_quotient_7 : decode cX0_quotient 7 = .ok (.goto 7, 3) := by decide +kernel
theorem dX0_quotient_10 : decode cX0_quotient 10 = .ok (.lload_n 0, 1) := by decide +kernel
theorem dX0_quotient_11 : decode cX0_quotient 11 = .ok (.lload_n 2, 1) := by decide +kernel
theorem dX0_quotient_12 : decode cX0_quotient 12 = .ok (.ldiv, 1) := by decide +kernel
theorem dX0_quotient_13 : decode cX0_quotient 13 = .ok (.l2i, 1) := by decide +kernel
theorem dX0_quotient_14 : decode cX0_quotient 14 = .ok (.ireturn, 1) := by decide +kernel
theorem dX0_rest_0 : decode cX0_rest 0 = .ok (.lload_n 2, 1) := by decide +kernel
theorem dX0_rest_1 : decode cX0_rest 1 = .ok (.lconst 0, 1) := by decide +kernel
theorem dX0_rest_2 : decode cX0_rest 2 = .ok (.lcmp, 1) := by decide +kernel
theorem dX0_rest_3 : decode cX0_rest 3 = .ok (.ifCond .ne 8, 3) := by decide +kernel
theorem dX0_rest_6 : decode cX0_rest 6 = .ok (.lload_n 0, 1) := by decide +kernel
theorem dX0_rest_7 : decode cX0_rest 7 = .ok (.l2i, 1) := by decide +kernel
theorem dX0_rest_8 : decode cX0_rest 8 = .ok (.goto 7, 3) := by decide +kernel
theorem dX0_rest_11 : decode cX0_rest 11 = .ok (.lload_n 0, 1) := by decide +kernel
theorem dX0_rest_12 : decode cX0_rest 12 = .ok (.lload_n 2, 1) := by decide +kernel
theorem dX0_rest_13 : decode cX0_rest 13 = .ok (.lrem, 1) := by decide +kernel
theorem dX0_rest_14 : decode cX0_rest 14 = .ok (.l2i, 1) := by decide +kernel
theorem dX0_rest_15 : decode cX0_rest 15 = .ok (.ireturn, 1) := by decide +kernel
theorem dX4_callSystem_0 : decode cX4_callSystem 0 = .ok (.iload_n 1, 1) := by decide +kernel
theorem dX4_callSystem_1 : decode cX4_callSystem 1 = .ok (.lookupswitch 66 #[(115, 35), (1048691, 43), (807403635, 53)], 35) := by decide +kernel
theorem dX4_callSystem_36 : decode cX4_callSystem 36 = .ok (.aload_n 0, 1) := by decide +kernel
theorem dX4_callSystem_37 : decode cX4_callSystem 37 = .ok (.bipush 11, 2) := by decide +kernel
theorem dX4_callSystem_39 : decode cX4_callSystem 39 = .ok (.iconst 0, 1) := by decide +kernel
theorem dX4_callSystem_40 : decode cX4_callSystem 40 = .ok (.invokevirtual 118, 3) := by decide +kernel
theorem dX4_callSystem_43 : decode cX4_callSystem 43 = .ok (.ireturn, 1) := by decide +kernel
theorem dX4_callSystem_44 : decode cX4_callSystem 44 = .ok (.aload_n 0, 1) := by decide +kernel
theorem dX4_callSystem_45 : decode cX4_callSystem 45 = .ok (.iconst 3, 1) := by decide +kernel
theorem dX4_callSystem_46 : decode cX4_callSystem 46 = .ok (.aload_n 0, 1) := by decide +kernel
theorem dX4_callSystem_47 : decode cX4_callSystem 47 = .ok (.getfield 70, 3) := by decide +kernel
theorem dX4_callSystem_50 : decode cX4_callSystem 50 = .ok (.invokevirtual 118, 3) := by decide +kernel
theorem dX4_callSystem_53 : decode cX4_callSystem 53 = .ok (.ireturn, 1) := by decide +kernel
theorem dX4_callSystem_54 : decode cX4_callSystem 54 = .ok (.aload_n 0, 1) := by decide +kernel
theorem dX4_callSystem_55 : decode cX4_callSystem 55 = .ok (.aload_n 0, 1) := by decide +kernel
theorem dX4_callSystem_56 : decode cX4_callSystem 56 = .ok (.getfield 19, 3) := by decide +kernel
theorem dX4_callSystem_59 : decode cX4_callSystem 59 = .ok (.invokevirtual 234, 3) := by decide +kernel
theorem dX4_callSystem_62 : decode cX4_callSystem 62 = .ok (.putfield 70, 3) := by decide +kernel
theorem dX4_callSystem_65 : decode cX4_callSystem 65 = .ok (.iconst 1, 1) := by decide +kernel
theorem dX4_callSystem_66 : decode cX4_callSystem 66 = .ok (.ireturn, 1) := by decide +kernel
theorem dX4_callSystem_67 : decode cX4_callSystem 67 = .ok (.aload_n 0, 1) := by decide +kernel
theorem dX4_callSystem_68 : decode cX4_callSystem 68 = .ok (.iload_n 1, 1) := by decide +kernel
theorem dX4_callSystem_69 : decode cX4_callSystem 69 = .ok (.invokevirtual 178, 3) := by decide +kernel
theorem dX4_callSystem_72 : decode cX4_callSystem 72 = .ok (.ireturn, 1) := by decide +kernel
theorem dX2_leaveTrap_0 : decode cX2_leaveTrap 0 = .ok (.aload_n 0, 1) := by decide +kernel
theorem dX2_leaveTrap_1 : decode cX2_leaveTrap 1 = .ok (.aload_n 0, 1) := by decide +kernel
theorem dX2_leaveTrap_2 : decode cX2_leaveTrap 2 = .ok (.getfield 13, 3) := by decide +kernel
theorem dX2_leaveTrap_5 : decode cX2_leaveTrap 5 = .ok (.sipush 128, 3) := by decide +kernel
theorem dX2_leaveTrap_8 : decode cX2_leaveTrap 8 = .ok (.iand, 1) := by decide +kernel
theorem dX2_leaveTrap_9 : decode cX2_leaveTrap 9 = .ok (.ifCond .eq 9, 3) := by decide +kernel
theorem dX2_leaveTrap_12 : decode cX2_leaveTrap 12 = .ok (.sipush 136, 3) := by decide +kernel
theorem dX2_leaveTrap_15 : decode cX2_leaveTrap 15 = .ok (.goto 6, 3) := by decide +kernel
theorem dX2_leaveTrap_18 : decode cX2_leaveTrap 18 = .ok (.sipush 128, 3) := by decide +kernel
theorem dX2_leaveTrap_21 : decode cX2_leaveTrap 21 = .ok (.putfield 13, 3) := by decide +kernel
theorem dX2_leaveTrap_24 : decode cX2_leaveTrap 24 = .ok (.aload_n 0, 1) := by decide +kernel
theorem dX2_leaveTrap_25 : decode cX2_leaveTrap 25 = .ok (.getfield 26, 3) := by decide +kernel
theorem dX2_leaveTrap_28 : decode cX2_leaveTrap 28 = .ok (.ireturn, 1) := by decide +kernel
theorem dX4_exchangeControl_0 : decode cX4_exchangeControl 0 = .ok (.iload_n 1, 1) := by decide +kernel
theorem dX4_exchangeControl_1 : decode cX4_exchangeControl 1 = .ok (.invokestatic 169, 3) := by decide +kernel
theorem dX4_exchangeControl_4 : decode cX4_exchangeControl 4 = .ok (.istore_n 2, 1) := by decide +kernel
theorem dX4_exchangeControl_5 : decode cX4_exchangeControl 5 = .ok (.iload_n 1, 1) := by decide +kernel
theorem dX4_exchangeControl_6 : decode cX4_exchangeControl 6 = .ok (.invokestatic 238, 3) := by decide +kernel
theorem dX4_exchangeControl_9 : decode cX4_exchangeControl 9 = .ok (.istore_n 3, 1) := by decide +kernel
theorem dX4_exchangeControl_10 : decode cX4_exchangeControl 10 = .ok (.iload_n 2, 1) := by decide +kernel
theorem dX4_exchangeControl_11 : decode cX4_exchangeControl 11 = .ok (.iconst 3, 1) := by decide +kernel
theorem dX4_exchangeControl_12 : decode cX4_exchangeControl 12 = .ok (.iand, 1) := by decide +kernel
theorem dX4_exchangeControl_13 : decode cX4_exchangeControl 13 = .ok (.iconst 1, 1) := by decide +kernel
theorem dX4_exchangeControl_14 : decode cX4_exchangeControl 14 = .ok (.if_icmp .eq 10, 3) := by decide +kernel
theorem dX4_exchangeControl_17 : decode cX4_exchangeControl 17 = .ok (.iload_n 1, 1) := by decide +kernel
theorem dX4_exchangeControl_18 : decode cX4_exchangeControl 18 = .ok (.invokestatic 181, 3) := by decide +kernel
theorem dX4_exchangeControl_21 : decode cX4_exchangeControl 21 = .ok (.ifCond .eq 7, 3) := by decide +kernel
theorem dX4_exchangeControl_24 : decode cX4_exchangeControl 24 = .ok (.iconst 1, 1) := by decide +kernel
theorem dX4_exchangeControl_25 : decode cX4_exchangeControl 25 = .ok (.goto 4, 3) := by decide +kernel
theorem dX4_exchangeControl_28 : decode cX4_exchangeControl 28 = .ok (.iconst 0, 1) := by decide +kernel
theorem dX4_exchangeControl_29 : decode cX4_exchangeControl 29 = .ok (.istore 4, 2) := by decide +kernel
theorem dX4_exchangeControl_31 : decode cX4_exchangeControl 31 = .ok (.iload 4, 2) := by decide +kernel
theorem dX4_exchangeControl_33 : decode cX4_exchangeControl 33 = .ok (.ifCond .eq 10, 3) := by decide +kernel
theorem dX4_exchangeControl_36 : decode cX4_exchangeControl 36 = .ok (.iload_n 3, 1) := by decide +kernel
theorem dX4_exchangeControl_37 : decode cX4_exchangeControl 37 = .ok (.invokestatic 241, 3) := by decide +kernel
theorem dX4_exchangeControl_40 : decode cX4_exchangeControl 40 = .ok (.goto 7, 3) := by decide +kernel
theorem dX4_exchangeControl_43 : decode cX4_exchangeControl 43 = .ok (.iload_n 3, 1) := by decide +kernel
theorem dX4_exchangeControl_44 : decode cX4_exchangeControl 44 = .ok (.invokestatic 87, 3) := by decide +kernel
theorem dX4_exchangeControl_47 : decode cX4_exchangeControl 47 = .ok (.istore 5, 2) := by decide +kernel
theorem dX4_exchangeControl_49 : decode cX4_exchangeControl 49 = .ok (.iload_n 2, 1) := by decide +kernel
theorem dX4_exchangeControl_50 : decode cX4_exchangeControl 50 = .ok (.iconst 4, 1) := by decide +kernel
theorem dX4_exchangeControl_51 : decode cX4_exchangeControl 51 = .ok (.if_icmp .eq 8, 3) := by decide +kernel
theorem dX4_exchangeControl_54 : decode cX4_exchangeControl 54 = .ok (.iload 5, 2) := by decide +kernel
theorem dX4_exchangeControl_56 : decode cX4_exchangeControl 56 = .ok (.ifCond .ne 9, 3) := by decide +kernel
theorem dX4_exchangeControl_59 : decode cX4_exchangeControl 59 = .ok (.aload_n 0, 1) := by decide +kernel
theorem dX4_exchangeControl_60 : decode cX4_exchangeControl 60 = .ok (.iload_n 1, 1) := by decide +kernel
theorem dX4_exchangeControl_61 : decode cX4_exchangeControl 61 = .ok (.invokevirtual 178, 3) := by decide +kernel
theorem dX4_exchangeControl_64 : decode cX4_exchangeControl 64 = .ok (.ireturn, 1) := by decide +kernel
theorem dX4_exchangeControl_65 : decode cX4_exchangeControl 65 = .ok (.aload_n 0, 1) := by decide +kernel
theorem dX4_exchangeControl_66 : decode cX4_exchangeControl 66 = .ok (.getfield 19, 3) := by decide +kernel
theorem dX4_exchangeControl_69 : decode cX4_exchangeControl 69 = .ok (.iload_n 3, 1) := by decide +kernel
theorem dX4_exchangeControl_70 : decode cX4_exchangeControl 70 = .ok (.invokevirtual 92, 3) := by decide +kernel
theorem dX4_exchangeControl_73 : decode cX4_exchangeControl 73 = .ok (.istore 6, 2) := by decide +kernel
theorem dX4_exchangeControl_75 : decode cX4_exchangeControl 75 = .ok (.iload 4, 2) := by decide +kernel
theorem dX4_exchangeControl_77 : decode cX4_exchangeControl 77 = .ok (.ifCond .eq 40, 3) := by decide +kernel
theorem dX4_exchangeControl_80 : decode cX4_exchangeControl 80 = .ok (.iload_n 2, 1) := by decide +kernel
theorem dX4_exchangeControl_81 : decode cX4_exchangeControl 81 = .ok (.iconst 4, 1) := by decide +kernel
theorem dX4_exchangeControl_82 : decode cX4_exchangeControl 82 = .ok (.if_icmp .le 10, 3) := by decide +kernel
theorem dX4_exchangeControl_85 : decode cX4_exchangeControl 85 = .ok (.iload_n 1, 1) := by decide +kernel
theorem dX4_exchangeControl_86 : decode cX4_exchangeControl 86 = .ok (.invokestatic 181, 3) := by decide +kernel
theorem dX4_exchangeControl_89 : decode cX4_exchangeControl 89 = .ok (.goto 8, 3) := by decide +kernel
theorem dX4_exchangeControl_92 : decode cX4_exchangeControl 92 = .ok (.aload_n 0, 1) := by decide +kernel
theorem dX4_exchangeControl_93 : decode cX4_exchangeControl 93 = .ok (.iload_n 1, 1) := by decide +kernel
theorem dX4_exchangeControl_94 : decode cX4_exchangeControl 94 = .ok (.invokevirtual 194, 3) := by decide +kernel
theorem dX4_exchangeControl_97 : decode cX4_exchangeControl 97 = .ok (.istore 7, 2) := by decide +kernel
theorem dX4_exchangeControl_99 : decode cX4_exchangeControl 99 = .ok (.aload_n 0, 1) := by decide +kernel
theorem dX4_exchangeControl_100 : decode cX4_exchangeControl 100 = .ok (.getfield 19, 3) := by decide +kernel
theorem dX4_exchangeControl_103 : decode cX4_exchangeControl 103 = .ok (.iload_n 3, 1) := by decide +kernel
theorem dX4_exchangeControl_104 : decode cX4_exchangeControl 104 = .ok (.iload_n 2, 1) := by decide +kernel
theorem dX4_exchangeControl_105 : decode cX4_exchangeControl 105 = .ok (.iconst 3, 1) := by decide +kernel
theorem dX4_exchangeControl_106 : decode cX4_exchangeControl 106 = .ok (.iand, 1) := by decide +kernel
theorem dX4_exchangeControl_107 : decode cX4_exchangeControl 107 = .ok (.iload 6, 2) := by decide +kernel
theorem dX4_exchangeControl_109 : decode cX4_exchangeControl 109 = .ok (.iload 7, 2) := by decide +kernel
theorem dX4_exchangeControl_111 : decode cX4_exchangeControl 111 = .ok (.invokestatic 244, 3) := by decide +kernel
theorem dX4_exchangeControl_114 : decode cX4_exchangeControl 114 = .ok (.invokevirtual 247, 3) := by decide +kernel
theorem dX4_exchangeControl_117 : decode cX4_exchangeControl 117 = .ok (.aload_n 0, 1) := by decide +kernel
theorem dX4_exchangeControl_118 : decode cX4_exchangeControl 118 = .ok (.iload_n 1, 1) := by decide +kernel
theorem dX4_exchangeControl_119 : decode cX4_exchangeControl 119 = .ok (.iload 6, 2) := by decide +kernel
theorem dX4_exchangeControl_121 : decode cX4_exchangeControl 121 = .ok (.invokevirtual 136, 3) := by decide +kernel
theorem dX4_exchangeControl_124 : decode cX4_exchangeControl 124 = .ok (.ireturn, 1) := by decide +kernel
theorem dX1_controlNumber_0 : decode cX1_controlNumber 0 = .ok (.iload_n 0, 1) := by decide +kernel
theorem dX1_controlNumber_1 : decode cX1_controlNumber 1 = .ok (.bipush 20, 2) := by decide +kernel
theorem dX1_controlNumber_3 : decode cX1_controlNumber 3 = .ok (.iushr, 1) := by decide +kernel
theorem dX1_controlNumber_4 : decode cX1_controlNumber 4 = .ok (.ireturn, 1) := by decide +kernel
theorem dX2_isWritable_0 : decode cX2_isWritable 0 = .ok (.iload_n 0, 1) := by decide +kernel
theorem dX2_isWritable_1 : decode cX2_isWritable 1 = .ok (.lookupswitch 69 #[(768, 67), (772, 67), (773, 67), (832, 67), (833, 67), (834, 67), (835, 67)], 67) := by decide +kernel
theorem dX2_isWritable_68 : decode cX2_isWritable 68 = .ok (.iconst 1, 1) := by decide +kernel
theorem dX2_isWritable_69 : decode cX2_isWritable 69 = .ok (.ireturn, 1) := by decide +kernel
theorem dX2_isWritable_70 : decode cX2_isWritable 70 = .ok (.iconst 0, 1) := by decide +kernel
theorem dX2_isWritable_71 : decode cX2_isWritable 71 = .ok (.ireturn, 1) := by decide +kernel
theorem dX2_isKnown_0 : decode cX2_isKnown 0 = .ok (.iload_n 0, 1) := by decide +kernel
theorem dX2_isKnown_1 : decode cX2_isKnown 1 = .ok (.invokestatic 7, 3) := by decide +kernel
