theorem dX2_isKnown_4 : decode cX2_isKnown 4 = .ok (.ifCond .ne 17, 3) := by decide +kernel
theorem dX2_isKnown_7 : decode cX2_isKnown 7 = .ok (.iload_n 0, 1) := by decide +kernel
theorem dX2_isKnown_8 : decode cX2_isKnown 8 = .ok (.sipush 836, 3) := by decide +kernel
theorem dX2_isKnown_11 : decode cX2_isKnown 11 = .ok (.if_icmp .eq 10, 3) := by decide +kernel
theorem dX2_isKnown_14 : decode cX2_isKnown 14 = .ok (.iload_n 0, 1) := by decide +kernel
theorem dX2_isKnown_15 : decode cX2_isKnown 15 = .ok (.sipush 2816, 3) := by decide +kernel
theorem dX2_isKnown_18 : decode cX2_isKnown 18 = .ok (.if_icmp .ne 7, 3) := by decide +kernel
theorem dX2_isKnown_21 : decode cX2_isKnown 21 = .ok (.iconst 1, 1) := by decide +kernel
theorem dX2_isKnown_22 : decode cX2_isKnown 22 = .ok (.goto 4, 3) := by decide +kernel
theorem dX2_isKnown_25 : decode cX2_isKnown 25 = .ok (.iconst 0, 1) := by decide +kernel
theorem dX2_isKnown_26 : decode cX2_isKnown 26 = .ok (.ireturn, 1) := by decide +kernel
theorem dX2_read_0 : decode cX2_read 0 = .ok (.iload_n 1, 1) := by decide +kernel
theorem dX2_read_1 : decode cX2_read 1 = .ok (.lookupswitch 125 #[(768, 75), (772, 80), (773, 85), (832, 90), (833, 95), (834, 100), (835, 105), (836, 110)], 75) := by decide +kernel
theorem dX2_read_76 : decode cX2_read 76 = .ok (.aload_n 0, 1) := by decide +kernel
theorem dX2_read_77 : decode cX2_read 77 = .ok (.getfield 13, 3) := by decide +kernel
theorem dX2_read_80 : decode cX2_read 80 = .ok (.ireturn, 1) := by decide +kernel
theorem dX2_read_81 : decode cX2_read 81 = .ok (.aload_n 0, 1) := by decide +kernel
theorem dX2_read_82 : decode cX2_read 82 = .ok (.getfield 17, 3) := by decide +kernel
theorem dX2_read_85 : decode cX2_read 85 = .ok (.ireturn, 1) := by decide +kernel
theorem dX2_read_86 : decode cX2_read 86 = .ok (.aload_n 0, 1) := by decide +kernel
theorem dX2_read_87 : decode cX2_read 87 = .ok (.getfield 20, 3) := by decide +kernel
theorem dX2_read_90 : decode cX2_read 90 = .ok (.ireturn, 1) := by decide +kernel
theorem dX2_read_91 : decode cX2_read 91 = .ok (.aload_n 0, 1) := by decide +kernel
theorem dX2_read_92 : decode cX2_read 92 = .ok (.getfield 23, 3) := by decide +kernel
theorem dX2_read_95 : decode cX2_read 95 = .ok (.ireturn, 1) := by decide +kernel
theorem dX2_read_96 : decode cX2_read 96 = .ok (.aload_n 0, 1) := by decide +kernel
theorem dX2_read_97 : decode cX2_read 97 = .ok (.getfield 26, 3) := by decide +kernel
theorem dX2_read_100 : decode cX2_read 100 = .ok (.ireturn, 1) := by decide +kernel
theorem dX2_read_101 : decode cX2_read 101 = .ok (.aload_n 0, 1) := by decide +kernel
theorem dX2_read_102 : decode cX2_read 102 = .ok (.getfield 29, 3) := by decide +kernel
theorem dX2_read_105 : decode cX2_read 105 = .ok (.ireturn, 1) := by decide +kernel
theorem dX2_read_106 : decode cX2_read 106 = .ok (.aload_n 0, 1) := by decide +kernel
theorem dX2_read_107 : decode cX2_read 107 = .ok (.getfield 32, 3) := by decide +kernel
theorem dX2_read_110 : decode cX2_read 110 = .ok (.ireturn, 1) := by decide +kernel
theorem dX2_read_111 : decode cX2_read 111 = .ok (.aload_n 0, 1) := by decide +kernel
theorem dX2_read_112 : decode cX2_read 112 = .ok (.getfield 35, 3) := by decide +kernel
theorem dX2_read_115 : decode cX2_read 115 = .ok (.ifCond .eq 9, 3) := by decide +kernel
theorem dX2_read_118 : decode cX2_read 118 = .ok (.sipush 2048, 3) := by decide +kernel
theorem dX2_read_121 : decode cX2_read 121 = .ok (.goto 4, 3) := by decide +kernel
theorem dX2_read_124 : decode cX2_read 124 = .ok (.iconst 0, 1) := by decide +kernel
theorem dX2_read_125 : decode cX2_read 125 = .ok (.ireturn, 1) := by decide +kernel
theorem dX2_read_126 : decode cX2_read 126 = .ok (.aload_n 0, 1) := by decide +kernel
theorem dX2_read_127 : decode cX2_read 127 = .ok (.getfield 39, 3) := by decide +kernel
theorem dX2_read_130 : decode cX2_read 130 = .ok (.ireturn, 1) := by decide +kernel
theorem dX0_exchanged_0 : decode cX0_exchanged 0 = .ok (.iload_n 0, 1) := by decide +kernel
theorem dX0_exchanged_1 : decode cX0_exchanged 1 = .ok (.lookupswitch 33 #[(1, 27), (2, 29)], 27) := by decide +kernel
theorem dX0_exchanged_28 : decode cX0_exchanged 28 = .ok (.iload_n 2, 1) := by decide +kernel
theorem dX0_exchanged_29 : decode cX0_exchanged 29 = .ok (.ireturn, 1) := by decide +kernel
theorem dX0_exchanged_30 : decode cX0_exchanged 30 = .ok (.iload_n 1, 1) := by decide +kernel
theorem dX0_exchanged_31 : decode cX0_exchanged 31 = .ok (.iload_n 2, 1) := by decide +kernel
theorem dX0_exchanged_32 : decode cX0_exchanged 32 = .ok (.ior, 1) := by decide +kernel
theorem dX0_exchanged_33 : decode cX0_exchanged 33 = .ok (.ireturn, 1) := by decide +kernel
theorem dX0_exchanged_34 : decode cX0_exchanged 34 = .ok (.iload_n 1, 1) := by decide +kernel
theorem dX0_exchanged_35 : decode cX0_exchanged 35 = .ok (.iload_n 2, 1) := by decide +kernel
theorem dX0_exchanged_36 : decode cX0_exchanged 36 = .ok (.iconst (-1), 1) := by decide +kernel
theorem dX0_exchanged_37 : decode cX0_exchanged 37 = .ok (.ixor, 1) := by decide +kernel
theorem dX0_exchanged_38 : decode cX0_exchanged 38 = .ok (.iand, 1) := by decide +kernel
theorem dX0_exchanged_39 : decode cX0_exchanged 39 = .ok (.ireturn, 1) := by decide +kernel
theorem dX2_write_0 : decode cX2_write 0 = .ok (.iload_n 1, 1) := by decide +kernel
theorem dX2_write_1 : decode cX2_write 1 = .ok (.lookupswitch 137 #[(768, 67), (772, 79), (773, 91), (832, 102), (833, 110), (834, 121), (835, 129)], 67) := by decide +kernel
theorem dX2_write_68 : decode cX2_write 68 = .ok (.aload_n 0, 1) := by decide +kernel
theorem dX2_write_69 : decode cX2_write 69 = .ok (.iload_n 2, 1) := by decide +kernel
theorem dX2_write_70 : decode cX2_write 70 = .ok (.sipush 136, 3) := by decide +kernel
theorem dX2_write_73 : decode cX2_write 73 = .ok (.iand, 1) := by decide +kernel
theorem dX2_write_74 : decode cX2_write 74 = .ok (.putfield 13, 3) := by decide +kernel
theorem dX2_write_77 : decode cX2_write 77 = .ok (.goto 61, 3) := by decide +kernel
theorem dX2_write_80 : decode cX2_write 80 = .ok (.aload_n 0, 1) := by decide +kernel
theorem dX2_write_81 : decode cX2_write 81 = .ok (.iload_n 2, 1) := by decide +kernel
theorem dX2_write_82 : decode cX2_write 82 = .ok (.sipush 2048, 3) := by decide +kernel
theorem dX2_write_85 : decode cX2_write 85 = .ok (.iand, 1) := by decide +kernel
theorem dX2_write_86 : decode cX2_write 86 = .ok (.putfield 17, 3) := by decide +kernel
theorem dX2_write_89 : decode cX2_write 89 = .ok (.goto 49, 3) := by decide +kernel
theorem dX2_write_92 : decode cX2_write 92 = .ok (.aload_n 0, 1) := by decide +kernel
theorem dX2_write_93 : decode cX2_write 93 = .ok (.iload_n 2, 1) := by decide +kernel
theorem dX2_write_94 : decode cX2_write 94 = .ok (.bipush (-4), 2) := by decide +kernel
theorem dX2_write_96 : decode cX2_write 96 = .ok (.iand, 1) := by decide +kernel
theorem dX2_write_97 : decode cX2_write 97 = .ok (.putfield 20, 3) := by decide +kernel
theorem dX2_write_100 : decode cX2_write 100 = .ok (.goto 38, 3) := by decide +kernel
theorem dX2_write_103 : decode cX2_write 103 = .ok (.aload_n 0, 1) := by decide +kernel
theorem dX2_write_104 : decode cX2_write 104 = .ok (.iload_n 2, 1) := by decide +kernel
theorem dX2_write_105 : decode cX2_write 105 = .ok (.putfield 23, 3) := by decide +kernel
theorem dX2_write_108 : decode cX2_write 108 = .ok (.goto 30, 3) := by decide +kernel
theorem dX2_write_111 : decode cX2_write 111 = .ok (.aload_n 0, 1) := by decide +kernel
theorem dX2_write_112 : decode cX2_write 112 = .ok (.iload_n 2, 1) := by decide +kernel
theorem dX2_write_113 : decode cX2_write 113 = .ok (.bipush (-4), 2) := by decide +kernel
theorem dX2_write_115 : decode cX2_write 115 = .ok (.iand, 1) := by decide +kernel
theorem dX2_write_116 : decode cX2_write 116 = .ok (.putfield 26, 3) := by decide +kernel
theorem dX2_write_119 : decode cX2_write 119 = .ok (.goto 19, 3) := by decide +kernel
theorem dX2_write_122 : decode cX2_write 122 = .ok (.aload_n 0, 1) := by decide +kernel
theorem dX2_write_123 : decode cX2_write 123 = .ok (.iload_n 2, 1) := by decide +kernel
theorem dX2_write_124 : decode cX2_write 124 = .ok (.putfield 29, 3) := by decide +kernel
theorem dX2_write_127 : decode cX2_write 127 = .ok (.goto 11, 3) := by decide +kernel
theorem dX2_write_130 : decode cX2_write 130 = .ok (.aload_n 0, 1) := by decide +kernel
theorem dX2_write_131 : decode cX2_write 131 = .ok (.iload_n 2, 1) := by decide +kernel
theorem dX2_write_132 : decode cX2_write 132 = .ok (.putfield 32, 3) := by decide +kernel
theorem dX2_write_135 : decode cX2_write 135 = .ok (.goto 3, 3) := by decide +kernel
theorem dX2_write_138 : decode cX2_write 138 = .ok (.return_, 1) := by decide +kernel
theorem dX4_register_0 : decode cX4_register 0 = .ok (.iload_n 1, 1) := by decide +kernel
theorem dX4_register_1 : decode cX4_register 1 = .ok (.bipush 32, 2) := by decide +kernel
theorem dX4_register_3 : decode cX4_register 3 = .ok (.if_icmp .ne 8, 3) := by decide +kernel
theorem dX4_register_6 : decode cX4_register 6 = .ok (.aload_n 0, 1) := by decide +kernel
theorem dX4_register_7 : decode cX4_register 7 = .ok (.getfield 70, 3) := by decide +kernel
theorem dX4_register_10 : decode cX4_register 10 = .ok (.ireturn, 1) := by decide +kernel
theorem dX4_register_11 : decode cX4_register 11 = .ok (.iload_n 1, 1) := by decide +kernel
theorem dX4_register_12 : decode cX4_register 12 = .ok (.ifCond .lt 9, 3) := by decide +kernel
theorem dX4_register_15 : decode cX4_register 15 = .ok (.iload_n 1, 1) := by decide +kernel
theorem dX4_register_16 : decode cX4_register 16 = .ok (.bipush 32, 2) := by decide +kernel
theorem dX4_register_18 : decode cX4_register 18 = .ok (.if_icmp .lt 13, 3) := by decide +kernel
theorem dX4_register_21 : decode cX4_register 21 = .ok (.new 78, 3) := by decide +kernel
theorem dX4_register_24 : decode cX4_register 24 = .ok (.dup, 1) := by decide +kernel
theorem dX4_register_25 : decode cX4_register 25 = .ok (.ldc 80, 2) := by decide +kernel
theorem dX4_register_27 : decode cX4_register 27 = .ok (.invokespecial 82, 3) := by decide +kernel
theorem dX4_register_30 : decode cX4_register 30 = .ok (.athrow, 1) := by decide +kernel
theorem dX4_register_31 : decode cX4_register 31 = .ok (.aload_n 0, 1) := by decide +kernel
theorem dX4_register_32 : decode cX4_register 32 = .ok (.iload_n 1, 1) := by decide +kernel
theorem dX4_register_33 : decode cX4_register 33 = .ok (.invokevirtual 83, 3) := by decide +kernel
theorem dX4_register_36 : decode cX4_register 36 = .ok (.ireturn, 1) := by decide +kernel
theorem dX4_control_0 : decode cX4_control 0 = .ok (.iload_n 1, 1) := by decide +kernel
theorem dX4_control_1 : decode cX4_control 1 = .ok (.invokestatic 87, 3) := by decide +kernel
theorem dX4_control_4 : decode cX4_control 4 = .ok (.ifCond .ne 13, 3) := by decide +kernel
theorem dX4_control_7 : decode cX4_control 7 = .ok (.new 78, 3) := by decide +kernel
theorem dX4_control_10 : decode cX4_control 10 = .ok (.dup, 1) := by decide +kernel
theorem dX4_control_11 : decode cX4_control 11 = .ok (.ldc 90, 2) := by decide +kernel
theorem dX4_control_13 : decode cX4_control 13 = .ok (.invokespecial 82, 3) := by decide +kernel
theorem dX4_control_16 : decode cX4_control 16 = .ok (.athrow, 1) := by decide +kernel
theorem dX4_control_17 : decode cX4_control 17 = .ok (.aload_n 0, 1) := by decide +kernel
theorem dX4_control_18 : decode cX4_control 18 = .ok (.getfield 19, 3) := by decide +kernel
theorem dX4_control_21 : decode cX4_control 21 = .ok (.iload_n 1, 1) := by decide +kernel
theorem dX4_control_22 : decode cX4_control 22 = .ok (.invokevirtual 92, 3) := by decide +kernel
theorem dX4_control_25 : decode cX4_control 25 = .ok (.ireturn, 1) := by decide +kernel
theorem dX4_word_0 : decode cX4_word 0 = .ok (.iload_n 1, 1) := by decide +kernel
theorem dX4_word_1 : decode cX4_word 1 = .ok (.invokestatic 27, 3) := by decide +kernel
theorem dX4_word_4 : decode cX4_word 4 = .ok (.ifCond .ne 13, 3) := by decide +kernel
theorem dX4_word_7 : decode cX4_word 7 = .ok (.new 78, 3) := by decide +kernel
theorem dX4_word_10 : decode cX4_word 10 = .ok (.dup, 1) := by decide +kernel
theorem dX4_word_11 : decode cX4_word 11 = .ok (.ldc 95, 2) := by decide +kernel
theorem dX4_word_13 : decode cX4_word 13 = .ok (.invokespecial 82, 3) := by decide +kernel
theorem dX4_word_16 : decode cX4_word 16 = .ok (.athrow, 1) := by decide +kernel
theorem dX4_word_17 : decode cX4_word 17 = .ok (.aload_n 0, 1) := by decide +kernel
theorem dX4_word_18 : decode cX4_word 18 = .ok (.getfield 10, 3) := by decide +kernel
theorem dX4_word_21 : decode cX4_word 21 = .ok (.iload_n 1, 1) := by decide +kernel
theorem dX4_word_22 : decode cX4_word 22 = .ok (.invokevirtual 97, 3) := by decide +kernel
theorem dX4_word_25 : decode cX4_word 25 = .ok (.ireturn, 1) := by decide +kernel
