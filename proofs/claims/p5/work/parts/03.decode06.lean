theorem dX2_isKnown_4 : decode cX2_isKnown 4 = .ok (.ifCond .ne 17, 3) := by decide +kernel
theorem dX2_isKnown_7 : decode cX2_isKnown 7 = .ok (.iload_n 0, 1) := by decide +kernel
theorem dX2_isKnown_8 : decode cX2_isKnown 8 = .ok (.sipush 836, 3) := by decide +kernel
theorem dX2_isKnown_11 : decode cX2_isKnown 11 = .ok (.if_icmp .eq 10, 3) := by decide +kernel
theorem dX2_isKnown_14 : decode cX2_isKnown 14 = .ok (.iload_n 0, 1) := by decide +kernel
theorem dX2_isKnown_15 : decode cX2_isKnown 15 = .ok (.sipush 2816, 3) := by decide +kernel
theorem dX2_isKnown_18 : decode cX2_isKnown 18 = .ok (.if_icmp .ne 7, 3) := by decide +kernel
theorem dX2_isKnown_21 : decode cX2_isKnown 21 = .ok (.iconst 1, 1) := by decide +kernel
theorem dX2_isKnown_22 : decode cX2_isKnown 22 = .ok (.goto 4, 3) := by decide +kernel
theorem dX2_isKnown_25 : decode cX2_isKnown 25 = .ok (.iconst 0, 1) := by decide +kernel
theorem dX2_isKnown_26 : decode cX2_isKnown 26 = .ok (.ireturn, 1) := by decide +kernel
theorem dX2_read_0 : decode cX2_read 0 = .ok (.iload_n 1, 1) := by decide +kernel
theorem dX2_read_1 : decode cX2_read 1 = .ok (.lookupswitch 125 #[(768, 75), (772, 80), (773, 85), (832, 90), (833, 95), (834, 100), (835, 105), (836, 110)], 75) := by decide +kernel
theorem dX2_read_76 : decode cX2_read 76 = .ok (.aload_n 0, 1) := by decide +kernel
theorem dX2_read_77 : decode cX2_read 77 = .ok (.getfield 13, 3) := by decide +kernel
theorem dX2_read_80 : decode cX2_read 80 = .ok (.ireturn, 1) := by decide +kernel
theorem dX2_read_81 : decode cX2_read 81 = .ok (.aload_n 0, 1) := by decide +kernel
theorem dX2_read_82 : decode cX2_read 82 = .ok (.getfield 17, 3) := by decide +kernel
theorem dX2_read_85 : decode cX2_read 85 = .ok (.ireturn, 1) := by decide +kernel
theorem dX2_read_86 : decode cX2_read 86 = .ok (.aload_n 0, 1) := by decide +kernel
theorem dX2_read_87 : decode cX2_read 87 = .ok (.getfield 20, 3) := by decide +kernel
theorem dX2_read_90 : decode cX2_read 90 = .ok (.ireturn, 1) := by decide +kernel
theorem dX2_read_91 : decode cX2_read 91 = .ok (.aload_n 0, 1) := by decide +kernel
theorem dX2_read_92 : decode cX2_read 92 = .ok (.getfield 23, 3) := by decide +kernel
theorem dX2_read_95 : decode cX2_read 95 = .ok (.ireturn, 1) := by decide +kernel
theorem dX2_read_96 : decode cX2_read 96 = .ok (.aload_n 0, 1) := by decide +kernel
theorem dX2_read_97 : decode cX2_read 97 = .ok (.getfield 26, 3) := by decide +kernel
theorem dX2_read_100 : decode cX2_read 100 = .ok (.ireturn, 1) := by decide +kernel
theorem dX2_read_101 : decode cX2_read 101 = .ok (.aload_n 0, 1) := by decide +kernel
theorem dX2_read_102 : decode cX2_read 102 = .ok (.getfield 29, 3) := by decide +kernel
theorem dX2_read_105 : decode cX2_read 105 = .ok (.ireturn, 1) := by decide +kernel
theorem dX2_read_106 : decode cX2_read 106 = .ok (.aload_n 0, 1) := by decide +kernel
theorem dX2_read_107 : decode cX2_read 107 = .ok (.getfield 32, 3) := by decide +kernel
theorem dX2_read_110 : decode cX2_read 110 = .ok (.ireturn, 1) := by decide +kernel
theorem dX2_read_111 : decode cX2_read 111 = .ok (.aload_n 0, 1) := by decide +kernel
theorem dX2_read_112 : decode cX2_read 112 = .ok (.getfield 35, 3) := by decide +kernel
theorem dX2_read_115 : decode cX2_read 115 = .ok (.ifCond .eq 9, 3) := by decide +kernel
theorem dX2_read_118 : decode cX2_read 118 = .ok (.sipush 2048, 3) := by decide +kernel
theorem dX2_read_121 : decode cX2_read 121 = .ok (.goto 4, 3) := by decide +kernel
theorem dX2_read_124 : decode cX2_read 124 = .ok (.iconst 0, 1) := by decide +kernel
theorem dX2_read_125 : decode cX2_read 125 = .ok (.ireturn, 1) := by decide +kernel
theorem dX2_read_126 : decode cX2_read 126 = .ok (.aload_n 0, 1) := by decide +kernel
theorem dX2_read_127 : decode cX2_read 127 = .ok (.getfield 39, 3) := by decide +kernel
theorem dX2_read_130 : decode cX2_read 130 = .ok (.ireturn, 1) := by decide +kernel
theorem dX0_exchanged_0 : decode cX0_exchanged 0 = .ok (.iload_n 0, 1) := by decide +kernel
theorem dX0_exchanged_1 : decode cX0_exchanged 1 = .ok (.lookupswitch 33 #[(1, 27), (2, 29)], 27) := by decide +kernel
theorem dX0_exchanged_28 : decode cX0_exchanged 28 = .ok (.iload_n 2, 1) := by decide +kernel
theorem dX0_exchanged_29 : decode cX0_exchanged 29 = .ok (.ireturn, 1) := by decide +kernel
theorem dX0_exchanged_30 : decode cX0_exchanged 30 = .ok (.iload_n 1, 1) := by decide +kernel
theorem dX0_exchanged_31 : decode cX0_exchanged 31 = .ok (.iload_n 2, 1) := by decide +kernel
theorem dX0_exchanged_32 : decode cX0_exchanged 32 = .ok (.ior, 1) := by decide +kernel
theorem dX0_exchanged_33 : decode cX0_exchanged 33 = .ok (.ireturn, 1) := by decide +kernel
theorem dX0_exchanged_34 : decode cX0_exchanged 34 = .ok (.iload_n 1, 1) := by decide +kernel
theorem dX0_exchanged_35 : decode cX0_exchanged 35 = .ok (.iload_n 2, 1) := by decide +kernel
theorem dX0_exchanged_36 : decode cX0_exchanged 36 = .ok (.iconst (-1), 1) := by decide +kernel
theorem dX0_exchanged_37 : decode cX0_exchanged 37 = .ok (.ixor, 1) := by decide +kernel
theorem dX0_exchanged_38 : decode cX0_exchanged 38 = .ok (.iand, 1) := by decide +kernel
theorem dX0_exchanged_39 : decode cX0_exchanged 39 = .ok (.ireturn, 1) := by decide +kernel
theorem dX2_write_0 : decode cX2_write 0 = .ok (.iload_n 1, 1) := by decide +kernel
theorem dX2_write_1 : decode cX2_write 1 = .ok (.lookupswitch 137 #[(768, 67), (772, 79), (773, 91), (832, 102), (833, 110), (834, 121), (835, 129)], 67) := by decide +kernel
theorem dX2_write_68 : decode cX2_write 68 = .ok (.aload_n 0, 1) := by decide +kernel
theorem dX2_write_69 : decode cX2_write 69 = .ok (.iload_n 2, 1) := by decide +kernel
theorem dX2_write_70 : decode cX2_write 70 = .ok (.sipush 136, 3) := by decide +kernel
theorem dX2_write_73 : decode cX2_write 73 = .ok (.iand, 1) := by decide +kernel
theorem dX2_write_74 : decode cX2_write 74 = .ok (.putfield 13, 3) := by decide +kernel
theorem dX2_write_77 : decode cX2_write 77 = .ok (.goto 61, 3) := by decide +kernel
theorem dX2_write_80 : decode cX2_write 80 = .ok (.aload_n 0, 1) := by decide +kernel
theorem dX2_write_81 : decode cX2_write 81 = .ok (.iload_n 2, 1) := by decide +kernel
theorem dX2_write_82 : decode cX2_write 82 = .ok (.sipush 2048, 3) := by decide +kernel
theorem dX2_write_85 : decode cX2_write 85 = .ok (.iand, 1) := by decide +kernel
theorem dX2_write_86 : decode cX2_write 86 = .ok (.putfield 17, 3) := by decide +kernel
theorem dX2_write_89 : decode cX2_write 89 = .ok (.goto 49, 3) := by decide +kernel
theorem dX2_write_92 : decode cX2_write 92 = .ok (.aload_n 0, 1) := by decide +kernel
theorem dX2_write_93 : decode cX2_write 93 = .ok (.iload_n 2, 1) := by decide +kernel
theorem dX2_write_94 : decode cX2_write 94 = .ok (.bipush (-4), 2) := by decide +kernel
theorem dX2_write_96 : decode cX2_write 96 = .ok (.iand, 1) := by decide +kernel
theorem dX2_write_97 : decode cX2_write 97 = .ok (.putfield 20, 3) := by decide +kernel
theorem dX2_write_100 : decode cX2_write 100 = .ok (.goto 38, 3) := by decide +kernel
theorem dX2_write_103 : decode cX2_write 103 = .ok (.aload_n 0, 1) := by decide +kernel
theorem dX2_write_104 : decode cX2_write 104 = .ok (.iload_n 2, 1) := by decide +kernel
theorem dX2_write_105 : decode cX2_write 105 = .ok (.putfield 23, 3) := by decide +kernel
theorem dX2_write_108 : decode cX2_write 108 = .ok (.goto 30, 3) := by decide +kernel
theorem dX2_write_111 : decode cX2_write 111 = .ok (.aload_n 0, 1) := by decide +kernel
theorem dX2_write_112 : decode cX2_write 112 = .ok (.iload_n 2, 1) := by decide +kernel
theorem dX2_write_113 : decode cX2_write 113 = .ok (.bipush (-4), 2) := by decide +kernel
theorem dX2_write_115 : decode cX2_write 115 = .ok (.iand, 1) := by decide +kernel
theorem dX2_write_116 : decode cX2_write 116 = .ok (.putfield 26, 3) := by decide +kernel
theorem dX2_write_119 : decode cX2_write 119 = .ok (.goto 19, 3) := by decide +kernel
theorem dX2_write_122 : decode cX2_write 122 = .ok (.aload_n 0, 1) := by decide +kernel
theorem dX2_write_123 : decode cX2_write 123 = .ok (.iload_n 2, 1) := by decide +kernel
theorem dX2_write_124 : decode cX2_write 124 = .ok (.putfield 29, 3) := by decide +kernel
theorem dX2_write_127 : decode cX2_write 127 = .ok (.goto 11, 3) := by decide +kernel
theorem dX2_write_130 : decode cX2_write 130 = .ok (.aload_n 0, 1) := by decide +kernel
theorem dX2_write_131 : decode cX2_write 131 = .ok (.iload_n 2, 1) := by decide +kernel
theorem dX2_write_132 : decode cX2_write 132 = .ok (.putfield 32, 3) := by decide +kernel
theorem dX2_write_135 : decode cX2_write 135 = .ok (.goto 3, 3) := by decide +kernel
theorem dX2_write_138 : decode cX2_write 138 = .ok (.return_, 1) := by decide +kernel
theorem dX4_register_0 : decode cX4_register 0 = .ok (.iload_n 1, 1) := by decide +kernel
theorem dX4_register_1 : decode cX4_register 1 = .ok (.bipush 32, 2) := by decide +kernel
theorem dX4_register_3 : decode cX4_register 3 = .ok (.if_icmp .ne 8, 3) := by decide +kernel
theorem dX4_register_6 : decode cX4_register 6 = .ok (.aload_n 0, 1) := by decide +kernel
theorem dX4_register_7 : decode cX4_register 7 = .ok (.getfield 70, 3) := by decide +kernel
theorem dX4_register_10 : decode cX4_register 10 = .ok (.ireturn, 1) := by decide +kernel
theorem dX4_register_11 : decode cX4_register 11 = .ok (.iload_n 1, 1) := by decide +kernel
theorem dX4_register_12 : decode cX4_register 12 = .ok (.ifCond .lt 9, 3) := by decide +kernel
theorem dX4_register_15 : decode cX4_register 15 = .ok (.iload_n 1, 1) := by decide +kernel
theorem dX4_register_16 : decode cX4_register 16 = .ok (.bipush 32, 2) := by decide +kernel
theorem dX4_register_18 : decode cX4_register 18 = .ok (.if_icmp .lt 13, 3) := by decide +kernel
theorem dX4_register_21 : decode cX4_register 21 = .ok (.new 78, 3) := by decide +kernel
theorem dX4_register_24 : decode cX4_register 24 = .ok (.dup, 1) := by decide +kernel
theorem dX4_register_25 : decode cX4_register 25 = .ok (.ldc 80, 2) := by decide +kernel
theorem dX4_register_27 : decode cX4_register 27 = .ok (.invokespecial 82, 3) := by decide +kernel
theorem dX4_register_30 : decode cX4_register 30 = .ok (.athrow, 1) := by decide +kernel
theorem dX4_register_31 : decode cX4_register 31 = .ok (.aload_n 0, 1) := by decide +kernel
theorem dX4_register_32 : decode cX4_register 32 = .ok (.iload_n 1, 1) := by decide +kernel
theorem dX4_register_33 : decode cX4_register 33 = .ok (.invokevirtual 83, 3) := by decide +kernel
theorem dX4_register_36 : decode cX4_register 36 = .ok (.ireturn, 1) := by decide +kernel
theorem dX4_control_0 : decode cX4_control 0 = .ok (.iload_n 1, 1) := by decide +kernel
theorem dX4_control_1 : decode cX4_control 1 = .ok (.invokestatic 87, 3) := by decide +kernel
theorem dX4_control_4 : decode cX4_control 4 = .ok (.ifCond .ne 13, 3) := by decide +kernel
theorem dX4_control_7 : decode cX4_control 7 = .ok (.new 78, 3) := by decide +kernel
theorem dX4_control_10 : decode cX4_control 10 = .ok (.dup, 1) := by decide +kernel
theorem dX4_control_11 : decode cX4_control 11 = .ok (.ldc 90, 2) := by decide +kernel
theorem dX4_control_13 : decode cX4_control 13 = .ok (.invokespecial 82, 3) := by decide +kernel
theorem dX4_control_16 : decode cX4_control 16 = .ok (.athrow, 1) := by decide +kernel
theorem dX4_control_17 : decode cX4_control 17 = .ok (.aload_n 0, 1) := by decide +kernel
theorem dX4_control_18 : decode cX4_control 18 = .ok (.getfield 19, 3) := by decide +kernel
theorem dX4_control_21 : decode cX4_control 21 = .ok (.iload_n 1, 1) := by decide +kernel
theorem dX4_control_22 : decode cX4_control 22 = .ok (.invokevirtual 92, 3) := by decide +kernel
theorem dX4_control_25 : decode cX4_control 25 = .ok (.ireturn, 1) := by decide +kernel
theorem dX4_word_0 : decode cX4_word 0 = .ok (.iload_n 1, 1) := by decide +kernel
theorem dX4_word_1 : decode cX4_word 1 = .ok (.invokestatic 27, 3) := by decide +kernel
theorem dX4_word_4 : decode cX4_word 4 = .ok (.ifCond .ne 13, 3) := by decide +kernel
theorem dX4_word_7 : decode cX4_word 7 = .ok (.new 78, 3) := by decide +kernel
theorem dX4_word_10 : decode cX4_word 10 = .ok (.dup, 1) := by decide +kernel
theorem dX4_word_11 : decode cX4_word 11 = .ok (.ldc 95, 2) := by decide +kernel
theorem dX4_word_13 : decode cX4_word 13 = .ok (.invokespecial 82, 3) := by decide +kernel
theorem dX4_word_16 : decode cX4_word 16 = .ok (.athrow, 1) := by decide +kernel
theorem dX4_word_17 : decode cX4_word 17 = .ok (.aload_n 0, 1) := by decide +kernel
theorem dX4_word_18 : decode cX4_word 18 = .ok (.getfield 10, 3) := by decide +kernel
theorem dX4_word_21 : decode cX4_word 21 = .ok (.iload_n 1, 1) := by decide +kernel
theorem dX4_word_22 : decode cX4_word 22 = .ok (.invokevirtual 97, 3) := by decide +kernel
theorem dX4_word_25 : decode cX4_word 25 = .ok (.ireturn, 1) := by decide +kernel
theorem dX5_init_0 : decode cX5_init 0 = .ok (.aload_n 0, 1) := by decide +kernel
theorem dX5_init_1 : decode cX5_init 1 = .ok (.invokespecial 1, 3) := by decide +kernel
theorem dX5_init_4 : decode cX5_init 4 = .ok (.aload_n 0, 1) := by decide +kernel
theorem dX5_init_5 : decode cX5_init 5 = .ok (.sipush 1024, 3) := by decide +kernel
theorem dX5_init_8 : decode cX5_init 8 = .ok (.newarray .int, 2) := by decide +kernel
theorem dX5_init_10 : decode cX5_init 10 = .ok (.putfield 7, 3) := by decide +kernel
theorem dX5_init_13 : decode cX5_init 13 = .ok (.aload_n 0, 1) := by decide +kernel
theorem dX5_init_14 : decode cX5_init 14 = .ok (.bipush 32, 2) := by decide +kernel
theorem dX5_init_16 : decode cX5_init 16 = .ok (.newarray .int, 2) := by decide +kernel
theorem dX5_init_18 : decode cX5_init 18 = .ok (.putfield 13, 3) := by decide +kernel
theorem dX5_init_21 : decode cX5_init 21 = .ok (.aload_n 0, 1) := by decide +kernel
theorem dX5_init_22 : decode cX5_init 22 = .ok (.bipush 9, 2) := by decide +kernel
theorem dX5_init_24 : decode cX5_init 24 = .ok (.newarray .int, 2) := by decide +kernel
theorem dX5_init_26 : decode cX5_init 26 = .ok (.putfield 16, 3) := by decide +kernel
theorem dX5_init_29 : decode cX5_init 29 = .ok (.return_, 1) := by decide +kernel
theorem dX5_thrown_0 : decode cX5_thrown 0 = .ok (.aload_n 0, 1) := by decide +kernel
theorem dX5_thrown_1 : decode cX5_thrown 1 = .ok (.getfield 19, 3) := by decide +kernel
theorem dX5_thrown_4 : decode cX5_thrown 4 = .ok (.ireturn, 1) := by decide +kernel
theorem dX5_set_0 : decode cX5_set 0 = .ok (.aload_n 0, 1) := by decide +kernel
theorem dX5_set_1 : decode cX5_set 1 = .ok (.iconst 0, 1) := by decide +kernel
theorem dX5_set_2 : decode cX5_set 2 = .ok (.putfield 19, 3) := by decide +kernel
theorem dX5_set_5 : decode cX5_set 5 = .ok (.iload_n 1, 1) := by decide +kernel
theorem dX5_set_6 : decode cX5_set 6 = .ok (.invokestatic 23, 3) := by decide +kernel
theorem dX5_set_9 : decode cX5_set 9 = .ok (.ifCond .ne 5, 3) := by decide +kernel
theorem dX5_set_12 : decode cX5_set 12 = .ok (.iconst 0, 1) := by decide +kernel
theorem dX5_set_13 : decode cX5_set 13 = .ok (.ireturn, 1) := by decide +kernel
theorem dX5_set_14 : decode cX5_set 14 = .ok (.aload_n 0, 1) := by decide +kernel
theorem dX5_set_15 : decode cX5_set 15 = .ok (.getfield 7, 3) := by decide +kernel
theorem dX5_set_18 : decode cX5_set 18 = .ok (.iload_n 1, 1) := by decide +kernel
theorem dX5_set_19 : decode cX5_set 19 = .ok (.iconst 4, 1) := by decide +kernel
theorem dX5_set_20 : decode cX5_set 20 = .ok (.idiv, 1) := by decide +kernel
theorem dX5_set_21 : decode cX5_set 21 = .ok (.iload_n 2, 1) := by decide +kernel
theorem dX5_set_22 : decode cX5_set 22 = .ok (.iastore, 1) := by decide +kernel
theorem dX5_set_23 : decode cX5_set 23 = .ok (.iconst 1, 1) := by decide +kernel
theorem dX5_set_24 : decode cX5_set 24 = .ok (.ireturn, 1) := by decide +kernel
theorem dX5_isAddress_0 : decode cX5_isAddress 0 = .ok (.iload_n 0, 1) := by decide +kernel
theorem dX5_isAddress_1 : decode cX5_isAddress 1 = .ok (.ifCond .lt 20, 3) := by decide +kernel
theorem dX5_isAddress_4 : decode cX5_isAddress 4 = .ok (.iload_n 0, 1) := by decide +kernel
theorem dX5_isAddress_5 : decode cX5_isAddress 5 = .ok (.sipush 4092, 3) := by decide +kernel
theorem dX5_isAddress_8 : decode cX5_isAddress 8 = .ok (.if_icmp .gt 13, 3) := by decide +kernel
theorem dX5_isAddress_11 : decode cX5_isAddress 11 = .ok (.iload_n 0, 1) := by decide +kernel
theorem dX5_isAddress_12 : decode cX5_isAddress 12 = .ok (.iconst 3, 1) := by decide +kernel
theorem dX5_isAddress_13 : decode cX5_isAddress 13 = .ok (.iand, 1) := by decide +kernel
theorem dX5_isAddress_14 : decode cX5_isAddress 14 = .ok (.ifCond .ne 7, 3) := by decide +kernel
theorem dX5_isAddress_17 : decode cX5_isAddress 17 = .ok (.iconst 1, 1) := by decide +kernel
theorem dX5_isAddress_18 : decode cX5_isAddress 18 = .ok (.goto 4, 3) := by decide +kernel
theorem dX5_isAddress_21 : decode cX5_isAddress 21 = .ok (.iconst 0, 1) := by decide +kernel
theorem dX5_isAddress_22 : decode cX5_isAddress 22 = .ok (.ireturn, 1) := by decide +kernel
theorem dX5_put_0 : decode cX5_put 0 = .ok (.aload_n 0, 1) := by decide +kernel
theorem dX5_put_1 : decode cX5_put 1 = .ok (.iconst 0, 1) := by decide +kernel
theorem dX5_put_2 : decode cX5_put 2 = .ok (.putfield 19, 3) := by decide +kernel
theorem dX5_put_5 : decode cX5_put 5 = .ok (.iload_n 1, 1) := by decide +kernel
theorem dX5_put_6 : decode cX5_put 6 = .ok (.iconst 1, 1) := by decide +kernel
theorem dX5_put_7 : decode cX5_put 7 = .ok (.if_icmp .lt 21, 3) := by decide +kernel
theorem dX5_put_10 : decode cX5_put 10 = .ok (.iload_n 1, 1) := by decide +kernel
theorem dX5_put_11 : decode cX5_put 11 = .ok (.bipush 32, 2) := by decide +kernel
theorem dX5_put_13 : decode cX5_put 13 = .ok (.if_icmp .gt 15, 3) := by decide +kernel
theorem dX5_put_16 : decode cX5_put 16 = .ok (.iload_n 1, 1) := by decide +kernel
theorem dX5_put_17 : decode cX5_put 17 = .ok (.bipush 32, 2) := by decide +kernel
theorem dX5_put_19 : decode cX5_put 19 = .ok (.if_icmp .ne 11, 3) := by decide +kernel
theorem dX5_put_22 : decode cX5_put 22 = .ok (.iload_n 2, 1) := by decide +kernel
theorem dX5_put_23 : decode cX5_put 23 = .ok (.iconst 3, 1) := by decide +kernel
theorem dX5_put_24 : decode cX5_put 24 = .ok (.iand, 1) := by decide +kernel
theorem dX5_put_25 : decode cX5_put 25 = .ok (.ifCond .eq 5, 3) := by decide +kernel
theorem dX5_put_28 : decode cX5_put 28 = .ok (.iconst 0, 1) := by decide +kernel
theorem dX5_put_29 : decode cX5_put 29 = .ok (.ireturn, 1) := by decide +kernel
theorem dX5_put_30 : decode cX5_put 30 = .ok (.iload_n 1, 1) := by decide +kernel
theorem dX5_put_31 : decode cX5_put 31 = .ok (.bipush 32, 2) := by decide +kernel
theorem dX5_put_33 : decode cX5_put 33 = .ok (.if_icmp .ge 12, 3) := by decide +kernel
theorem dX5_put_36 : decode cX5_put 36 = .ok (.aload_n 0, 1) := by decide +kernel
theorem dX5_put_37 : decode cX5_put 37 = .ok (.getfield 13, 3) := by decide +kernel
theorem dX5_put_40 : decode cX5_put 40 = .ok (.iload_n 1, 1) := by decide +kernel
theorem dX5_put_41 : decode cX5_put 41 = .ok (.iload_n 2, 1) := by decide +kernel
theorem dX5_put_42 : decode cX5_put 42 = .ok (.iastore, 1) := by decide +kernel
theorem dX5_put_43 : decode cX5_put 43 = .ok (.iconst 1, 1) := by decide +kernel
theorem dX5_put_44 : decode cX5_put 44 = .ok (.ireturn, 1) := by decide +kernel
theorem dX5_put_45 : decode cX5_put 45 = .ok (.aload_n 0, 1) := by decide +kernel
theorem dX5_put_46 : decode cX5_put 46 = .ok (.iload_n 2, 1) := by decide +kernel
theorem dX5_put_47 : decode cX5_put 47 = .ok (.putfield 27, 3) := by decide +kernel
theorem dX5_put_50 : decode cX5_put 50 = .ok (.aload_n 0, 1) := by decide +kernel
theorem dX5_put_51 : decode cX5_put 51 = .ok (.iconst 0, 1) := by decide +kernel
theorem dX5_put_52 : decode cX5_put 52 = .ok (.putfield 30, 3) := by decide +kernel
theorem dX5_put_55 : decode cX5_put 55 = .ok (.iconst 1, 1) := by decide +kernel
theorem dX5_put_56 : decode cX5_put 56 = .ok (.ireturn, 1) := by decide +kernel
theorem dX5_line_0 : decode cX5_line 0 = .ok (.aload_n 0, 1) := by decide +kernel
theorem dX5_line_1 : decode cX5_line 1 = .ok (.iconst 0, 1) := by decide +kernel
theorem dX5_line_2 : decode cX5_line 2 = .ok (.putfield 19, 3) := by decide +kernel
theorem dX5_line_5 : decode cX5_line 5 = .ok (.aload_n 0, 1) := by decide +kernel
theorem dX5_line_6 : decode cX5_line 6 = .ok (.iload_n 1, 1) := by decide +kernel
theorem dX5_line_7 : decode cX5_line 7 = .ok (.putfield 34, 3) := by decide +kernel
theorem dX5_line_10 : decode cX5_line 10 = .ok (.return_, 1) := by decide +kernel
theorem dX5_run_0 : decode cX5_run 0 = .ok (.iload_n 1, 1) := by decide +kernel
theorem dX5_run_1 : decode cX5_run 1 = .ok (.iconst 1, 1) := by decide +kernel
theorem dX5_run_2 : decode cX5_run 2 = .ok (.if_icmp .lt 10, 3) := by decide +kernel
theorem dX5_run_5 : decode cX5_run 5 = .ok (.iload_n 1, 1) := by decide +kernel
theorem dX5_run_6 : decode cX5_run 6 = .ok (.sipush 1000, 3) := by decide +kernel
theorem dX5_run_9 : decode cX5_run 9 = .ok (.if_icmp .le 9, 3) := by decide +kernel
theorem dX5_run_12 : decode cX5_run 12 = .ok (.aload_n 0, 1) := by decide +kernel
theorem dX5_run_13 : decode cX5_run 13 = .ok (.iconst 1, 1) := by decide +kernel
theorem dX5_run_14 : decode cX5_run 14 = .ok (.invokevirtual 161, 3) := by decide +kernel
theorem dX5_run_17 : decode cX5_run 17 = .ok (.ireturn, 1) := by decide +kernel
theorem dX5_run_18 : decode cX5_run 18 = .ok (.aload_n 0, 1) := by decide +kernel
theorem dX5_run_19 : decode cX5_run 19 = .ok (.getfield 155, 3) := by decide +kernel
theorem dX5_run_22 : decode cX5_run 22 = .ok (.ldc 164, 2) := by decide +kernel
theorem dX5_run_24 : decode cX5_run 24 = .ok (.if_icmp .ne 9, 3) := by decide +kernel
theorem dX5_run_27 : decode cX5_run 27 = .ok (.aload_n 0, 1) := by decide +kernel
theorem dX5_run_28 : decode cX5_run 28 = .ok (.iconst 2, 1) := by decide +kernel
theorem dX5_run_29 : decode cX5_run 29 = .ok (.invokevirtual 161, 3) := by decide +kernel
theorem dX5_run_32 : decode cX5_run 32 = .ok (.ireturn, 1) := by decide +kernel
theorem dX5_run_33 : decode cX5_run 33 = .ok (.aload_n 0, 1) := by decide +kernel
theorem dX5_run_34 : decode cX5_run 34 = .ok (.iconst 0, 1) := by decide +kernel
theorem dX5_run_35 : decode cX5_run 35 = .ok (.putfield 19, 3) := by decide +kernel
theorem dX5_run_38 : decode cX5_run 38 = .ok (.iconst 0, 1) := by decide +kernel
theorem dX5_run_39 : decode cX5_run 39 = .ok (.istore_n 2, 1) := by decide +kernel
theorem dX5_run_40 : decode cX5_run 40 = .ok (.iload_n 2, 1) := by decide +kernel
theorem dX5_run_41 : decode cX5_run 41 = .ok (.iload_n 1, 1) := by decide +kernel
theorem dX5_run_42 : decode cX5_run 42 = .ok (.if_icmp .ge 29, 3) := by decide +kernel
