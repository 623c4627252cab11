theorem dX5_reset_47 : decode cX5_reset 47 = .ok (.iconst 0, 1) := by decide +kernel
theorem dX5_reset_48 : decode cX5_reset 48 = .ok (.istore_n 2, 1) := by decide +kernel
theorem dX5_reset_49 : decode cX5_reset 49 = .ok (.iload_n 2, 1) := by decide +kernel
theorem dX5_reset_50 : decode cX5_reset 50 = .ok (.sipush 1024, 3) := by decide +kernel
theorem dX5_reset_53 : decode cX5_reset 53 = .ok (.if_icmp .ge 20, 3) := by decide +kernel
theorem dX5_reset_56 : decode cX5_reset 56 = .ok (.iload_n 1, 1) := by decide +kernel
theorem dX5_reset_57 : decode cX5_reset 57 = .ok (.ifCond .eq 16, 3) := by decide +kernel
theorem dX5_reset_60 : decode cX5_reset 60 = .ok (.aload_n 0, 1) := by decide +kernel
theorem dX5_reset_61 : decode cX5_reset 61 = .ok (.getfield 7, 3) := by decide +kernel
theorem dX5_reset_64 : decode cX5_reset 64 = .ok (.iload_n 2, 1) := by decide +kernel
theorem dX5_reset_65 : decode cX5_reset 65 = .ok (.iconst 0, 1) := by decide +kernel
theorem dX5_reset_66 : decode cX5_reset 66 = .ok (.iastore, 1) := by decide +kernel
theorem dX5_reset_67 : decode cX5_reset 67 = .ok (.iinc 2 1, 3) := by decide +kernel
theorem dX5_reset_70 : decode cX5_reset 70 = .ok (.goto (-21), 3) := by decide +kernel
theorem dX5_reset_73 : decode cX5_reset 73 = .ok (.aload_n 0, 1) := by decide +kernel
theorem dX5_reset_74 : decode cX5_reset 74 = .ok (.iconst 0, 1) := by decide +kernel
theorem dX5_reset_75 : decode cX5_reset 75 = .ok (.putfield 27, 3) := by decide +kernel
theorem dX5_reset_78 : decode cX5_reset 78 = .ok (.aload_n 0, 1) := by decide +kernel
theorem dX5_reset_79 : decode cX5_reset 79 = .ok (.iconst 0, 1) := by decide +kernel
theorem dX5_reset_80 : decode cX5_reset 80 = .ok (.putfield 30, 3) := by decide +kernel
theorem dX5_reset_83 : decode cX5_reset 83 = .ok (.aload_n 0, 1) := by decide +kernel
theorem dX5_reset_84 : decode cX5_reset 84 = .ok (.iconst 0, 1) := by decide +kernel
theorem dX5_reset_85 : decode cX5_reset 85 = .ok (.putfield 106, 3) := by decide +kernel
theorem dX5_reset_88 : decode cX5_reset 88 = .ok (.aload_n 0, 1) := by decide +kernel
theorem dX5_reset_89 : decode cX5_reset 89 = .ok (.iconst 0, 1) := by decide +kernel
theorem dX5_reset_90 : decode cX5_reset 90 = .ok (.putfield 158, 3) := by decide +kernel
theorem dX5_reset_93 : decode cX5_reset 93 = .ok (.return_, 1) := by decide +kernel
theorem dX5_register_0 : decode cX5_register 0 = .ok (.aload_n 0, 1) := by decide +kernel
theorem dX5_register_1 : decode cX5_register 1 = .ok (.iload_n 1, 1) := by decide +kernel
theorem dX5_register_2 : decode cX5_register 2 = .ok (.ifCond .lt 9, 3) := by decide +kernel
theorem dX5_register_5 : decode cX5_register 5 = .ok (.iload_n 1, 1) := by decide +kernel
theorem dX5_register_6 : decode cX5_register 6 = .ok (.bipush 32, 2) := by decide +kernel
theorem dX5_register_8 : decode cX5_register 8 = .ok (.if_icmp .le 7, 3) := by decide +kernel
theorem dX5_register_11 : decode cX5_register 11 = .ok (.iconst 1, 1) := by decide +kernel
theorem dX5_register_12 : decode cX5_register 12 = .ok (.goto 4, 3) := by decide +kernel
theorem dX5_register_15 : decode cX5_register 15 = .ok (.iconst 0, 1) := by decide +kernel
theorem dX5_register_16 : decode cX5_register 16 = .ok (.putfield 19, 3) := by decide +kernel
theorem dX5_register_19 : decode cX5_register 19 = .ok (.aload_n 0, 1) := by decide +kernel
theorem dX5_register_20 : decode cX5_register 20 = .ok (.getfield 19, 3) := by decide +kernel
theorem dX5_register_23 : decode cX5_register 23 = .ok (.ifCond .le 7, 3) := by decide +kernel
theorem dX5_register_26 : decode cX5_register 26 = .ok (.iconst 0, 1) := by decide +kernel
theorem dX5_register_27 : decode cX5_register 27 = .ok (.goto 22, 3) := by decide +kernel
theorem dX5_register_30 : decode cX5_register 30 = .ok (.iload_n 1, 1) := by decide +kernel
theorem dX5_register_31 : decode cX5_register 31 = .ok (.bipush 32, 2) := by decide +kernel
theorem dX5_register_33 : decode cX5_register 33 = .ok (.if_icmp .ne 10, 3) := by decide +kernel
theorem dX5_register_36 : decode cX5_register 36 = .ok (.aload_n 0, 1) := by decide +kernel
theorem dX5_register_37 : decode cX5_register 37 = .ok (.getfield 27, 3) := by decide +kernel
theorem dX5_register_40 : decode cX5_register 40 = .ok (.goto 9, 3) := by decide +kernel
theorem dX5_register_43 : decode cX5_register 43 = .ok (.aload_n 0, 1) := by decide +kernel
theorem dX5_register_44 : decode cX5_register 44 = .ok (.getfield 13, 3) := by decide +kernel
theorem dX5_register_47 : decode cX5_register 47 = .ok (.iload_n 1, 1) := by decide +kernel
theorem dX5_register_48 : decode cX5_register 48 = .ok (.iaload, 1) := by decide +kernel
theorem dX5_register_49 : decode cX5_register 49 = .ok (.ireturn, 1) := by decide +kernel
theorem dX5_control_0 : decode cX5_control 0 = .ok (.iload_n 1, 1) := by decide +kernel
theorem dX5_control_1 : decode cX5_control 1 = .ok (.invokestatic 109, 3) := by decide +kernel
theorem dX5_control_4 : decode cX5_control 4 = .ok (.istore_n 2, 1) := by decide +kernel
theorem dX5_control_5 : decode cX5_control 5 = .ok (.aload_n 0, 1) := by decide +kernel
theorem dX5_control_6 : decode cX5_control 6 = .ok (.iload_n 2, 1) := by decide +kernel
theorem dX5_control_7 : decode cX5_control 7 = .ok (.iconst (-1), 1) := by decide +kernel
theorem dX5_control_8 : decode cX5_control 8 = .ok (.if_icmp .ne 7, 3) := by decide +kernel
theorem dX5_control_11 : decode cX5_control 11 = .ok (.iconst 1, 1) := by decide +kernel
theorem dX5_control_12 : decode cX5_control 12 = .ok (.goto 4, 3) := by decide +kernel
theorem dX5_control_15 : decode cX5_control 15 = .ok (.iconst 0, 1) := by decide +kernel
theorem dX5_control_16 : decode cX5_control 16 = .ok (.putfield 19, 3) := by decide +kernel
theorem dX5_control_19 : decode cX5_control 19 = .ok (.iload_n 2, 1) := by decide +kernel
theorem dX5_control_20 : decode cX5_control 20 = .ok (.iconst (-1), 1) := by decide +kernel
theorem dX5_control_21 : decode cX5_control 21 = .ok (.if_icmp .ne 7, 3) := by decide +kernel
theorem dX5_control_24 : decode cX5_control 24 = .ok (.iconst 0, 1) := by decide +kernel
theorem dX5_control_25 : decode cX5_control 25 = .ok (.goto 8, 3) := by decide +kernel
theorem dX5_control_28 : decode cX5_control 28 = .ok (.aload_n 0, 1) := by decide +kernel
theorem dX5_control_29 : decode cX5_control 29 = .ok (.iload_n 2, 1) := by decide +kernel
theorem dX5_control_30 : decode cX5_control 30 = .ok (.invokevirtual 113, 3) := by decide +kernel
theorem dX5_control_33 : decode cX5_control 33 = .ok (.ireturn, 1) := by decide +kernel
theorem dX5_word_0 : decode cX5_word 0 = .ok (.aload_n 0, 1) := by decide +kernel
theorem dX5_word_1 : decode cX5_word 1 = .ok (.iload_n 1, 1) := by decide +kernel
theorem dX5_word_2 : decode cX5_word 2 = .ok (.invokestatic 23, 3) := by decide +kernel
theorem dX5_word_5 : decode cX5_word 5 = .ok (.ifCond .eq 7, 3) := by decide +kernel
theorem dX5_word_8 : decode cX5_word 8 = .ok (.iconst 0, 1) := by decide +kernel
theorem dX5_word_9 : decode cX5_word 9 = .ok (.goto 4, 3) := by decide +kernel
theorem dX5_word_12 : decode cX5_word 12 = .ok (.iconst 1, 1) := by decide +kernel
theorem dX5_word_13 : decode cX5_word 13 = .ok (.putfield 19, 3) := by decide +kernel
theorem dX5_word_16 : decode cX5_word 16 = .ok (.aload_n 0, 1) := by decide +kernel
theorem dX5_word_17 : decode cX5_word 17 = .ok (.getfield 19, 3) := by decide +kernel
theorem dX5_word_20 : decode cX5_word 20 = .ok (.ifCond .le 7, 3) := by decide +kernel
theorem dX5_word_23 : decode cX5_word 23 = .ok (.iconst 0, 1) := by decide +kernel
theorem dX5_word_24 : decode cX5_word 24 = .ok (.goto 11, 3) := by decide +kernel
theorem dX5_word_27 : decode cX5_word 27 = .ok (.aload_n 0, 1) := by decide +kernel
theorem dX5_word_28 : decode cX5_word 28 = .ok (.getfield 7, 3) := by decide +kernel
theorem dX5_word_31 : decode cX5_word 31 = .ok (.iload_n 1, 1) := by decide +kernel
theorem dX5_word_32 : decode cX5_word 32 = .ok (.iconst 4, 1) := by decide +kernel
theorem dX5_word_33 : decode cX5_word 33 = .ok (.idiv, 1) := by decide +kernel
theorem dX5_word_34 : decode cX5_word 34 = .ok (.iaload, 1) := by decide +kernel
theorem dX5_word_35 : decode cX5_word 35 = .ok (.ireturn, 1) := by decide +kernel
theorem dX5_state_0 : decode cX5_state 0 = .ok (.aload_n 0, 1) := by decide +kernel
theorem dX5_state_1 : decode cX5_state 1 = .ok (.iconst 0, 1) := by decide +kernel
theorem dX5_state_2 : decode cX5_state 2 = .ok (.putfield 19, 3) := by decide +kernel
theorem dX5_state_5 : decode cX5_state 5 = .ok (.iload_n 1, 1) := by decide +kernel
theorem dX5_state_6 : decode cX5_state 6 = .ok (.tableswitch 78 0 4 #[34, 47, 52, 60, 65], 34) := by decide +kernel
theorem dX5_state_40 : decode cX5_state 40 = .ok (.aload_n 0, 1) := by decide +kernel
theorem dX5_state_41 : decode cX5_state 41 = .ok (.getfield 30, 3) := by decide +kernel
theorem dX5_state_44 : decode cX5_state 44 = .ok (.ifCond .eq 7, 3) := by decide +kernel
theorem dX5_state_47 : decode cX5_state 47 = .ok (.iconst 1, 1) := by decide +kernel
theorem dX5_state_48 : decode cX5_state 48 = .ok (.goto 4, 3) := by decide +kernel
theorem dX5_state_51 : decode cX5_state 51 = .ok (.iconst 0, 1) := by decide +kernel
theorem dX5_state_52 : decode cX5_state 52 = .ok (.ireturn, 1) := by decide +kernel
theorem dX5_state_53 : decode cX5_state 53 = .ok (.aload_n 0, 1) := by decide +kernel
theorem dX5_state_54 : decode cX5_state 54 = .ok (.getfield 155, 3) := by decide +kernel
theorem dX5_state_57 : decode cX5_state 57 = .ok (.ireturn, 1) := by decide +kernel
theorem dX5_state_58 : decode cX5_state 58 = .ok (.aload_n 0, 1) := by decide +kernel
theorem dX5_state_59 : decode cX5_state 59 = .ok (.getfield 106, 3) := by decide +kernel
theorem dX5_state_62 : decode cX5_state 62 = .ok (.ldc 168, 2) := by decide +kernel
theorem dX5_state_64 : decode cX5_state 64 = .ok (.iand, 1) := by decide +kernel
theorem dX5_state_65 : decode cX5_state 65 = .ok (.ireturn, 1) := by decide +kernel
theorem dX5_state_66 : decode cX5_state 66 = .ok (.aload_n 0, 1) := by decide +kernel
theorem dX5_state_67 : decode cX5_state 67 = .ok (.getfield 158, 3) := by decide +kernel
theorem dX5_state_70 : decode cX5_state 70 = .ok (.ireturn, 1) := by decide +kernel
theorem dX5_state_71 : decode cX5_state 71 = .ok (.aload_n 0, 1) := by decide +kernel
theorem dX5_state_72 : decode cX5_state 72 = .ok (.getfield 34, 3) := by decide +kernel
theorem dX5_state_75 : decode cX5_state 75 = .ok (.ifCond .eq 7, 3) := by decide +kernel
theorem dX5_state_78 : decode cX5_state 78 = .ok (.iconst 1, 1) := by decide +kernel
theorem dX5_state_79 : decode cX5_state 79 = .ok (.goto 4, 3) := by decide +kernel
theorem dX5_state_82 : decode cX5_state 82 = .ok (.iconst 0, 1) := by decide +kernel
theorem dX5_state_83 : decode cX5_state 83 = .ok (.ireturn, 1) := by decide +kernel
theorem dX5_state_84 : decode cX5_state 84 = .ok (.iconst (-1), 1) := by decide +kernel
theorem dX5_state_85 : decode cX5_state 85 = .ok (.ireturn, 1) := by decide +kernel
