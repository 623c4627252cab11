theorem dX3_isBy_0 : decode cX3_isBy 0 = .ok (.iload_n 0, 1) := by decide +kernel
theorem dX3_isBy_1 : decode cX3_isBy 1 = .ok (.iconst 1, 1) := by decide +kernel
theorem dX3_isBy_2 : decode cX3_isBy 2 = .ok (.iload_n 1, 1) := by decide +kernel
theorem dX3_isBy_3 : decode cX3_isBy 3 = .ok (.ishl, 1) := by decide +kernel
theorem dX3_isBy_4 : decode cX3_isBy 4 = .ok (.iconst 1, 1) := by decide +kernel
theorem dX3_isBy_5 : decode cX3_isBy 5 = .ok (.isub, 1) := by decide +kernel
theorem dX3_isBy_6 : decode cX3_isBy 6 = .ok (.iand, 1) := by decide +kernel
theorem dX3_isBy_7 : decode cX3_isBy 7 = .ok (.ifCond .ne 7, 3) := by decide +kernel
theorem dX3_isBy_10 : decode cX3_isBy 10 = .ok (.iconst 1, 1) := by decide +kernel
theorem dX3_isBy_11 : decode cX3_isBy 11 = .ok (.goto 4, 3) := by decide +kernel
theorem dX3_isBy_14 : decode cX3_isBy 14 = .ok (.iconst 0, 1) := by decide +kernel
theorem dX3_isBy_15 : decode cX3_isBy 15 = .ok (.ireturn, 1) := by decide +kernel
theorem dX3_readPart_0 : decode cX3_readPart 0 = .ok (.aload_n 0, 1) := by decide +kernel
theorem dX3_readPart_1 : decode cX3_readPart 1 = .ok (.iload_n 1, 1) := by decide +kernel
theorem dX3_readPart_2 : decode cX3_readPart 2 = .ok (.invokevirtual 17, 3) := by decide +kernel
theorem dX3_readPart_5 : decode cX3_readPart 5 = .ok (.iload_n 1, 1) := by decide +kernel
theorem dX3_readPart_6 : decode cX3_readPart 6 = .ok (.invokestatic 21, 3) := by decide +kernel
theorem dX3_readPart_9 : decode cX3_readPart 9 = .ok (.iushr, 1) := by decide +kernel
theorem dX3_readPart_10 : decode cX3_readPart 10 = .ok (.istore_n 3, 1) := by decide +kernel
theorem dX3_readPart_11 : decode cX3_readPart 11 = .ok (.iload_n 2, 1) := by decide +kernel
theorem dX3_readPart_12 : decode cX3_readPart 12 = .ok (.tableswitch 57 0 5 #[40, 43, 57, 57, 46, 52], 40) := by decide +kernel
theorem dX3_readPart_52 : decode cX3_readPart 52 = .ok (.iload_n 3, 1) := by decide +kernel
theorem dX3_readPart_53 : decode cX3_readPart 53 = .ok (.i2b, 1) := by decide +kernel
theorem dX3_readPart_54 : decode cX3_readPart 54 = .ok (.ireturn, 1) := by decide +kernel
theorem dX3_readPart_55 : decode cX3_readPart 55 = .ok (.iload_n 3, 1) := by decide +kernel
theorem dX3_readPart_56 : decode cX3_readPart 56 = .ok (.i2s, 1) := by decide +kernel
theorem dX3_readPart_57 : decode cX3_readPart 57 = .ok (.ireturn, 1) := by decide +kernel
theorem dX3_readPart_58 : decode cX3_readPart 58 = .ok (.iload_n 3, 1) := by decide +kernel
theorem dX3_readPart_59 : decode cX3_readPart 59 = .ok (.sipush 255, 3) := by decide +kernel
theorem dX3_readPart_62 : decode cX3_readPart 62 = .ok (.iand, 1) := by decide +kernel
theorem dX3_readPart_63 : decode cX3_readPart 63 = .ok (.ireturn, 1) := by decide +kernel
theorem dX3_readPart_64 : decode cX3_readPart 64 = .ok (.iload_n 3, 1) := by decide +kernel
theorem dX3_readPart_65 : decode cX3_readPart 65 = .ok (.ldc 24, 2) := by decide +kernel
theorem dX3_readPart_67 : decode cX3_readPart 67 = .ok (.iand, 1) := by decide +kernel
theorem dX3_readPart_68 : decode cX3_readPart 68 = .ok (.ireturn, 1) := by decide +kernel
theorem dX3_readPart_69 : decode cX3_readPart 69 = .ok (.iload_n 3, 1) := by decide +kernel
theorem dX3_readPart_70 : decode cX3_readPart 70 = .ok (.ireturn, 1) := by decide +kernel
theorem dX3_shift_0 : decode cX3_shift 0 = .ok (.iload_n 0, 1) := by decide +kernel
theorem dX3_shift_1 : decode cX3_shift 1 = .ok (.iconst 3, 1) := by decide +kernel
theorem dX3_shift_2 : decode cX3_shift 2 = .ok (.iand, 1) := by decide +kernel
theorem dX3_shift_3 : decode cX3_shift 3 = .ok (.bipush 8, 2) := by decide +kernel
theorem dX3_shift_5 : decode cX3_shift 5 = .ok (.imul, 1) := by decide +kernel
theorem dX3_shift_6 : decode cX3_shift 6 = .ok (.ireturn, 1) := by decide +kernel
theorem dX4_store_0 : decode cX4_store 0 = .ok (.iload_n 1, 1) := by decide +kernel
theorem dX4_store_1 : decode cX4_store 1 = .ok (.invokestatic 169, 3) := by decide +kernel
theorem dX4_store_4 : decode cX4_store 4 = .ok (.istore_n 2, 1) := by decide +kernel
theorem dX4_store_5 : decode cX4_store 5 = .ok (.iload_n 2, 1) := by decide +kernel
theorem dX4_store_6 : decode cX4_store 6 = .ok (.iconst 2, 1) := by decide +kernel
theorem dX4_store_7 : decode cX4_store 7 = .ok (.if_icmp .le 9, 3) := by decide +kernel
theorem dX4_store_10 : decode cX4_store 10 = .ok (.aload_n 0, 1) := by decide +kernel
theorem dX4_store_11 : decode cX4_store 11 = .ok (.iload_n 1, 1) := by decide +kernel
theorem dX4_store_12 : decode cX4_store 12 = .ok (.invokevirtual 178, 3) := by decide +kernel
theorem dX4_store_15 : decode cX4_store 15 = .ok (.ireturn, 1) := by decide +kernel
theorem dX4_store_16 : decode cX4_store 16 = .ok (.aload_n 0, 1) := by decide +kernel
theorem dX4_store_17 : decode cX4_store 17 = .ok (.iload_n 1, 1) := by decide +kernel
theorem dX4_store_18 : decode cX4_store 18 = .ok (.invokevirtual 194, 3) := by decide +kernel
theorem dX4_store_21 : decode cX4_store 21 = .ok (.iload_n 1, 1) := by decide +kernel
theorem dX4_store_22 : decode cX4_store 22 = .ok (.invokestatic 218, 3) := by decide +kernel
theorem dX4_store_25 : decode cX4_store 25 = .ok (.iadd, 1) := by decide +kernel
theorem dX4_store_26 : decode cX4_store 26 = .ok (.istore_n 3, 1) := by decide +kernel
theorem dX4_store_27 : decode cX4_store 27 = .ok (.iload_n 3, 1) := by decide +kernel
theorem dX4_store_28 : decode cX4_store 28 = .ok (.iload_n 2, 1) := by decide +kernel
theorem dX4_store_29 : decode cX4_store 29 = .ok (.invokestatic 211, 3) := by decide +kernel
theorem dX4_store_32 : decode cX4_store 32 = .ok (.ifCond .ne 11, 3) := by decide +kernel
theorem dX4_store_35 : decode cX4_store 35 = .ok (.aload_n 0, 1) := by decide +kernel
theorem dX4_store_36 : decode cX4_store 36 = .ok (.bipush 6, 2) := by decide +kernel
theorem dX4_store_38 : decode cX4_store 38 = .ok (.iload_n 3, 1) := by decide +kernel
theorem dX4_store_39 : decode cX4_store 39 = .ok (.invokevirtual 118, 3) := by decide +kernel
theorem dX4_store_42 : decode cX4_store 42 = .ok (.ireturn, 1) := by decide +kernel
theorem dX4_store_43 : decode cX4_store 43 = .ok (.iload_n 3, 1) := by decide +kernel
theorem dX4_store_44 : decode cX4_store 44 = .ok (.invokestatic 122, 3) := by decide +kernel
theorem dX4_store_47 : decode cX4_store 47 = .ok (.ifCond .ne 11, 3) := by decide +kernel
theorem dX4_store_50 : decode cX4_store 50 = .ok (.aload_n 0, 1) := by decide +kernel
theorem dX4_store_51 : decode cX4_store 51 = .ok (.bipush 7, 2) := by decide +kernel
theorem dX4_store_53 : decode cX4_store 53 = .ok (.iload_n 3, 1) := by decide +kernel
theorem dX4_store_54 : decode cX4_store 54 = .ok (.invokevirtual 118, 3) := by decide +kernel
theorem dX4_store_57 : decode cX4_store 57 = .ok (.ireturn, 1) := by decide +kernel
theorem dX4_store_58 : decode cX4_store 58 = .ok (.aload_n 0, 1) := by decide +kernel
theorem dX4_store_59 : decode cX4_store 59 = .ok (.getfield 10, 3) := by decide +kernel
theorem dX4_store_62 : decode cX4_store 62 = .ok (.iload_n 3, 1) := by decide +kernel
theorem dX4_store_63 : decode cX4_store 63 = .ok (.iload_n 2, 1) := by decide +kernel
theorem dX4_store_64 : decode cX4_store 64 = .ok (.aload_n 0, 1) := by decide +kernel
theorem dX4_store_65 : decode cX4_store 65 = .ok (.iload_n 1, 1) := by decide +kernel
theorem dX4_store_66 : decode cX4_store 66 = .ok (.invokevirtual 200, 3) := by decide +kernel
theorem dX4_store_69 : decode cX4_store 69 = .ok (.invokevirtual 221, 3) := by decide +kernel
theorem dX4_store_72 : decode cX4_store 72 = .ok (.aload_n 0, 1) := by decide +kernel
theorem dX4_store_73 : decode cX4_store 73 = .ok (.invokevirtual 166, 3) := by decide +kernel
theorem dX4_store_76 : decode cX4_store 76 = .ok (.ireturn, 1) := by decide +kernel
theorem dX1_numberS_0 : decode cX1_numberS 0 = .ok (.iload_n 0, 1) := by decide +kernel
theorem dX1_numberS_1 : decode cX1_numberS 1 = .ok (.bipush 25, 2) := by decide +kernel
theorem dX1_numberS_3 : decode cX1_numberS 3 = .ok (.ishr, 1) := by decide +kernel
theorem dX1_numberS_4 : decode cX1_numberS 4 = .ok (.iconst 5, 1) := by decide +kernel
theorem dX1_numberS_5 : decode cX1_numberS 5 = .ok (.ishl, 1) := by decide +kernel
theorem dX1_numberS_6 : decode cX1_numberS 6 = .ok (.iload_n 0, 1) := by decide +kernel
theorem dX1_numberS_7 : decode cX1_numberS 7 = .ok (.invokestatic 7, 3) := by decide +kernel
theorem dX1_numberS_10 : decode cX1_numberS 10 = .ok (.ior, 1) := by decide +kernel
theorem dX1_numberS_11 : decode cX1_numberS 11 = .ok (.ireturn, 1) := by decide +kernel
theorem dX3_writePart_0 : decode cX3_writePart 0 = .ok (.iload_n 2, 1) := by decide +kernel
theorem dX3_writePart_1 : decode cX3_writePart 1 = .ok (.invokestatic 25, 3) := by decide +kernel
theorem dX3_writePart_4 : decode cX3_writePart 4 = .ok (.iload_n 1, 1) := by decide +kernel
theorem dX3_writePart_5 : decode cX3_writePart 5 = .ok (.invokestatic 21, 3) := by decide +kernel
theorem dX3_writePart_8 : decode cX3_writePart 8 = .ok (.ishl, 1) := by decide +kernel
theorem dX3_writePart_9 : decode cX3_writePart 9 = .ok (.istore 4, 2) := by decide +kernel
theorem dX3_writePart_11 : decode cX3_writePart 11 = .ok (.aload_n 0, 1) := by decide +kernel
theorem dX3_writePart_12 : decode cX3_writePart 12 = .ok (.iload_n 1, 1) := by decide +kernel
theorem dX3_writePart_13 : decode cX3_writePart 13 = .ok (.invokevirtual 17, 3) := by decide +kernel
theorem dX3_writePart_16 : decode cX3_writePart 16 = .ok (.iload 4, 2) := by decide +kernel
theorem dX3_writePart_18 : decode cX3_writePart 18 = .ok (.iconst (-1), 1) := by decide +kernel
theorem dX3_writePart_19 : decode cX3_writePart 19 = .ok (.ixor, 1) := by decide +kernel
theorem dX3_writePart_20 : decode cX3_writePart 20 = .ok (.iand, 1) := by decide +kernel
theorem dX3_writePart_21 : decode cX3_writePart 21 = .ok (.istore 5, 2) := by decide +kernel
theorem dX3_writePart_23 : decode cX3_writePart 23 = .ok (.aload_n 0, 1) := by decide +kernel
theorem dX3_writePart_24 : decode cX3_writePart 24 = .ok (.iload_n 1, 1) := by decide +kernel
theorem dX3_writePart_25 : decode cX3_writePart 25 = .ok (.iload 5, 2) := by decide +kernel
theorem dX3_writePart_27 : decode cX3_writePart 27 = .ok (.iload_n 3, 1) := by decide +kernel
theorem dX3_writePart_28 : decode cX3_writePart 28 = .ok (.iload_n 1, 1) := by decide +kernel
theorem dX3_writePart_29 : decode cX3_writePart 29 = .ok (.invokestatic 21, 3) := by decide +kernel
theorem dX3_writePart_32 : decode cX3_writePart 32 = .ok (.ishl, 1) := by decide +kernel
theorem dX3_writePart_33 : decode cX3_writePart 33 = .ok (.iload 4, 2) := by decide +kernel
theorem dX3_writePart_35 : decode cX3_writePart 35 = .ok (.iand, 1) := by decide +kernel
theorem dX3_writePart_36 : decode cX3_writePart 36 = .ok (.ior, 1) := by decide +kernel
theorem dX3_writePart_37 : decode cX3_writePart 37 = .ok (.invokevirtual 28, 3) := by decide +kernel
theorem dX3_writePart_40 : decode cX3_writePart 40 = .ok (.return_, 1) := by decide +kernel
theorem dX3_partMask_0 : decode cX3_partMask 0 = .ok (.iload_n 0, 1) := by decide +kernel
theorem dX3_partMask_1 : decode cX3_partMask 1 = .ok (.lookupswitch 34 #[(0, 27), (1, 31)], 27) := by decide +kernel
theorem dX3_partMask_28 : decode cX3_partMask 28 = .ok (.sipush 255, 3) := by decide +kernel
theorem dX3_partMask_31 : decode cX3_partMask 31 = .ok (.ireturn, 1) := by decide +kernel
theorem dX3_partMask_32 : decode cX3_partMask 32 = .ok (.ldc 24, 2) := by decide +kernel
theorem dX3_partMask_34 : decode cX3_partMask 34 = .ok (.ireturn, 1) := by decide +kernel
theorem dX3_partMask_35 : decode cX3_partMask 35 = .ok (.iconst (-1), 1) := by decide +kernel
theorem dX3_partMask_36 : decode cX3_partMask 36 = .ok (.ireturn, 1) := by decide +kernel
theorem dX4_computeWithNumber_0 : decode cX4_computeWithNumber 0 = .ok (.iload_n 1, 1) := by decide +kernel
theorem dX4_computeWithNumber_1 : decode cX4_computeWithNumber 1 = .ok (.invokestatic 169, 3) := by decide +kernel
theorem dX4_computeWithNumber_4 : decode cX4_computeWithNumber 4 = .ok (.istore_n 2, 1) := by decide +kernel
theorem dX4_computeWithNumber_5 : decode cX4_computeWithNumber 5 = .ok (.iload_n 1, 1) := by decide +kernel
theorem dX4_computeWithNumber_6 : decode cX4_computeWithNumber 6 = .ok (.invokestatic 224, 3) := by decide +kernel
theorem dX4_computeWithNumber_9 : decode cX4_computeWithNumber 9 = .ok (.istore_n 3, 1) := by decide +kernel
theorem dX4_computeWithNumber_10 : decode cX4_computeWithNumber 10 = .ok (.iload_n 2, 1) := by decide +kernel
theorem dX4_computeWithNumber_11 : decode cX4_computeWithNumber 11 = .ok (.iconst 1, 1) := by decide +kernel
theorem dX4_computeWithNumber_12 : decode cX4_computeWithNumber 12 = .ok (.if_icmp .eq 27, 3) := by decide +kernel
theorem dX4_computeWithNumber_15 : decode cX4_computeWithNumber 15 = .ok (.iload_n 2, 1) := by decide +kernel
theorem dX4_computeWithNumber_16 : decode cX4_computeWithNumber 16 = .ok (.iconst 5, 1) := by decide +kernel
theorem dX4_computeWithNumber_17 : decode cX4_computeWithNumber 17 = .ok (.if_icmp .eq 22, 3) := by decide +kernel
theorem dX4_computeWithNumber_20 : decode cX4_computeWithNumber 20 = .ok (.aload_n 0, 1) := by decide +kernel
theorem dX4_computeWithNumber_21 : decode cX4_computeWithNumber 21 = .ok (.iload_n 1, 1) := by decide +kernel
theorem dX4_computeWithNumber_22 : decode cX4_computeWithNumber 22 = .ok (.iload_n 2, 1) := by decide +kernel
theorem dX4_computeWithNumber_23 : decode cX4_computeWithNumber 23 = .ok (.aload_n 0, 1) := by decide +kernel
theorem dX4_computeWithNumber_24 : decode cX4_computeWithNumber 24 = .ok (.iload_n 1, 1) := by decide +kernel
theorem dX4_computeWithNumber_25 : decode cX4_computeWithNumber 25 = .ok (.invokevirtual 194, 3) := by decide +kernel
theorem dX4_computeWithNumber_28 : decode cX4_computeWithNumber 28 = .ok (.iload_n 1, 1) := by decide +kernel
theorem dX4_computeWithNumber_29 : decode cX4_computeWithNumber 29 = .ok (.invokestatic 197, 3) := by decide +kernel
theorem dX4_computeWithNumber_32 : decode cX4_computeWithNumber 32 = .ok (.invokestatic 227, 3) := by decide +kernel
theorem dX4_computeWithNumber_35 : decode cX4_computeWithNumber 35 = .ok (.invokevirtual 136, 3) := by decide +kernel
theorem dX4_computeWithNumber_38 : decode cX4_computeWithNumber 38 = .ok (.ireturn, 1) := by decide +kernel
theorem dX4_computeWithNumber_39 : decode cX4_computeWithNumber 39 = .ok (.iload_n 3, 1) := by decide +kernel
theorem dX4_computeWithNumber_40 : decode cX4_computeWithNumber 40 = .ok (.ifCond .ne 22, 3) := by decide +kernel
theorem dX4_computeWithNumber_43 : decode cX4_computeWithNumber 43 = .ok (.aload_n 0, 1) := by decide +kernel
theorem dX4_computeWithNumber_44 : decode cX4_computeWithNumber 44 = .ok (.iload_n 1, 1) := by decide +kernel
theorem dX4_computeWithNumber_45 : decode cX4_computeWithNumber 45 = .ok (.iload_n 2, 1) := by decide +kernel
theorem dX4_computeWithNumber_46 : decode cX4_computeWithNumber 46 = .ok (.aload_n 0, 1) := by decide +kernel
theorem dX4_computeWithNumber_47 : decode cX4_computeWithNumber 47 = .ok (.iload_n 1, 1) := by decide +kernel
theorem dX4_computeWithNumber_48 : decode cX4_computeWithNumber 48 = .ok (.invokevirtual 194, 3) := by decide +kernel
theorem dX4_computeWithNumber_51 : decode cX4_computeWithNumber 51 = .ok (.iload_n 1, 1) := by decide +kernel
theorem dX4_computeWithNumber_52 : decode cX4_computeWithNumber 52 = .ok (.invokestatic 184, 3) := by decide +kernel
theorem dX4_computeWithNumber_55 : decode cX4_computeWithNumber 55 = .ok (.invokestatic 227, 3) := by decide +kernel
theorem dX4_computeWithNumber_58 : decode cX4_computeWithNumber 58 = .ok (.invokevirtual 136, 3) := by decide +kernel
theorem dX4_computeWithNumber_61 : decode cX4_computeWithNumber 61 = .ok (.ireturn, 1) := by decide +kernel
theorem dX4_computeWithNumber_62 : decode cX4_computeWithNumber 62 = .ok (.iload_n 3, 1) := by decide +kernel
theorem dX4_computeWithNumber_63 : decode cX4_computeWithNumber 63 = .ok (.bipush 32, 2) := by decide +kernel
theorem dX4_computeWithNumber_65 : decode cX4_computeWithNumber 65 = .ok (.if_icmp .ne 24, 3) := by decide +kernel
theorem dX4_computeWithNumber_68 : decode cX4_computeWithNumber 68 = .ok (.iload_n 2, 1) := by decide +kernel
theorem dX4_computeWithNumber_69 : decode cX4_computeWithNumber 69 = .ok (.iconst 5, 1) := by decide +kernel
theorem dX4_computeWithNumber_70 : decode cX4_computeWithNumber 70 = .ok (.if_icmp .ne 19, 3) := by decide +kernel
theorem dX4_computeWithNumber_73 : decode cX4_computeWithNumber 73 = .ok (.aload_n 0, 1) := by decide +kernel
theorem dX4_computeWithNumber_74 : decode cX4_computeWithNumber 74 = .ok (.iload_n 1, 1) := by decide +kernel
theorem dX4_computeWithNumber_75 : decode cX4_computeWithNumber 75 = .ok (.aload_n 0, 1) := by decide +kernel
theorem dX4_computeWithNumber_76 : decode cX4_computeWithNumber 76 = .ok (.iload_n 1, 1) := by decide +kernel
theorem dX4_computeWithNumber_77 : decode cX4_computeWithNumber 77 = .ok (.invokevirtual 194, 3) := by decide +kernel
theorem dX4_computeWithNumber_80 : decode cX4_computeWithNumber 80 = .ok (.iload_n 1, 1) := by decide +kernel
theorem dX4_computeWithNumber_81 : decode cX4_computeWithNumber 81 = .ok (.invokestatic 184, 3) := by decide +kernel
theorem dX4_computeWithNumber_84 : decode cX4_computeWithNumber 84 = .ok (.ishr, 1) := by decide +kernel
theorem dX4_computeWithNumber_85 : decode cX4_computeWithNumber 85 = .ok (.invokevirtual 136, 3) := by decide +kernel
theorem dX4_computeWithNumber_88 : decode cX4_computeWithNumber 88 = .ok (.ireturn, 1) := by decide +kernel
theorem dX4_computeWithNumber_89 : decode cX4_computeWithNumber 89 = .ok (.aload_n 0, 1) := by decide +kernel
theorem dX4_computeWithNumber_90 : decode cX4_computeWithNumber 90 = .ok (.iload_n 1, 1) := by decide +kernel
theorem dX4_computeWithNumber_91 : decode cX4_computeWithNumber 91 = .ok (.invokevirtual 178, 3) := by decide +kernel
theorem dX4_computeWithNumber_94 : decode cX4_computeWithNumber 94 = .ok (.ireturn, 1) := by decide +kernel
theorem dX1_s_0 : decode cX1_s 0 = .ok (.iload_n 0, 1) := by decide +kernel
theorem dX1_s_1 : decode cX1_s 1 = .ok (.bipush 25, 2) := by decide +kernel
theorem dX1_s_3 : decode cX1_s 3 = .ok (.iushr, 1) := by decide +kernel
theorem dX1_s_4 : decode cX1_s 4 = .ok (.ireturn, 1) := by decide +kernel
theorem dX0_basic_0 : decode cX0_basic 0 = .ok (.iload_n 0, 1) := by decide +kernel
theorem dX0_basic_1 : decode cX0_basic 1 = .ok (.tableswitch 94 0 6 #[43, 47, 54, 65, 79, 83, 90], 43) := by decide +kernel
theorem dX0_basic_44 : decode cX0_basic 44 = .ok (.iload_n 1, 1) := by decide +kernel
theorem dX0_basic_45 : decode cX0_basic 45 = .ok (.iload_n 2, 1) := by decide +kernel
theorem dX0_basic_46 : decode cX0_basic 46 = .ok (.iadd, 1) := by decide +kernel
theorem dX0_basic_47 : decode cX0_basic 47 = .ok (.ireturn, 1) := by decide +kernel
theorem dX0_basic_48 : decode cX0_basic 48 = .ok (.iload_n 1, 1) := by decide +kernel
theorem dX0_basic_49 : decode cX0_basic 49 = .ok (.iload_n 2, 1) := by decide +kernel
theorem dX0_basic_50 : decode cX0_basic 50 = .ok (.bipush 31, 2) := by decide +kernel
theorem dX0_basic_52 : decode cX0_basic 52 = .ok (.iand, 1) := by decide +kernel
theorem dX0_basic_53 : decode cX0_basic 53 = .ok (.ishl, 1) := by decide +kernel
theorem dX0_basic_54 : decode cX0_basic 54 = .ok (.ireturn, 1) := by decide +kernel
theorem dX0_basic_55 : decode cX0_basic 55 = .ok (.iload_n 1, 1) := by decide +kernel
theorem dX0_basic_56 : decode cX0_basic 56 = .ok (.iload_n 2, 1) := by decide +kernel
theorem dX0_basic_57 : decode cX0_basic 57 = .ok (.if_icmp .ge 7, 3) := by decide +kernel
theorem dX0_basic_60 : decode cX0_basic 60 = .ok (.iconst 1, 1) := by decide +kernel
theorem dX0_basic_61 : decode cX0_basic 61 = .ok (.goto 4, 3) := by decide +kernel
theorem dX0_basic_64 : decode cX0_basic 64 = .ok (.iconst 0, 1) := by decide +kernel
theorem dX0_basic_65 : decode cX0_basic 65 = .ok (.ireturn, 1) := by decide +kernel
theorem dX0_basic_66 : decode cX0_basic 66 = .ok (.iload_n 1, 1) := by decide +kernel
theorem dX0_basic_67 : decode cX0_basic 67 = .ok (.iload_n 2, 1) := by decide +kernel
theorem dX0_basic_68 : decode cX0_basic 68 = .ok (.invokestatic 11, 3) := by decide +kernel
theorem dX0_basic_71 : decode cX0_basic 71 = .ok (.ifCond .eq 7, 3) := by decide +kernel
theorem dX0_basic_74 : decode cX0_basic 74 = .ok (.iconst 1, 1) := by decide +kernel
theorem dX0_basic_75 : decode cX0_basic 75 = .ok (.goto 4, 3) := by decide +kernel
theorem dX0_basic_78 : decode cX0_basic 78 = .ok (.iconst 0, 1) := by decide +kernel
theorem dX0_basic_79 : decode cX0_basic 79 = .ok (.ireturn, 1) := by decide +kernel
theorem dX0_basic_80 : decode cX0_basic 80 = .ok (.iload_n 1, 1) := by decide +kernel
theorem dX0_basic_81 : decode cX0_basic 81 = .ok (.iload_n 2, 1) := by decide +kernel
theorem dX0_basic_82 : decode cX0_basic 82 = .ok (.ixor, 1) := by decide +kernel
theorem dX0_basic_83 : decode cX0_basic 83 = .ok (.ireturn, 1) := by decide +kernel
theorem dX0_basic_84 : decode cX0_basic 84 = .ok (.iload_n 1, 1) := by decide +kernel
theorem dX0_basic_85 : decode cX0_basic 85 = .ok (.iload_n 2, 1) := by decide +kernel
theorem dX0_basic_86 : decode cX0_basic 86 = .ok (.bipush 31, 2) := by decide +kernel
theorem dX0_basic_88 : decode cX0_basic 88 = .ok (.iand, 1) := by decide +kernel
theorem dX0_basic_89 : decode cX0_basic 89 = .ok (.iushr, 1) := by decide +kernel
theorem dX0_basic_90 : decode cX0_basic 90 = .ok (.ireturn, 1) := by decide +kernel
theorem dX0_basic_91 : decode cX0_basic 91 = .ok (.iload_n 1, 1) := by decide +kernel
theorem dX0_basic_92 : decode cX0_basic 92 = .ok (.iload_n 2, 1) := by decide +kernel
theorem dX0_basic_93 : decode cX0_basic 93 = .ok (.ior, 1) := by decide +kernel
theorem dX0_basic_94 : decode cX0_basic 94 = .ok (.ireturn, 1) := by decide +kernel
theorem dX0_basic_95 : decode cX0_basic 95 = .ok (.iload_n 1, 1) := by decide +kernel
theorem dX0_basic_96 : decode cX0_basic 96 = .ok (.iload_n 2, 1) := by decide +kernel
theorem dX0_basic_97 : decode cX0_basic 97 = .ok (.iand, 1) := by decide +kernel
theorem dX0_basic_98 : decode cX0_basic 98 = .ok (.ireturn, 1) := by decide +kernel
theorem dX4_computeWithRegister_0 : decode cX4_computeWithRegister 0 = .ok (.iload_n 1, 1) := by decide +kernel
theorem dX4_computeWithRegister_1 : decode cX4_computeWithRegister 1 = .ok (.invokestatic 169, 3) := by decide +kernel
theorem dX4_computeWithRegister_4 : decode cX4_computeWithRegister 4 = .ok (.istore_n 2, 1) := by decide +kernel
theorem dX4_computeWithRegister_5 : decode cX4_computeWithRegister 5 = .ok (.iload_n 1, 1) := by decide +kernel
theorem dX4_computeWithRegister_6 : decode cX4_computeWithRegister 6 = .ok (.invokestatic 224, 3) := by decide +kernel
theorem dX4_computeWithRegister_9 : decode cX4_computeWithRegister 9 = .ok (.istore_n 3, 1) := by decide +kernel
theorem dX4_computeWithRegister_10 : decode cX4_computeWithRegister 10 = .ok (.iload_n 3, 1) := by decide +kernel
theorem dX4_computeWithRegister_11 : decode cX4_computeWithRegister 11 = .ok (.ifCond .ne 23, 3) := by decide +kernel
theorem dX4_computeWithRegister_14 : decode cX4_computeWithRegister 14 = .ok (.aload_n 0, 1) := by decide +kernel
theorem dX4_computeWithRegister_15 : decode cX4_computeWithRegister 15 = .ok (.iload_n 1, 1) := by decide +kernel
theorem dX4_computeWithRegister_16 : decode cX4_computeWithRegister 16 = .ok (.iload_n 2, 1) := by decide +kernel
theorem dX4_computeWithRegister_17 : decode cX4_computeWithRegister 17 = .ok (.aload_n 0, 1) := by decide +kernel
theorem dX4_computeWithRegister_18 : decode cX4_computeWithRegister 18 = .ok (.iload_n 1, 1) := by decide +kernel
theorem dX4_computeWithRegister_19 : decode cX4_computeWithRegister 19 = .ok (.invokevirtual 194, 3) := by decide +kernel
theorem dX4_computeWithRegister_22 : decode cX4_computeWithRegister 22 = .ok (.aload_n 0, 1) := by decide +kernel
theorem dX4_computeWithRegister_23 : decode cX4_computeWithRegister 23 = .ok (.iload_n 1, 1) := by decide +kernel
theorem dX4_computeWithRegister_24 : decode cX4_computeWithRegister 24 = .ok (.invokevirtual 200, 3) := by decide +kernel
theorem dX4_computeWithRegister_27 : decode cX4_computeWithRegister 27 = .ok (.invokestatic 227, 3) := by decide +kernel
theorem dX4_computeWithRegister_30 : decode cX4_computeWithRegister 30 = .ok (.invokevirtual 136, 3) := by decide +kernel
theorem dX4_computeWithRegister_33 : decode cX4_computeWithRegister 33 = .ok (.ireturn, 1) := by decide +kernel
theorem dX4_computeWithRegister_34 : decode cX4_computeWithRegister 34 = .ok (.iload_n 3, 1) := by decide +kernel
theorem dX4_computeWithRegister_35 : decode cX4_computeWithRegister 35 = .ok (.iconst 1, 1) := by decide +kernel
theorem dX4_computeWithRegister_36 : decode cX4_computeWithRegister 36 = .ok (.if_icmp .ne 23, 3) := by decide +kernel
theorem dX4_computeWithRegister_39 : decode cX4_computeWithRegister 39 = .ok (.aload_n 0, 1) := by decide +kernel
