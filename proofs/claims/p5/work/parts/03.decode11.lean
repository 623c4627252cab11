theorem dX5_quotient_31 : decode cX5_quotient 31 = .ok (.iconst 1, 1) := by decide +kernel
theorem dX5_quotient_32 : decode cX5_quotient 32 = .ok (.iand, 1) := by decide +kernel
theorem dX5_quotient_33 : decode cX5_quotient 33 = .ok (.ior, 1) := by decide +kernel
theorem dX5_quotient_34 : decode cX5_quotient 34 = .ok (.istore_n 3, 1) := by decide +kernel
theorem dX5_quotient_35 : decode cX5_quotient 35 = .ok (.iload_n 2, 1) := by decide +kernel
theorem dX5_quotient_36 : decode cX5_quotient 36 = .ok (.iconst 1, 1) := by decide +kernel
theorem dX5_quotient_37 : decode cX5_quotient 37 = .ok (.ishl, 1) := by decide +kernel
theorem dX5_quotient_38 : decode cX5_quotient 38 = .ok (.istore_n 2, 1) := by decide +kernel
theorem dX5_quotient_39 : decode cX5_quotient 39 = .ok (.iload 5, 2) := by decide +kernel
theorem dX5_quotient_41 : decode cX5_quotient 41 = .ok (.ifCond .ne 11, 3) := by decide +kernel
theorem dX5_quotient_44 : decode cX5_quotient 44 = .ok (.iload_n 3, 1) := by decide +kernel
theorem dX5_quotient_45 : decode cX5_quotient 45 = .ok (.iload_n 1, 1) := by decide +kernel
theorem dX5_quotient_46 : decode cX5_quotient 46 = .ok (.invokestatic 75, 3) := by decide +kernel
theorem dX5_quotient_49 : decode cX5_quotient 49 = .ok (.ifCond .ne 11, 3) := by decide +kernel
theorem dX5_quotient_52 : decode cX5_quotient 52 = .ok (.iload_n 3, 1) := by decide +kernel
theorem dX5_quotient_53 : decode cX5_quotient 53 = .ok (.iload_n 1, 1) := by decide +kernel
theorem dX5_quotient_54 : decode cX5_quotient 54 = .ok (.isub, 1) := by decide +kernel
theorem dX5_quotient_55 : decode cX5_quotient 55 = .ok (.istore_n 3, 1) := by decide +kernel
theorem dX5_quotient_56 : decode cX5_quotient 56 = .ok (.iload_n 2, 1) := by decide +kernel
theorem dX5_quotient_57 : decode cX5_quotient 57 = .ok (.iconst 1, 1) := by decide +kernel
theorem dX5_quotient_58 : decode cX5_quotient 58 = .ok (.ior, 1) := by decide +kernel
theorem dX5_quotient_59 : decode cX5_quotient 59 = .ok (.istore_n 2, 1) := by decide +kernel
theorem dX5_quotient_60 : decode cX5_quotient 60 = .ok (.iinc 4 (-1), 3) := by decide +kernel
theorem dX5_quotient_63 : decode cX5_quotient 63 = .ok (.goto (-55), 3) := by decide +kernel
theorem dX5_quotient_66 : decode cX5_quotient 66 = .ok (.iload_n 2, 1) := by decide +kernel
theorem dX5_quotient_67 : decode cX5_quotient 67 = .ok (.ireturn, 1) := by decide +kernel
theorem dX5_system_0 : decode cX5_system 0 = .ok (.aload_n 0, 1) := by decide +kernel
theorem dX5_system_1 : decode cX5_system 1 = .ok (.getfield 37, 3) := by decide +kernel
theorem dX5_system_4 : decode cX5_system 4 = .ok (.bipush 115, 2) := by decide +kernel
theorem dX5_system_6 : decode cX5_system 6 = .ok (.if_icmp .ne 13, 3) := by decide +kernel
theorem dX5_system_9 : decode cX5_system 9 = .ok (.aload_n 0, 1) := by decide +kernel
theorem dX5_system_10 : decode cX5_system 10 = .ok (.bipush 11, 2) := by decide +kernel
theorem dX5_system_12 : decode cX5_system 12 = .ok (.iconst 0, 1) := by decide +kernel
theorem dX5_system_13 : decode cX5_system 13 = .ok (.invokevirtual 54, 3) := by decide +kernel
theorem dX5_system_16 : decode cX5_system 16 = .ok (.goto 73, 3) := by decide +kernel
theorem dX5_system_19 : decode cX5_system 19 = .ok (.aload_n 0, 1) := by decide +kernel
theorem dX5_system_20 : decode cX5_system 20 = .ok (.getfield 37, 3) := by decide +kernel
theorem dX5_system_23 : decode cX5_system 23 = .ok (.ldc 119, 2) := by decide +kernel
theorem dX5_system_25 : decode cX5_system 25 = .ok (.if_icmp .ne 15, 3) := by decide +kernel
theorem dX5_system_28 : decode cX5_system 28 = .ok (.aload_n 0, 1) := by decide +kernel
theorem dX5_system_29 : decode cX5_system 29 = .ok (.iconst 3, 1) := by decide +kernel
theorem dX5_system_30 : decode cX5_system 30 = .ok (.aload_n 0, 1) := by decide +kernel
theorem dX5_system_31 : decode cX5_system 31 = .ok (.getfield 27, 3) := by decide +kernel
theorem dX5_system_34 : decode cX5_system 34 = .ok (.invokevirtual 54, 3) := by decide +kernel
theorem dX5_system_37 : decode cX5_system 37 = .ok (.goto 52, 3) := by decide +kernel
theorem dX5_system_40 : decode cX5_system 40 = .ok (.aload_n 0, 1) := by decide +kernel
theorem dX5_system_41 : decode cX5_system 41 = .ok (.getfield 37, 3) := by decide +kernel
theorem dX5_system_44 : decode cX5_system 44 = .ok (.ldc 120, 2) := by decide +kernel
theorem dX5_system_46 : decode cX5_system 46 = .ok (.if_icmp .ne 39, 3) := by decide +kernel
theorem dX5_system_49 : decode cX5_system 49 = .ok (.aload_n 0, 1) := by decide +kernel
theorem dX5_system_50 : decode cX5_system 50 = .ok (.getfield 16, 3) := by decide +kernel
theorem dX5_system_53 : decode cX5_system 53 = .ok (.iconst 0, 1) := by decide +kernel
theorem dX5_system_54 : decode cX5_system 54 = .ok (.iaload, 1) := by decide +kernel
theorem dX5_system_55 : decode cX5_system 55 = .ok (.istore_n 1, 1) := by decide +kernel
theorem dX5_system_56 : decode cX5_system 56 = .ok (.aload_n 0, 1) := by decide +kernel
theorem dX5_system_57 : decode cX5_system 57 = .ok (.getfield 16, 3) := by decide +kernel
theorem dX5_system_60 : decode cX5_system 60 = .ok (.iconst 0, 1) := by decide +kernel
theorem dX5_system_61 : decode cX5_system 61 = .ok (.iload_n 1, 1) := by decide +kernel
theorem dX5_system_62 : decode cX5_system 62 = .ok (.iconst 4, 1) := by decide +kernel
theorem dX5_system_63 : decode cX5_system 63 = .ok (.ishr, 1) := by decide +kernel
theorem dX5_system_64 : decode cX5_system 64 = .ok (.bipush 8, 2) := by decide +kernel
theorem dX5_system_66 : decode cX5_system 66 = .ok (.iand, 1) := by decide +kernel
theorem dX5_system_67 : decode cX5_system 67 = .ok (.sipush 128, 3) := by decide +kernel
theorem dX5_system_70 : decode cX5_system 70 = .ok (.ior, 1) := by decide +kernel
theorem dX5_system_71 : decode cX5_system 71 = .ok (.iastore, 1) := by decide +kernel
theorem dX5_system_72 : decode cX5_system 72 = .ok (.aload_n 0, 1) := by decide +kernel
theorem dX5_system_73 : decode cX5_system 73 = .ok (.aload_n 0, 1) := by decide +kernel
theorem dX5_system_74 : decode cX5_system 74 = .ok (.getfield 16, 3) := by decide +kernel
theorem dX5_system_77 : decode cX5_system 77 = .ok (.iconst 4, 1) := by decide +kernel
theorem dX5_system_78 : decode cX5_system 78 = .ok (.iaload, 1) := by decide +kernel
theorem dX5_system_79 : decode cX5_system 79 = .ok (.putfield 58, 3) := by decide +kernel
theorem dX5_system_82 : decode cX5_system 82 = .ok (.goto 7, 3) := by decide +kernel
theorem dX5_system_85 : decode cX5_system 85 = .ok (.aload_n 0, 1) := by decide +kernel
theorem dX5_system_86 : decode cX5_system 86 = .ok (.invokevirtual 121, 3) := by decide +kernel
theorem dX5_system_89 : decode cX5_system 89 = .ok (.return_, 1) := by decide +kernel
theorem dX5_change_0 : decode cX5_change 0 = .ok (.aload_n 0, 1) := by decide +kernel
theorem dX5_change_1 : decode cX5_change 1 = .ok (.bipush 12, 2) := by decide +kernel
theorem dX5_change_3 : decode cX5_change 3 = .ok (.iconst 3, 1) := by decide +kernel
theorem dX5_change_4 : decode cX5_change 4 = .ok (.invokevirtual 40, 3) := by decide +kernel
theorem dX5_change_7 : decode cX5_change 7 = .ok (.istore_n 1, 1) := by decide +kernel
theorem dX5_change_8 : decode cX5_change 8 = .ok (.aload_n 0, 1) := by decide +kernel
theorem dX5_change_9 : decode cX5_change 9 = .ok (.bipush 20, 2) := by decide +kernel
theorem dX5_change_11 : decode cX5_change 11 = .ok (.bipush 12, 2) := by decide +kernel
theorem dX5_change_13 : decode cX5_change 13 = .ok (.invokevirtual 40, 3) := by decide +kernel
theorem dX5_change_16 : decode cX5_change 16 = .ok (.invokestatic 109, 3) := by decide +kernel
theorem dX5_change_19 : decode cX5_change 19 = .ok (.istore_n 2, 1) := by decide +kernel
theorem dX5_change_20 : decode cX5_change 20 = .ok (.aload_n 0, 1) := by decide +kernel
theorem dX5_change_21 : decode cX5_change 21 = .ok (.bipush 15, 2) := by decide +kernel
theorem dX5_change_23 : decode cX5_change 23 = .ok (.iconst 5, 1) := by decide +kernel
theorem dX5_change_24 : decode cX5_change 24 = .ok (.invokevirtual 40, 3) := by decide +kernel
theorem dX5_change_27 : decode cX5_change 27 = .ok (.istore_n 3, 1) := by decide +kernel
theorem dX5_change_28 : decode cX5_change 28 = .ok (.iload_n 1, 1) := by decide +kernel
theorem dX5_change_29 : decode cX5_change 29 = .ok (.iconst 3, 1) := by decide +kernel
theorem dX5_change_30 : decode cX5_change 30 = .ok (.iand, 1) := by decide +kernel
theorem dX5_change_31 : decode cX5_change 31 = .ok (.iconst 1, 1) := by decide +kernel
theorem dX5_change_32 : decode cX5_change 32 = .ok (.if_icmp .eq 7, 3) := by decide +kernel
theorem dX5_change_35 : decode cX5_change 35 = .ok (.iload_n 3, 1) := by decide +kernel
theorem dX5_change_36 : decode cX5_change 36 = .ok (.ifCond .eq 7, 3) := by decide +kernel
theorem dX5_change_39 : decode cX5_change 39 = .ok (.iconst 1, 1) := by decide +kernel
theorem dX5_change_40 : decode cX5_change 40 = .ok (.goto 4, 3) := by decide +kernel
theorem dX5_change_43 : decode cX5_change 43 = .ok (.iconst 0, 1) := by decide +kernel
theorem dX5_change_44 : decode cX5_change 44 = .ok (.istore 4, 2) := by decide +kernel
theorem dX5_change_46 : decode cX5_change 46 = .ok (.iload_n 1, 1) := by decide +kernel
theorem dX5_change_47 : decode cX5_change 47 = .ok (.iconst 3, 1) := by decide +kernel
theorem dX5_change_48 : decode cX5_change 48 = .ok (.iand, 1) := by decide +kernel
theorem dX5_change_49 : decode cX5_change 49 = .ok (.ifCond .eq 19, 3) := by decide +kernel
theorem dX5_change_52 : decode cX5_change 52 = .ok (.iload_n 2, 1) := by decide +kernel
theorem dX5_change_53 : decode cX5_change 53 = .ok (.iconst (-1), 1) := by decide +kernel
theorem dX5_change_54 : decode cX5_change 54 = .ok (.if_icmp .eq 14, 3) := by decide +kernel
theorem dX5_change_57 : decode cX5_change 57 = .ok (.iload 4, 2) := by decide +kernel
theorem dX5_change_59 : decode cX5_change 59 = .ok (.ifCond .eq 14, 3) := by decide +kernel
theorem dX5_change_62 : decode cX5_change 62 = .ok (.iload_n 2, 1) := by decide +kernel
theorem dX5_change_63 : decode cX5_change 63 = .ok (.bipush 7, 2) := by decide +kernel
theorem dX5_change_65 : decode cX5_change 65 = .ok (.if_icmp .lt 8, 3) := by decide +kernel
theorem dX5_change_68 : decode cX5_change 68 = .ok (.aload_n 0, 1) := by decide +kernel
theorem dX5_change_69 : decode cX5_change 69 = .ok (.invokevirtual 79, 3) := by decide +kernel
theorem dX5_change_72 : decode cX5_change 72 = .ok (.return_, 1) := by decide +kernel
theorem dX5_change_73 : decode cX5_change 73 = .ok (.iload_n 1, 1) := by decide +kernel
theorem dX5_change_74 : decode cX5_change 74 = .ok (.iconst 3, 1) := by decide +kernel
theorem dX5_change_75 : decode cX5_change 75 = .ok (.if_icmp .le 7, 3) := by decide +kernel
theorem dX5_change_78 : decode cX5_change 78 = .ok (.iload_n 3, 1) := by decide +kernel
theorem dX5_change_79 : decode cX5_change 79 = .ok (.goto 9, 3) := by decide +kernel
theorem dX5_change_82 : decode cX5_change 82 = .ok (.aload_n 0, 1) := by decide +kernel
theorem dX5_change_83 : decode cX5_change 83 = .ok (.getfield 13, 3) := by decide +kernel
theorem dX5_change_86 : decode cX5_change 86 = .ok (.iload_n 3, 1) := by decide +kernel
theorem dX5_change_87 : decode cX5_change 87 = .ok (.iaload, 1) := by decide +kernel
theorem dX5_change_88 : decode cX5_change 88 = .ok (.istore 5, 2) := by decide +kernel
theorem dX5_change_90 : decode cX5_change 90 = .ok (.aload_n 0, 1) := by decide +kernel
theorem dX5_change_91 : decode cX5_change 91 = .ok (.iload_n 2, 1) := by decide +kernel
theorem dX5_change_92 : decode cX5_change 92 = .ok (.invokevirtual 113, 3) := by decide +kernel
theorem dX5_change_95 : decode cX5_change 95 = .ok (.istore 6, 2) := by decide +kernel
theorem dX5_change_97 : decode cX5_change 97 = .ok (.iload 4, 2) := by decide +kernel
theorem dX5_change_99 : decode cX5_change 99 = .ok (.ifCond .eq 42, 3) := by decide +kernel
theorem dX5_change_102 : decode cX5_change 102 = .ok (.aload_n 0, 1) := by decide +kernel
theorem dX5_change_103 : decode cX5_change 103 = .ok (.iload_n 2, 1) := by decide +kernel
theorem dX5_change_104 : decode cX5_change 104 = .ok (.iload_n 1, 1) := by decide +kernel
theorem dX5_change_105 : decode cX5_change 105 = .ok (.iconst 3, 1) := by decide +kernel
theorem dX5_change_106 : decode cX5_change 106 = .ok (.iand, 1) := by decide +kernel
theorem dX5_change_107 : decode cX5_change 107 = .ok (.iconst 1, 1) := by decide +kernel
theorem dX5_change_108 : decode cX5_change 108 = .ok (.if_icmp .ne 8, 3) := by decide +kernel
theorem dX5_change_111 : decode cX5_change 111 = .ok (.iload 5, 2) := by decide +kernel
theorem dX5_change_113 : decode cX5_change 113 = .ok (.goto 25, 3) := by decide +kernel
theorem dX5_change_116 : decode cX5_change 116 = .ok (.iload_n 1, 1) := by decide +kernel
theorem dX5_change_117 : decode cX5_change 117 = .ok (.iconst 3, 1) := by decide +kernel
theorem dX5_change_118 : decode cX5_change 118 = .ok (.iand, 1) := by decide +kernel
theorem dX5_change_119 : decode cX5_change 119 = .ok (.iconst 2, 1) := by decide +kernel
theorem dX5_change_120 : decode cX5_change 120 = .ok (.if_icmp .ne 11, 3) := by decide +kernel
theorem dX5_change_123 : decode cX5_change 123 = .ok (.iload 6, 2) := by decide +kernel
theorem dX5_change_125 : decode cX5_change 125 = .ok (.iload 5, 2) := by decide +kernel
theorem dX5_change_127 : decode cX5_change 127 = .ok (.ior, 1) := by decide +kernel
theorem dX5_change_128 : decode cX5_change 128 = .ok (.goto 10, 3) := by decide +kernel
theorem dX5_change_131 : decode cX5_change 131 = .ok (.iload 6, 2) := by decide +kernel
theorem dX5_change_133 : decode cX5_change 133 = .ok (.iload 5, 2) := by decide +kernel
theorem dX5_change_135 : decode cX5_change 135 = .ok (.iconst (-1), 1) := by decide +kernel
theorem dX5_change_136 : decode cX5_change 136 = .ok (.ixor, 1) := by decide +kernel
theorem dX5_change_137 : decode cX5_change 137 = .ok (.iand, 1) := by decide +kernel
theorem dX5_change_138 : decode cX5_change 138 = .ok (.invokevirtual 116, 3) := by decide +kernel
theorem dX5_change_141 : decode cX5_change 141 = .ok (.aload_n 0, 1) := by decide +kernel
theorem dX5_change_142 : decode cX5_change 142 = .ok (.iload 6, 2) := by decide +kernel
theorem dX5_change_144 : decode cX5_change 144 = .ok (.invokevirtual 64, 3) := by decide +kernel
theorem dX5_change_147 : decode cX5_change 147 = .ok (.return_, 1) := by decide +kernel
theorem dX5_controlOf_0 : decode cX5_controlOf 0 = .ok (.iload_n 0, 1) := by decide +kernel
theorem dX5_controlOf_1 : decode cX5_controlOf 1 = .ok (.lookupswitch 104 #[(768, 83), (772, 85), (773, 87), (832, 89), (833, 91), (834, 93), (835, 95), (836, 98), (2816, 101)], 83) := by decide +kernel
theorem dX5_controlOf_84 : decode cX5_controlOf 84 = .ok (.iconst 0, 1) := by decide +kernel
theorem dX5_controlOf_85 : decode cX5_controlOf 85 = .ok (.ireturn, 1) := by decide +kernel
theorem dX5_controlOf_86 : decode cX5_controlOf 86 = .ok (.iconst 1, 1) := by decide +kernel
theorem dX5_controlOf_87 : decode cX5_controlOf 87 = .ok (.ireturn, 1) := by decide +kernel
theorem dX5_controlOf_88 : decode cX5_controlOf 88 = .ok (.iconst 2, 1) := by decide +kernel
theorem dX5_controlOf_89 : decode cX5_controlOf 89 = .ok (.ireturn, 1) := by decide +kernel
theorem dX5_controlOf_90 : decode cX5_controlOf 90 = .ok (.iconst 3, 1) := by decide +kernel
theorem dX5_controlOf_91 : decode cX5_controlOf 91 = .ok (.ireturn, 1) := by decide +kernel
theorem dX5_controlOf_92 : decode cX5_controlOf 92 = .ok (.iconst 4, 1) := by decide +kernel
theorem dX5_controlOf_93 : decode cX5_controlOf 93 = .ok (.ireturn, 1) := by decide +kernel
theorem dX5_controlOf_94 : decode cX5_controlOf 94 = .ok (.iconst 5, 1) := by decide +kernel
theorem dX5_controlOf_95 : decode cX5_controlOf 95 = .ok (.ireturn, 1) := by decide +kernel
theorem dX5_controlOf_96 : decode cX5_controlOf 96 = .ok (.bipush 6, 2) := by decide +kernel
theorem dX5_controlOf_98 : decode cX5_controlOf 98 = .ok (.ireturn, 1) := by decide +kernel
theorem dX5_controlOf_99 : decode cX5_controlOf 99 = .ok (.bipush 7, 2) := by decide +kernel
theorem dX5_controlOf_101 : decode cX5_controlOf 101 = .ok (.ireturn, 1) := by decide +kernel
theorem dX5_controlOf_102 : decode cX5_controlOf 102 = .ok (.bipush 8, 2) := by decide +kernel
theorem dX5_controlOf_104 : decode cX5_controlOf 104 = .ok (.ireturn, 1) := by decide +kernel
theorem dX5_controlOf_105 : decode cX5_controlOf 105 = .ok (.iconst (-1), 1) := by decide +kernel
theorem dX5_controlOf_106 : decode cX5_controlOf 106 = .ok (.ireturn, 1) := by decide +kernel
theorem dX5_has_0 : decode cX5_has 0 = .ok (.iload_n 1, 1) := by decide +kernel
theorem dX5_has_1 : decode cX5_has 1 = .ok (.bipush 7, 2) := by decide +kernel
theorem dX5_has_3 : decode cX5_has 3 = .ok (.if_icmp .ne 20, 3) := by decide +kernel
theorem dX5_has_6 : decode cX5_has 6 = .ok (.aload_n 0, 1) := by decide +kernel
theorem dX5_has_7 : decode cX5_has 7 = .ok (.getfield 34, 3) := by decide +kernel
theorem dX5_has_10 : decode cX5_has 10 = .ok (.ifCond .eq 9, 3) := by decide +kernel
theorem dX5_has_13 : decode cX5_has 13 = .ok (.sipush 2048, 3) := by decide +kernel
theorem dX5_has_16 : decode cX5_has 16 = .ok (.goto 26, 3) := by decide +kernel
theorem dX5_has_19 : decode cX5_has 19 = .ok (.iconst 0, 1) := by decide +kernel
theorem dX5_has_20 : decode cX5_has 20 = .ok (.goto 22, 3) := by decide +kernel
theorem dX5_has_23 : decode cX5_has 23 = .ok (.iload_n 1, 1) := by decide +kernel
theorem dX5_has_24 : decode cX5_has 24 = .ok (.bipush 8, 2) := by decide +kernel
theorem dX5_has_26 : decode cX5_has 26 = .ok (.if_icmp .ne 10, 3) := by decide +kernel
theorem dX5_has_29 : decode cX5_has 29 = .ok (.aload_n 0, 1) := by decide +kernel
theorem dX5_has_30 : decode cX5_has 30 = .ok (.getfield 106, 3) := by decide +kernel
theorem dX5_has_33 : decode cX5_has 33 = .ok (.goto 9, 3) := by decide +kernel
theorem dX5_has_36 : decode cX5_has 36 = .ok (.aload_n 0, 1) := by decide +kernel
theorem dX5_has_37 : decode cX5_has 37 = .ok (.getfield 16, 3) := by decide +kernel
theorem dX5_has_40 : decode cX5_has 40 = .ok (.iload_n 1, 1) := by decide +kernel
theorem dX5_has_41 : decode cX5_has 41 = .ok (.iaload, 1) := by decide +kernel
theorem dX5_has_42 : decode cX5_has 42 = .ok (.ireturn, 1) := by decide +kernel
theorem dX5_become_0 : decode cX5_become 0 = .ok (.aload_n 0, 1) := by decide +kernel
theorem dX5_become_1 : decode cX5_become 1 = .ok (.getfield 16, 3) := by decide +kernel
theorem dX5_become_4 : decode cX5_become 4 = .ok (.iload_n 1, 1) := by decide +kernel
theorem dX5_become_5 : decode cX5_become 5 = .ok (.iload_n 1, 1) := by decide +kernel
theorem dX5_become_6 : decode cX5_become 6 = .ok (.ifCond .ne 11, 3) := by decide +kernel
theorem dX5_become_9 : decode cX5_become 9 = .ok (.iload_n 2, 1) := by decide +kernel
theorem dX5_become_10 : decode cX5_become 10 = .ok (.sipush 136, 3) := by decide +kernel
theorem dX5_become_13 : decode cX5_become 13 = .ok (.iand, 1) := by decide +kernel
theorem dX5_become_14 : decode cX5_become 14 = .ok (.goto 34, 3) := by decide +kernel
theorem dX5_become_17 : decode cX5_become 17 = .ok (.iload_n 1, 1) := by decide +kernel
theorem dX5_become_18 : decode cX5_become 18 = .ok (.iconst 1, 1) := by decide +kernel
theorem dX5_become_19 : decode cX5_become 19 = .ok (.if_icmp .ne 11, 3) := by decide +kernel
theorem dX5_become_22 : decode cX5_become 22 = .ok (.iload_n 2, 1) := by decide +kernel
theorem dX5_become_23 : decode cX5_become 23 = .ok (.sipush 2048, 3) := by decide +kernel
theorem dX5_become_26 : decode cX5_become 26 = .ok (.iand, 1) := by decide +kernel
theorem dX5_become_27 : decode cX5_become 27 = .ok (.goto 21, 3) := by decide +kernel
theorem dX5_become_30 : decode cX5_become 30 = .ok (.iload_n 1, 1) := by decide +kernel
theorem dX5_become_31 : decode cX5_become 31 = .ok (.iconst 2, 1) := by decide +kernel
theorem dX5_become_32 : decode cX5_become 32 = .ok (.if_icmp .eq 8, 3) := by decide +kernel
theorem dX5_become_35 : decode cX5_become 35 = .ok (.iload_n 1, 1) := by decide +kernel
theorem dX5_become_36 : decode cX5_become 36 = .ok (.iconst 4, 1) := by decide +kernel
theorem dX5_become_37 : decode cX5_become 37 = .ok (.if_icmp .ne 10, 3) := by decide +kernel
theorem dX5_become_40 : decode cX5_become 40 = .ok (.iload_n 2, 1) := by decide +kernel
theorem dX5_become_41 : decode cX5_become 41 = .ok (.bipush (-4), 2) := by decide +kernel
theorem dX5_become_43 : decode cX5_become 43 = .ok (.iand, 1) := by decide +kernel
theorem dX5_become_44 : decode cX5_become 44 = .ok (.goto 4, 3) := by decide +kernel
theorem dX5_become_47 : decode cX5_become 47 = .ok (.iload_n 2, 1) := by decide +kernel
theorem dX5_become_48 : decode cX5_become 48 = .ok (.iastore, 1) := by decide +kernel
theorem dX5_become_49 : decode cX5_become 49 = .ok (.return_, 1) := by decide +kernel
theorem dX5_reset_0 : decode cX5_reset 0 = .ok (.aload_n 0, 1) := by decide +kernel
theorem dX5_reset_1 : decode cX5_reset 1 = .ok (.iconst 0, 1) := by decide +kernel
theorem dX5_reset_2 : decode cX5_reset 2 = .ok (.putfield 19, 3) := by decide +kernel
theorem dX5_reset_5 : decode cX5_reset 5 = .ok (.iconst 0, 1) := by decide +kernel
theorem dX5_reset_6 : decode cX5_reset 6 = .ok (.istore_n 2, 1) := by decide +kernel
theorem dX5_reset_7 : decode cX5_reset 7 = .ok (.iload_n 2, 1) := by decide +kernel
theorem dX5_reset_8 : decode cX5_reset 8 = .ok (.bipush 32, 2) := by decide +kernel
theorem dX5_reset_10 : decode cX5_reset 10 = .ok (.if_icmp .ge 16, 3) := by decide +kernel
theorem dX5_reset_13 : decode cX5_reset 13 = .ok (.aload_n 0, 1) := by decide +kernel
theorem dX5_reset_14 : decode cX5_reset 14 = .ok (.getfield 13, 3) := by decide +kernel
theorem dX5_reset_17 : decode cX5_reset 17 = .ok (.iload_n 2, 1) := by decide +kernel
theorem dX5_reset_18 : decode cX5_reset 18 = .ok (.iconst 0, 1) := by decide +kernel
theorem dX5_reset_19 : decode cX5_reset 19 = .ok (.iastore, 1) := by decide +kernel
theorem dX5_reset_20 : decode cX5_reset 20 = .ok (.iinc 2 1, 3) := by decide +kernel
theorem dX5_reset_23 : decode cX5_reset 23 = .ok (.goto (-16), 3) := by decide +kernel
theorem dX5_reset_26 : decode cX5_reset 26 = .ok (.iconst 0, 1) := by decide +kernel
theorem dX5_reset_27 : decode cX5_reset 27 = .ok (.istore_n 2, 1) := by decide +kernel
theorem dX5_reset_28 : decode cX5_reset 28 = .ok (.iload_n 2, 1) := by decide +kernel
theorem dX5_reset_29 : decode cX5_reset 29 = .ok (.bipush 9, 2) := by decide +kernel
theorem dX5_reset_31 : decode cX5_reset 31 = .ok (.if_icmp .ge 16, 3) := by decide +kernel
theorem dX5_reset_34 : decode cX5_reset 34 = .ok (.aload_n 0, 1) := by decide +kernel
theorem dX5_reset_35 : decode cX5_reset 35 = .ok (.getfield 16, 3) := by decide +kernel
theorem dX5_reset_38 : decode cX5_reset 38 = .ok (.iload_n 2, 1) := by decide +kernel
theorem dX5_reset_39 : decode cX5_reset 39 = .ok (.iconst 0, 1) := by decide +kernel
theorem dX5_reset_40 : decode cX5_reset 40 = .ok (.iastore, 1) := by decide +kernel
theorem dX5_reset_41 : decode cX5_reset 41 = .ok (.iinc 2 1, 3) := by decide +kernel
theorem dX5_reset_44 : decode cX5_reset 44 = .ok (.goto (-16), 3) := by decide +kernel
