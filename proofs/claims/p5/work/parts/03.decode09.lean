theorem dX5_load_95 : decode cX5_load 95 = .ok (.istore 4, 2) := by decide +kernel
theorem dX5_load_97 : decode cX5_load 97 = .ok (.iload_n 1, 1) := by decide +kernel
theorem dX5_load_98 : decode cX5_load 98 = .ok (.iconst 4, 1) := by decide +kernel
theorem dX5_load_99 : decode cX5_load 99 = .ok (.if_icmp .ne 11, 3) := by decide +kernel
theorem dX5_load_102 : decode cX5_load 102 = .ok (.iload 4, 2) := by decide +kernel
theorem dX5_load_104 : decode cX5_load 104 = .ok (.sipush 255, 3) := by decide +kernel
theorem dX5_load_107 : decode cX5_load 107 = .ok (.iand, 1) := by decide +kernel
theorem dX5_load_108 : decode cX5_load 108 = .ok (.istore 4, 2) := by decide +kernel
theorem dX5_load_110 : decode cX5_load 110 = .ok (.iload_n 1, 1) := by decide +kernel
theorem dX5_load_111 : decode cX5_load 111 = .ok (.iconst 5, 1) := by decide +kernel
theorem dX5_load_112 : decode cX5_load 112 = .ok (.if_icmp .ne 10, 3) := by decide +kernel
theorem dX5_load_115 : decode cX5_load 115 = .ok (.iload 4, 2) := by decide +kernel
theorem dX5_load_117 : decode cX5_load 117 = .ok (.ldc 92, 2) := by decide +kernel
theorem dX5_load_119 : decode cX5_load 119 = .ok (.iand, 1) := by decide +kernel
theorem dX5_load_120 : decode cX5_load 120 = .ok (.istore 4, 2) := by decide +kernel
theorem dX5_load_122 : decode cX5_load 122 = .ok (.aload_n 0, 1) := by decide +kernel
theorem dX5_load_123 : decode cX5_load 123 = .ok (.iload 4, 2) := by decide +kernel
theorem dX5_load_125 : decode cX5_load 125 = .ok (.invokevirtual 64, 3) := by decide +kernel
theorem dX5_load_128 : decode cX5_load 128 = .ok (.return_, 1) := by decide +kernel
theorem dX5_may_0 : decode cX5_may 0 = .ok (.iload_n 1, 1) := by decide +kernel
theorem dX5_may_1 : decode cX5_may 1 = .ok (.iload_n 2, 1) := by decide +kernel
theorem dX5_may_2 : decode cX5_may 2 = .ok (.iconst 1, 1) := by decide +kernel
theorem dX5_may_3 : decode cX5_may 3 = .ok (.isub, 1) := by decide +kernel
theorem dX5_may_4 : decode cX5_may 4 = .ok (.iand, 1) := by decide +kernel
theorem dX5_may_5 : decode cX5_may 5 = .ok (.ifCond .eq 9, 3) := by decide +kernel
theorem dX5_may_8 : decode cX5_may 8 = .ok (.aload_n 0, 1) := by decide +kernel
theorem dX5_may_9 : decode cX5_may 9 = .ok (.iload_n 3, 1) := by decide +kernel
theorem dX5_may_10 : decode cX5_may 10 = .ok (.iload_n 1, 1) := by decide +kernel
theorem dX5_may_11 : decode cX5_may 11 = .ok (.invokevirtual 54, 3) := by decide +kernel
theorem dX5_may_14 : decode cX5_may 14 = .ok (.iload_n 1, 1) := by decide +kernel
theorem dX5_may_15 : decode cX5_may 15 = .ok (.ifCond .lt 12, 3) := by decide +kernel
theorem dX5_may_18 : decode cX5_may 18 = .ok (.iload_n 1, 1) := by decide +kernel
theorem dX5_may_19 : decode cX5_may 19 = .ok (.sipush 4096, 3) := by decide +kernel
theorem dX5_may_22 : decode cX5_may 22 = .ok (.iload_n 2, 1) := by decide +kernel
theorem dX5_may_23 : decode cX5_may 23 = .ok (.isub, 1) := by decide +kernel
theorem dX5_may_24 : decode cX5_may 24 = .ok (.if_icmp .le 10, 3) := by decide +kernel
theorem dX5_may_27 : decode cX5_may 27 = .ok (.aload_n 0, 1) := by decide +kernel
theorem dX5_may_28 : decode cX5_may 28 = .ok (.iload 4, 2) := by decide +kernel
theorem dX5_may_30 : decode cX5_may 30 = .ok (.iload_n 1, 1) := by decide +kernel
theorem dX5_may_31 : decode cX5_may 31 = .ok (.invokevirtual 54, 3) := by decide +kernel
theorem dX5_may_34 : decode cX5_may 34 = .ok (.aload_n 0, 1) := by decide +kernel
theorem dX5_may_35 : decode cX5_may 35 = .ok (.getfield 45, 3) := by decide +kernel
theorem dX5_may_38 : decode cX5_may 38 = .ok (.ifCond .ne 7, 3) := by decide +kernel
theorem dX5_may_41 : decode cX5_may 41 = .ok (.iconst 1, 1) := by decide +kernel
theorem dX5_may_42 : decode cX5_may 42 = .ok (.goto 4, 3) := by decide +kernel
theorem dX5_may_45 : decode cX5_may 45 = .ok (.iconst 0, 1) := by decide +kernel
theorem dX5_may_46 : decode cX5_may 46 = .ok (.ireturn, 1) := by decide +kernel
theorem dX5_store_0 : decode cX5_store 0 = .ok (.aload_n 0, 1) := by decide +kernel
theorem dX5_store_1 : decode cX5_store 1 = .ok (.bipush 12, 2) := by decide +kernel
theorem dX5_store_3 : decode cX5_store 3 = .ok (.iconst 3, 1) := by decide +kernel
theorem dX5_store_4 : decode cX5_store 4 = .ok (.invokevirtual 40, 3) := by decide +kernel
theorem dX5_store_7 : decode cX5_store 7 = .ok (.istore_n 1, 1) := by decide +kernel
theorem dX5_store_8 : decode cX5_store 8 = .ok (.iload_n 1, 1) := by decide +kernel
theorem dX5_store_9 : decode cX5_store 9 = .ok (.iconst 2, 1) := by decide +kernel
theorem dX5_store_10 : decode cX5_store 10 = .ok (.if_icmp .le 8, 3) := by decide +kernel
theorem dX5_store_13 : decode cX5_store 13 = .ok (.aload_n 0, 1) := by decide +kernel
theorem dX5_store_14 : decode cX5_store 14 = .ok (.invokevirtual 79, 3) := by decide +kernel
theorem dX5_store_17 : decode cX5_store 17 = .ok (.return_, 1) := by decide +kernel
theorem dX5_store_18 : decode cX5_store 18 = .ok (.iconst 1, 1) := by decide +kernel
theorem dX5_store_19 : decode cX5_store 19 = .ok (.iload_n 1, 1) := by decide +kernel
theorem dX5_store_20 : decode cX5_store 20 = .ok (.ishl, 1) := by decide +kernel
theorem dX5_store_21 : decode cX5_store 21 = .ok (.istore_n 2, 1) := by decide +kernel
theorem dX5_store_22 : decode cX5_store 22 = .ok (.aload_n 0, 1) := by decide +kernel
theorem dX5_store_23 : decode cX5_store 23 = .ok (.invokevirtual 68, 3) := by decide +kernel
theorem dX5_store_26 : decode cX5_store 26 = .ok (.aload_n 0, 1) := by decide +kernel
theorem dX5_store_27 : decode cX5_store 27 = .ok (.invokevirtual 93, 3) := by decide +kernel
theorem dX5_store_30 : decode cX5_store 30 = .ok (.iadd, 1) := by decide +kernel
theorem dX5_store_31 : decode cX5_store 31 = .ok (.istore_n 3, 1) := by decide +kernel
theorem dX5_store_32 : decode cX5_store 32 = .ok (.aload_n 0, 1) := by decide +kernel
theorem dX5_store_33 : decode cX5_store 33 = .ok (.iload_n 3, 1) := by decide +kernel
theorem dX5_store_34 : decode cX5_store 34 = .ok (.iload_n 2, 1) := by decide +kernel
theorem dX5_store_35 : decode cX5_store 35 = .ok (.bipush 6, 2) := by decide +kernel
theorem dX5_store_37 : decode cX5_store 37 = .ok (.bipush 7, 2) := by decide +kernel
theorem dX5_store_39 : decode cX5_store 39 = .ok (.invokevirtual 88, 3) := by decide +kernel
theorem dX5_store_42 : decode cX5_store 42 = .ok (.ifCond .ne 4, 3) := by decide +kernel
theorem dX5_store_45 : decode cX5_store 45 = .ok (.return_, 1) := by decide +kernel
theorem dX5_store_46 : decode cX5_store 46 = .ok (.bipush 8, 2) := by decide +kernel
theorem dX5_store_48 : decode cX5_store 48 = .ok (.iload_n 3, 1) := by decide +kernel
theorem dX5_store_49 : decode cX5_store 49 = .ok (.iconst 3, 1) := by decide +kernel
theorem dX5_store_50 : decode cX5_store 50 = .ok (.iand, 1) := by decide +kernel
theorem dX5_store_51 : decode cX5_store 51 = .ok (.imul, 1) := by decide +kernel
theorem dX5_store_52 : decode cX5_store 52 = .ok (.istore 4, 2) := by decide +kernel
theorem dX5_store_54 : decode cX5_store 54 = .ok (.iload_n 1, 1) := by decide +kernel
theorem dX5_store_55 : decode cX5_store 55 = .ok (.ifCond .ne 12, 3) := by decide +kernel
theorem dX5_store_58 : decode cX5_store 58 = .ok (.sipush 255, 3) := by decide +kernel
theorem dX5_store_61 : decode cX5_store 61 = .ok (.iload 4, 2) := by decide +kernel
theorem dX5_store_63 : decode cX5_store 63 = .ok (.ishl, 1) := by decide +kernel
theorem dX5_store_64 : decode cX5_store 64 = .ok (.goto 17, 3) := by decide +kernel
theorem dX5_store_67 : decode cX5_store 67 = .ok (.iload_n 1, 1) := by decide +kernel
theorem dX5_store_68 : decode cX5_store 68 = .ok (.iconst 1, 1) := by decide +kernel
theorem dX5_store_69 : decode cX5_store 69 = .ok (.if_icmp .ne 11, 3) := by decide +kernel
theorem dX5_store_72 : decode cX5_store 72 = .ok (.ldc 92, 2) := by decide +kernel
theorem dX5_store_74 : decode cX5_store 74 = .ok (.iload 4, 2) := by decide +kernel
theorem dX5_store_76 : decode cX5_store 76 = .ok (.ishl, 1) := by decide +kernel
theorem dX5_store_77 : decode cX5_store 77 = .ok (.goto 4, 3) := by decide +kernel
theorem dX5_store_80 : decode cX5_store 80 = .ok (.iconst (-1), 1) := by decide +kernel
theorem dX5_store_81 : decode cX5_store 81 = .ok (.istore 5, 2) := by decide +kernel
theorem dX5_store_83 : decode cX5_store 83 = .ok (.aload_n 0, 1) := by decide +kernel
theorem dX5_store_84 : decode cX5_store 84 = .ok (.getfield 7, 3) := by decide +kernel
theorem dX5_store_87 : decode cX5_store 87 = .ok (.iload_n 3, 1) := by decide +kernel
theorem dX5_store_88 : decode cX5_store 88 = .ok (.iconst 4, 1) := by decide +kernel
theorem dX5_store_89 : decode cX5_store 89 = .ok (.idiv, 1) := by decide +kernel
theorem dX5_store_90 : decode cX5_store 90 = .ok (.aload_n 0, 1) := by decide +kernel
theorem dX5_store_91 : decode cX5_store 91 = .ok (.getfield 7, 3) := by decide +kernel
theorem dX5_store_94 : decode cX5_store 94 = .ok (.iload_n 3, 1) := by decide +kernel
theorem dX5_store_95 : decode cX5_store 95 = .ok (.iconst 4, 1) := by decide +kernel
theorem dX5_store_96 : decode cX5_store 96 = .ok (.idiv, 1) := by decide +kernel
theorem dX5_store_97 : decode cX5_store 97 = .ok (.iaload, 1) := by decide +kernel
theorem dX5_store_98 : decode cX5_store 98 = .ok (.iload 5, 2) := by decide +kernel
theorem dX5_store_100 : decode cX5_store 100 = .ok (.iconst (-1), 1) := by decide +kernel
theorem dX5_store_101 : decode cX5_store 101 = .ok (.ixor, 1) := by decide +kernel
theorem dX5_store_102 : decode cX5_store 102 = .ok (.iand, 1) := by decide +kernel
theorem dX5_store_103 : decode cX5_store 103 = .ok (.aload_n 0, 1) := by decide +kernel
theorem dX5_store_104 : decode cX5_store 104 = .ok (.invokevirtual 72, 3) := by decide +kernel
theorem dX5_store_107 : decode cX5_store 107 = .ok (.iload 4, 2) := by decide +kernel
theorem dX5_store_109 : decode cX5_store 109 = .ok (.ishl, 1) := by decide +kernel
theorem dX5_store_110 : decode cX5_store 110 = .ok (.iload 5, 2) := by decide +kernel
theorem dX5_store_112 : decode cX5_store 112 = .ok (.iand, 1) := by decide +kernel
theorem dX5_store_113 : decode cX5_store 113 = .ok (.ior, 1) := by decide +kernel
theorem dX5_store_114 : decode cX5_store 114 = .ok (.iastore, 1) := by decide +kernel
theorem dX5_store_115 : decode cX5_store 115 = .ok (.return_, 1) := by decide +kernel
theorem dX5_numberS_0 : decode cX5_numberS 0 = .ok (.aload_n 0, 1) := by decide +kernel
theorem dX5_numberS_1 : decode cX5_numberS 1 = .ok (.getfield 37, 3) := by decide +kernel
theorem dX5_numberS_4 : decode cX5_numberS 4 = .ok (.bipush 25, 2) := by decide +kernel
theorem dX5_numberS_6 : decode cX5_numberS 6 = .ok (.ishr, 1) := by decide +kernel
theorem dX5_numberS_7 : decode cX5_numberS 7 = .ok (.iconst 5, 1) := by decide +kernel
theorem dX5_numberS_8 : decode cX5_numberS 8 = .ok (.ishl, 1) := by decide +kernel
theorem dX5_numberS_9 : decode cX5_numberS 9 = .ok (.aload_n 0, 1) := by decide +kernel
theorem dX5_numberS_10 : decode cX5_numberS 10 = .ok (.bipush 7, 2) := by decide +kernel
theorem dX5_numberS_12 : decode cX5_numberS 12 = .ok (.iconst 5, 1) := by decide +kernel
theorem dX5_numberS_13 : decode cX5_numberS 13 = .ok (.invokevirtual 40, 3) := by decide +kernel
theorem dX5_numberS_16 : decode cX5_numberS 16 = .ok (.ior, 1) := by decide +kernel
theorem dX5_numberS_17 : decode cX5_numberS 17 = .ok (.ireturn, 1) := by decide +kernel
theorem dX5_withNumber_0 : decode cX5_withNumber 0 = .ok (.aload_n 0, 1) := by decide +kernel
theorem dX5_withNumber_1 : decode cX5_withNumber 1 = .ok (.invokevirtual 68, 3) := by decide +kernel
theorem dX5_withNumber_4 : decode cX5_withNumber 4 = .ok (.istore_n 1, 1) := by decide +kernel
theorem dX5_withNumber_5 : decode cX5_withNumber 5 = .ok (.aload_n 0, 1) := by decide +kernel
theorem dX5_withNumber_6 : decode cX5_withNumber 6 = .ok (.invokevirtual 85, 3) := by decide +kernel
theorem dX5_withNumber_9 : decode cX5_withNumber 9 = .ok (.istore_n 2, 1) := by decide +kernel
theorem dX5_withNumber_10 : decode cX5_withNumber 10 = .ok (.aload_n 0, 1) := by decide +kernel
theorem dX5_withNumber_11 : decode cX5_withNumber 11 = .ok (.bipush 25, 2) := by decide +kernel
theorem dX5_withNumber_13 : decode cX5_withNumber 13 = .ok (.bipush 7, 2) := by decide +kernel
theorem dX5_withNumber_15 : decode cX5_withNumber 15 = .ok (.invokevirtual 40, 3) := by decide +kernel
theorem dX5_withNumber_18 : decode cX5_withNumber 18 = .ok (.istore_n 3, 1) := by decide +kernel
theorem dX5_withNumber_19 : decode cX5_withNumber 19 = .ok (.aload_n 0, 1) := by decide +kernel
theorem dX5_withNumber_20 : decode cX5_withNumber 20 = .ok (.bipush 20, 2) := by decide +kernel
theorem dX5_withNumber_22 : decode cX5_withNumber 22 = .ok (.iconst 5, 1) := by decide +kernel
theorem dX5_withNumber_23 : decode cX5_withNumber 23 = .ok (.invokevirtual 40, 3) := by decide +kernel
theorem dX5_withNumber_26 : decode cX5_withNumber 26 = .ok (.istore 4, 2) := by decide +kernel
theorem dX5_withNumber_28 : decode cX5_withNumber 28 = .ok (.aload_n 0, 1) := by decide +kernel
theorem dX5_withNumber_29 : decode cX5_withNumber 29 = .ok (.bipush 12, 2) := by decide +kernel
theorem dX5_withNumber_31 : decode cX5_withNumber 31 = .ok (.iconst 3, 1) := by decide +kernel
theorem dX5_withNumber_32 : decode cX5_withNumber 32 = .ok (.invokevirtual 40, 3) := by decide +kernel
theorem dX5_withNumber_35 : decode cX5_withNumber 35 = .ok (.tableswitch 155 0 6 #[41, 49, 69, 84, 102, 110, 147], 41) := by decide +kernel
theorem dX5_withNumber_76 : decode cX5_withNumber 76 = .ok (.aload_n 0, 1) := by decide +kernel
theorem dX5_withNumber_77 : decode cX5_withNumber 77 = .ok (.iload_n 1, 1) := by decide +kernel
theorem dX5_withNumber_78 : decode cX5_withNumber 78 = .ok (.iload_n 2, 1) := by decide +kernel
theorem dX5_withNumber_79 : decode cX5_withNumber 79 = .ok (.iadd, 1) := by decide +kernel
theorem dX5_withNumber_80 : decode cX5_withNumber 80 = .ok (.invokevirtual 64, 3) := by decide +kernel
theorem dX5_withNumber_83 : decode cX5_withNumber 83 = .ok (.return_, 1) := by decide +kernel
theorem dX5_withNumber_84 : decode cX5_withNumber 84 = .ok (.iload_n 3, 1) := by decide +kernel
theorem dX5_withNumber_85 : decode cX5_withNumber 85 = .ok (.ifCond .eq 10, 3) := by decide +kernel
theorem dX5_withNumber_88 : decode cX5_withNumber 88 = .ok (.aload_n 0, 1) := by decide +kernel
theorem dX5_withNumber_89 : decode cX5_withNumber 89 = .ok (.invokevirtual 79, 3) := by decide +kernel
theorem dX5_withNumber_92 : decode cX5_withNumber 92 = .ok (.goto 11, 3) := by decide +kernel
theorem dX5_withNumber_95 : decode cX5_withNumber 95 = .ok (.aload_n 0, 1) := by decide +kernel
theorem dX5_withNumber_96 : decode cX5_withNumber 96 = .ok (.iload_n 1, 1) := by decide +kernel
theorem dX5_withNumber_97 : decode cX5_withNumber 97 = .ok (.iload 4, 2) := by decide +kernel
theorem dX5_withNumber_99 : decode cX5_withNumber 99 = .ok (.ishl, 1) := by decide +kernel
theorem dX5_withNumber_100 : decode cX5_withNumber 100 = .ok (.invokevirtual 64, 3) := by decide +kernel
theorem dX5_withNumber_103 : decode cX5_withNumber 103 = .ok (.return_, 1) := by decide +kernel
theorem dX5_withNumber_104 : decode cX5_withNumber 104 = .ok (.aload_n 0, 1) := by decide +kernel
theorem dX5_withNumber_105 : decode cX5_withNumber 105 = .ok (.iload_n 1, 1) := by decide +kernel
theorem dX5_withNumber_106 : decode cX5_withNumber 106 = .ok (.iload_n 2, 1) := by decide +kernel
theorem dX5_withNumber_107 : decode cX5_withNumber 107 = .ok (.if_icmp .ge 7, 3) := by decide +kernel
theorem dX5_withNumber_110 : decode cX5_withNumber 110 = .ok (.iconst 1, 1) := by decide +kernel
theorem dX5_withNumber_111 : decode cX5_withNumber 111 = .ok (.goto 4, 3) := by decide +kernel
theorem dX5_withNumber_114 : decode cX5_withNumber 114 = .ok (.iconst 0, 1) := by decide +kernel
theorem dX5_withNumber_115 : decode cX5_withNumber 115 = .ok (.invokevirtual 64, 3) := by decide +kernel
theorem dX5_withNumber_118 : decode cX5_withNumber 118 = .ok (.return_, 1) := by decide +kernel
theorem dX5_withNumber_119 : decode cX5_withNumber 119 = .ok (.aload_n 0, 1) := by decide +kernel
theorem dX5_withNumber_120 : decode cX5_withNumber 120 = .ok (.iload_n 1, 1) := by decide +kernel
theorem dX5_withNumber_121 : decode cX5_withNumber 121 = .ok (.iload_n 2, 1) := by decide +kernel
theorem dX5_withNumber_122 : decode cX5_withNumber 122 = .ok (.invokestatic 75, 3) := by decide +kernel
theorem dX5_withNumber_125 : decode cX5_withNumber 125 = .ok (.ifCond .eq 7, 3) := by decide +kernel
theorem dX5_withNumber_128 : decode cX5_withNumber 128 = .ok (.iconst 1, 1) := by decide +kernel
theorem dX5_withNumber_129 : decode cX5_withNumber 129 = .ok (.goto 4, 3) := by decide +kernel
theorem dX5_withNumber_132 : decode cX5_withNumber 132 = .ok (.iconst 0, 1) := by decide +kernel
theorem dX5_withNumber_133 : decode cX5_withNumber 133 = .ok (.invokevirtual 64, 3) := by decide +kernel
theorem dX5_withNumber_136 : decode cX5_withNumber 136 = .ok (.return_, 1) := by decide +kernel
theorem dX5_withNumber_137 : decode cX5_withNumber 137 = .ok (.aload_n 0, 1) := by decide +kernel
theorem dX5_withNumber_138 : decode cX5_withNumber 138 = .ok (.iload_n 1, 1) := by decide +kernel
theorem dX5_withNumber_139 : decode cX5_withNumber 139 = .ok (.iload_n 2, 1) := by decide +kernel
theorem dX5_withNumber_140 : decode cX5_withNumber 140 = .ok (.ixor, 1) := by decide +kernel
theorem dX5_withNumber_141 : decode cX5_withNumber 141 = .ok (.invokevirtual 64, 3) := by decide +kernel
theorem dX5_withNumber_144 : decode cX5_withNumber 144 = .ok (.return_, 1) := by decide +kernel
theorem dX5_withNumber_145 : decode cX5_withNumber 145 = .ok (.iload_n 3, 1) := by decide +kernel
theorem dX5_withNumber_146 : decode cX5_withNumber 146 = .ok (.ifCond .ne 14, 3) := by decide +kernel
theorem dX5_withNumber_149 : decode cX5_withNumber 149 = .ok (.aload_n 0, 1) := by decide +kernel
theorem dX5_withNumber_150 : decode cX5_withNumber 150 = .ok (.iload_n 1, 1) := by decide +kernel
theorem dX5_withNumber_151 : decode cX5_withNumber 151 = .ok (.iload 4, 2) := by decide +kernel
theorem dX5_withNumber_153 : decode cX5_withNumber 153 = .ok (.iushr, 1) := by decide +kernel
theorem dX5_withNumber_154 : decode cX5_withNumber 154 = .ok (.invokevirtual 64, 3) := by decide +kernel
theorem dX5_withNumber_157 : decode cX5_withNumber 157 = .ok (.goto 24, 3) := by decide +kernel
theorem dX5_withNumber_160 : decode cX5_withNumber 160 = .ok (.iload_n 3, 1) := by decide +kernel
theorem dX5_withNumber_161 : decode cX5_withNumber 161 = .ok (.bipush 32, 2) := by decide +kernel
theorem dX5_withNumber_163 : decode cX5_withNumber 163 = .ok (.if_icmp .ne 14, 3) := by decide +kernel
theorem dX5_withNumber_166 : decode cX5_withNumber 166 = .ok (.aload_n 0, 1) := by decide +kernel
theorem dX5_withNumber_167 : decode cX5_withNumber 167 = .ok (.iload_n 1, 1) := by decide +kernel
theorem dX5_withNumber_168 : decode cX5_withNumber 168 = .ok (.iload 4, 2) := by decide +kernel
theorem dX5_withNumber_170 : decode cX5_withNumber 170 = .ok (.ishr, 1) := by decide +kernel
theorem dX5_withNumber_171 : decode cX5_withNumber 171 = .ok (.invokevirtual 64, 3) := by decide +kernel
theorem dX5_withNumber_174 : decode cX5_withNumber 174 = .ok (.goto 7, 3) := by decide +kernel
theorem dX5_withNumber_177 : decode cX5_withNumber 177 = .ok (.aload_n 0, 1) := by decide +kernel
theorem dX5_withNumber_178 : decode cX5_withNumber 178 = .ok (.invokevirtual 79, 3) := by decide +kernel
theorem dX5_withNumber_181 : decode cX5_withNumber 181 = .ok (.return_, 1) := by decide +kernel
theorem dX5_withNumber_182 : decode cX5_withNumber 182 = .ok (.aload_n 0, 1) := by decide +kernel
theorem dX5_withNumber_183 : decode cX5_withNumber 183 = .ok (.iload_n 1, 1) := by decide +kernel
theorem dX5_withNumber_184 : decode cX5_withNumber 184 = .ok (.iload_n 2, 1) := by decide +kernel
theorem dX5_withNumber_185 : decode cX5_withNumber 185 = .ok (.ior, 1) := by decide +kernel
theorem dX5_withNumber_186 : decode cX5_withNumber 186 = .ok (.invokevirtual 64, 3) := by decide +kernel
theorem dX5_withNumber_189 : decode cX5_withNumber 189 = .ok (.return_, 1) := by decide +kernel
theorem dX5_withNumber_190 : decode cX5_withNumber 190 = .ok (.aload_n 0, 1) := by decide +kernel
theorem dX5_withNumber_191 : decode cX5_withNumber 191 = .ok (.iload_n 1, 1) := by decide +kernel
theorem dX5_withNumber_192 : decode cX5_withNumber 192 = .ok (.iload_n 2, 1) := by decide +kernel
theorem dX5_withNumber_193 : decode cX5_withNumber 193 = .ok (.iand, 1) := by decide +kernel
theorem dX5_withNumber_194 : decode cX5_withNumber 194 = .ok (.invokevirtual 64, 3) := by decide +kernel
theorem dX5_withNumber_197 : decode cX5_withNumber 197 = .ok (.return_, 1) := by decide +kernel
theorem dX5_withRegister_0 : decode cX5_withRegister 0 = .ok (.aload_n 0, 1) := by decide +kernel
theorem dX5_withRegister_1 : decode cX5_withRegister 1 = .ok (.invokevirtual 68, 3) := by decide +kernel
theorem dX5_withRegister_4 : decode cX5_withRegister 4 = .ok (.istore_n 1, 1) := by decide +kernel
theorem dX5_withRegister_5 : decode cX5_withRegister 5 = .ok (.aload_n 0, 1) := by decide +kernel
theorem dX5_withRegister_6 : decode cX5_withRegister 6 = .ok (.invokevirtual 72, 3) := by decide +kernel
theorem dX5_withRegister_9 : decode cX5_withRegister 9 = .ok (.istore_n 2, 1) := by decide +kernel
theorem dX5_withRegister_10 : decode cX5_withRegister 10 = .ok (.aload_n 0, 1) := by decide +kernel
theorem dX5_withRegister_11 : decode cX5_withRegister 11 = .ok (.bipush 12, 2) := by decide +kernel
theorem dX5_withRegister_13 : decode cX5_withRegister 13 = .ok (.iconst 3, 1) := by decide +kernel
theorem dX5_withRegister_14 : decode cX5_withRegister 14 = .ok (.invokevirtual 40, 3) := by decide +kernel
theorem dX5_withRegister_17 : decode cX5_withRegister 17 = .ok (.istore_n 3, 1) := by decide +kernel
theorem dX5_withRegister_18 : decode cX5_withRegister 18 = .ok (.aload_n 0, 1) := by decide +kernel
theorem dX5_withRegister_19 : decode cX5_withRegister 19 = .ok (.bipush 25, 2) := by decide +kernel
theorem dX5_withRegister_21 : decode cX5_withRegister 21 = .ok (.bipush 7, 2) := by decide +kernel
theorem dX5_withRegister_23 : decode cX5_withRegister 23 = .ok (.invokevirtual 40, 3) := by decide +kernel
theorem dX5_withRegister_26 : decode cX5_withRegister 26 = .ok (.istore 4, 2) := by decide +kernel
theorem dX5_withRegister_28 : decode cX5_withRegister 28 = .ok (.iload 4, 2) := by decide +kernel
theorem dX5_withRegister_30 : decode cX5_withRegister 30 = .ok (.iconst 1, 1) := by decide +kernel
theorem dX5_withRegister_31 : decode cX5_withRegister 31 = .ok (.if_icmp .ne 13, 3) := by decide +kernel
theorem dX5_withRegister_34 : decode cX5_withRegister 34 = .ok (.aload_n 0, 1) := by decide +kernel
theorem dX5_withRegister_35 : decode cX5_withRegister 35 = .ok (.iload_n 3, 1) := by decide +kernel
theorem dX5_withRegister_36 : decode cX5_withRegister 36 = .ok (.iload_n 1, 1) := by decide +kernel
theorem dX5_withRegister_37 : decode cX5_withRegister 37 = .ok (.iload_n 2, 1) := by decide +kernel
theorem dX5_withRegister_38 : decode cX5_withRegister 38 = .ok (.invokevirtual 96, 3) := by decide +kernel
theorem dX5_withRegister_41 : decode cX5_withRegister 41 = .ok (.goto 190, 3) := by decide +kernel
theorem dX5_withRegister_44 : decode cX5_withRegister 44 = .ok (.iload 4, 2) := by decide +kernel
theorem dX5_withRegister_46 : decode cX5_withRegister 46 = .ok (.bipush 32, 2) := by decide +kernel
theorem dX5_withRegister_48 : decode cX5_withRegister 48 = .ok (.if_icmp .ne 42, 3) := by decide +kernel
theorem dX5_withRegister_51 : decode cX5_withRegister 51 = .ok (.iload_n 3, 1) := by decide +kernel
theorem dX5_withRegister_52 : decode cX5_withRegister 52 = .ok (.ifCond .ne 13, 3) := by decide +kernel
theorem dX5_withRegister_55 : decode cX5_withRegister 55 = .ok (.aload_n 0, 1) := by decide +kernel
theorem dX5_withRegister_56 : decode cX5_withRegister 56 = .ok (.iload_n 1, 1) := by decide +kernel
