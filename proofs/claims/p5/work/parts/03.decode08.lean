theorem dX5_lay_16 : decode cX5_lay 16 = .ok (.iload_n 2, 1) := by decide +kernel
theorem dX5_lay_17 : decode cX5_lay 17 = .ok (.iload_n 1, 1) := by decide +kernel
theorem dX5_lay_18 : decode cX5_lay 18 = .ok (.iastore, 1) := by decide +kernel
theorem dX5_lay_19 : decode cX5_lay 19 = .ok (.return_, 1) := by decide +kernel
theorem dX5_numberJ_0 : decode cX5_numberJ 0 = .ok (.aload_n 0, 1) := by decide +kernel
theorem dX5_numberJ_1 : decode cX5_numberJ 1 = .ok (.getfield 37, 3) := by decide +kernel
theorem dX5_numberJ_4 : decode cX5_numberJ 4 = .ok (.bipush 31, 2) := by decide +kernel
theorem dX5_numberJ_6 : decode cX5_numberJ 6 = .ok (.ishr, 1) := by decide +kernel
theorem dX5_numberJ_7 : decode cX5_numberJ 7 = .ok (.bipush 20, 2) := by decide +kernel
theorem dX5_numberJ_9 : decode cX5_numberJ 9 = .ok (.ishl, 1) := by decide +kernel
theorem dX5_numberJ_10 : decode cX5_numberJ 10 = .ok (.aload_n 0, 1) := by decide +kernel
theorem dX5_numberJ_11 : decode cX5_numberJ 11 = .ok (.bipush 12, 2) := by decide +kernel
theorem dX5_numberJ_13 : decode cX5_numberJ 13 = .ok (.bipush 8, 2) := by decide +kernel
theorem dX5_numberJ_15 : decode cX5_numberJ 15 = .ok (.invokevirtual 40, 3) := by decide +kernel
theorem dX5_numberJ_18 : decode cX5_numberJ 18 = .ok (.bipush 12, 2) := by decide +kernel
theorem dX5_numberJ_20 : decode cX5_numberJ 20 = .ok (.ishl, 1) := by decide +kernel
theorem dX5_numberJ_21 : decode cX5_numberJ 21 = .ok (.ior, 1) := by decide +kernel
theorem dX5_numberJ_22 : decode cX5_numberJ 22 = .ok (.aload_n 0, 1) := by decide +kernel
theorem dX5_numberJ_23 : decode cX5_numberJ 23 = .ok (.bipush 20, 2) := by decide +kernel
theorem dX5_numberJ_25 : decode cX5_numberJ 25 = .ok (.iconst 1, 1) := by decide +kernel
theorem dX5_numberJ_26 : decode cX5_numberJ 26 = .ok (.invokevirtual 40, 3) := by decide +kernel
theorem dX5_numberJ_29 : decode cX5_numberJ 29 = .ok (.bipush 11, 2) := by decide +kernel
theorem dX5_numberJ_31 : decode cX5_numberJ 31 = .ok (.ishl, 1) := by decide +kernel
theorem dX5_numberJ_32 : decode cX5_numberJ 32 = .ok (.ior, 1) := by decide +kernel
theorem dX5_numberJ_33 : decode cX5_numberJ 33 = .ok (.aload_n 0, 1) := by decide +kernel
theorem dX5_numberJ_34 : decode cX5_numberJ 34 = .ok (.bipush 21, 2) := by decide +kernel
theorem dX5_numberJ_36 : decode cX5_numberJ 36 = .ok (.bipush 10, 2) := by decide +kernel
theorem dX5_numberJ_38 : decode cX5_numberJ 38 = .ok (.invokevirtual 40, 3) := by decide +kernel
theorem dX5_numberJ_41 : decode cX5_numberJ 41 = .ok (.iconst 1, 1) := by decide +kernel
theorem dX5_numberJ_42 : decode cX5_numberJ 42 = .ok (.ishl, 1) := by decide +kernel
theorem dX5_numberJ_43 : decode cX5_numberJ 43 = .ok (.ior, 1) := by decide +kernel
theorem dX5_numberJ_44 : decode cX5_numberJ 44 = .ok (.ireturn, 1) := by decide +kernel
theorem dX5_jump_0 : decode cX5_jump 0 = .ok (.aload_n 0, 1) := by decide +kernel
theorem dX5_jump_1 : decode cX5_jump 1 = .ok (.getfield 27, 3) := by decide +kernel
theorem dX5_jump_4 : decode cX5_jump 4 = .ok (.iconst 4, 1) := by decide +kernel
theorem dX5_jump_5 : decode cX5_jump 5 = .ok (.iadd, 1) := by decide +kernel
theorem dX5_jump_6 : decode cX5_jump 6 = .ok (.istore_n 2, 1) := by decide +kernel
theorem dX5_jump_7 : decode cX5_jump 7 = .ok (.aload_n 0, 1) := by decide +kernel
theorem dX5_jump_8 : decode cX5_jump 8 = .ok (.iload_n 1, 1) := by decide +kernel
theorem dX5_jump_9 : decode cX5_jump 9 = .ok (.invokevirtual 61, 3) := by decide +kernel
theorem dX5_jump_12 : decode cX5_jump 12 = .ok (.ifCond .eq 8, 3) := by decide +kernel
theorem dX5_jump_15 : decode cX5_jump 15 = .ok (.aload_n 0, 1) := by decide +kernel
theorem dX5_jump_16 : decode cX5_jump 16 = .ok (.iload_n 2, 1) := by decide +kernel
theorem dX5_jump_17 : decode cX5_jump 17 = .ok (.invokevirtual 64, 3) := by decide +kernel
theorem dX5_jump_20 : decode cX5_jump 20 = .ok (.return_, 1) := by decide +kernel
theorem dX5_goes_0 : decode cX5_goes 0 = .ok (.iload_n 1, 1) := by decide +kernel
theorem dX5_goes_1 : decode cX5_goes 1 = .ok (.iconst 3, 1) := by decide +kernel
theorem dX5_goes_2 : decode cX5_goes 2 = .ok (.iand, 1) := by decide +kernel
theorem dX5_goes_3 : decode cX5_goes 3 = .ok (.ifCond .eq 11, 3) := by decide +kernel
theorem dX5_goes_6 : decode cX5_goes 6 = .ok (.aload_n 0, 1) := by decide +kernel
theorem dX5_goes_7 : decode cX5_goes 7 = .ok (.iconst 0, 1) := by decide +kernel
theorem dX5_goes_8 : decode cX5_goes 8 = .ok (.iload_n 1, 1) := by decide +kernel
theorem dX5_goes_9 : decode cX5_goes 9 = .ok (.invokevirtual 54, 3) := by decide +kernel
theorem dX5_goes_12 : decode cX5_goes 12 = .ok (.iconst 0, 1) := by decide +kernel
theorem dX5_goes_13 : decode cX5_goes 13 = .ok (.ireturn, 1) := by decide +kernel
theorem dX5_goes_14 : decode cX5_goes 14 = .ok (.aload_n 0, 1) := by decide +kernel
theorem dX5_goes_15 : decode cX5_goes 15 = .ok (.iload_n 1, 1) := by decide +kernel
theorem dX5_goes_16 : decode cX5_goes 16 = .ok (.putfield 58, 3) := by decide +kernel
theorem dX5_goes_19 : decode cX5_goes 19 = .ok (.iconst 1, 1) := by decide +kernel
theorem dX5_goes_20 : decode cX5_goes 20 = .ok (.ireturn, 1) := by decide +kernel
theorem dX5_none_0 : decode cX5_none 0 = .ok (.aload_n 0, 1) := by decide +kernel
theorem dX5_none_1 : decode cX5_none 1 = .ok (.iconst 2, 1) := by decide +kernel
theorem dX5_none_2 : decode cX5_none 2 = .ok (.aload_n 0, 1) := by decide +kernel
theorem dX5_none_3 : decode cX5_none 3 = .ok (.getfield 37, 3) := by decide +kernel
theorem dX5_none_6 : decode cX5_none 6 = .ok (.invokevirtual 54, 3) := by decide +kernel
theorem dX5_none_9 : decode cX5_none 9 = .ok (.return_, 1) := by decide +kernel
theorem dX5_a_0 : decode cX5_a 0 = .ok (.aload_n 0, 1) := by decide +kernel
theorem dX5_a_1 : decode cX5_a 1 = .ok (.getfield 13, 3) := by decide +kernel
theorem dX5_a_4 : decode cX5_a 4 = .ok (.aload_n 0, 1) := by decide +kernel
theorem dX5_a_5 : decode cX5_a 5 = .ok (.bipush 15, 2) := by decide +kernel
theorem dX5_a_7 : decode cX5_a 7 = .ok (.iconst 5, 1) := by decide +kernel
theorem dX5_a_8 : decode cX5_a 8 = .ok (.invokevirtual 40, 3) := by decide +kernel
theorem dX5_a_11 : decode cX5_a 11 = .ok (.iaload, 1) := by decide +kernel
theorem dX5_a_12 : decode cX5_a 12 = .ok (.ireturn, 1) := by decide +kernel
theorem dX5_numberI_0 : decode cX5_numberI 0 = .ok (.aload_n 0, 1) := by decide +kernel
theorem dX5_numberI_1 : decode cX5_numberI 1 = .ok (.getfield 37, 3) := by decide +kernel
theorem dX5_numberI_4 : decode cX5_numberI 4 = .ok (.bipush 20, 2) := by decide +kernel
theorem dX5_numberI_6 : decode cX5_numberI 6 = .ok (.ishr, 1) := by decide +kernel
theorem dX5_numberI_7 : decode cX5_numberI 7 = .ok (.ireturn, 1) := by decide +kernel
theorem dX5_branch_0 : decode cX5_branch 0 = .ok (.aload_n 0, 1) := by decide +kernel
theorem dX5_branch_1 : decode cX5_branch 1 = .ok (.invokevirtual 68, 3) := by decide +kernel
theorem dX5_branch_4 : decode cX5_branch 4 = .ok (.istore_n 1, 1) := by decide +kernel
theorem dX5_branch_5 : decode cX5_branch 5 = .ok (.aload_n 0, 1) := by decide +kernel
theorem dX5_branch_6 : decode cX5_branch 6 = .ok (.invokevirtual 72, 3) := by decide +kernel
theorem dX5_branch_9 : decode cX5_branch 9 = .ok (.istore_n 2, 1) := by decide +kernel
theorem dX5_branch_10 : decode cX5_branch 10 = .ok (.aload_n 0, 1) := by decide +kernel
theorem dX5_branch_11 : decode cX5_branch 11 = .ok (.bipush 12, 2) := by decide +kernel
theorem dX5_branch_13 : decode cX5_branch 13 = .ok (.iconst 3, 1) := by decide +kernel
theorem dX5_branch_14 : decode cX5_branch 14 = .ok (.invokevirtual 40, 3) := by decide +kernel
theorem dX5_branch_17 : decode cX5_branch 17 = .ok (.tableswitch 129 0 7 #[47, 61, 129, 129, 75, 89, 103, 112], 47) := by decide +kernel
theorem dX5_branch_64 : decode cX5_branch 64 = .ok (.iload_n 1, 1) := by decide +kernel
theorem dX5_branch_65 : decode cX5_branch 65 = .ok (.iload_n 2, 1) := by decide +kernel
theorem dX5_branch_66 : decode cX5_branch 66 = .ok (.if_icmp .ne 7, 3) := by decide +kernel
theorem dX5_branch_69 : decode cX5_branch 69 = .ok (.iconst 1, 1) := by decide +kernel
theorem dX5_branch_70 : decode cX5_branch 70 = .ok (.goto 4, 3) := by decide +kernel
theorem dX5_branch_73 : decode cX5_branch 73 = .ok (.iconst 0, 1) := by decide +kernel
theorem dX5_branch_74 : decode cX5_branch 74 = .ok (.istore_n 3, 1) := by decide +kernel
theorem dX5_branch_75 : decode cX5_branch 75 = .ok (.goto 76, 3) := by decide +kernel
theorem dX5_branch_78 : decode cX5_branch 78 = .ok (.iload_n 1, 1) := by decide +kernel
theorem dX5_branch_79 : decode cX5_branch 79 = .ok (.iload_n 2, 1) := by decide +kernel
theorem dX5_branch_80 : decode cX5_branch 80 = .ok (.if_icmp .eq 7, 3) := by decide +kernel
theorem dX5_branch_83 : decode cX5_branch 83 = .ok (.iconst 1, 1) := by decide +kernel
theorem dX5_branch_84 : decode cX5_branch 84 = .ok (.goto 4, 3) := by decide +kernel
theorem dX5_branch_87 : decode cX5_branch 87 = .ok (.iconst 0, 1) := by decide +kernel
theorem dX5_branch_88 : decode cX5_branch 88 = .ok (.istore_n 3, 1) := by decide +kernel
theorem dX5_branch_89 : decode cX5_branch 89 = .ok (.goto 62, 3) := by decide +kernel
theorem dX5_branch_92 : decode cX5_branch 92 = .ok (.iload_n 1, 1) := by decide +kernel
theorem dX5_branch_93 : decode cX5_branch 93 = .ok (.iload_n 2, 1) := by decide +kernel
theorem dX5_branch_94 : decode cX5_branch 94 = .ok (.if_icmp .ge 7, 3) := by decide +kernel
theorem dX5_branch_97 : decode cX5_branch 97 = .ok (.iconst 1, 1) := by decide +kernel
theorem dX5_branch_98 : decode cX5_branch 98 = .ok (.goto 4, 3) := by decide +kernel
theorem dX5_branch_101 : decode cX5_branch 101 = .ok (.iconst 0, 1) := by decide +kernel
theorem dX5_branch_102 : decode cX5_branch 102 = .ok (.istore_n 3, 1) := by decide +kernel
theorem dX5_branch_103 : decode cX5_branch 103 = .ok (.goto 48, 3) := by decide +kernel
theorem dX5_branch_106 : decode cX5_branch 106 = .ok (.iload_n 1, 1) := by decide +kernel
theorem dX5_branch_107 : decode cX5_branch 107 = .ok (.iload_n 2, 1) := by decide +kernel
theorem dX5_branch_108 : decode cX5_branch 108 = .ok (.if_icmp .lt 7, 3) := by decide +kernel
theorem dX5_branch_111 : decode cX5_branch 111 = .ok (.iconst 1, 1) := by decide +kernel
theorem dX5_branch_112 : decode cX5_branch 112 = .ok (.goto 4, 3) := by decide +kernel
theorem dX5_branch_115 : decode cX5_branch 115 = .ok (.iconst 0, 1) := by decide +kernel
theorem dX5_branch_116 : decode cX5_branch 116 = .ok (.istore_n 3, 1) := by decide +kernel
theorem dX5_branch_117 : decode cX5_branch 117 = .ok (.goto 34, 3) := by decide +kernel
theorem dX5_branch_120 : decode cX5_branch 120 = .ok (.iload_n 1, 1) := by decide +kernel
theorem dX5_branch_121 : decode cX5_branch 121 = .ok (.iload_n 2, 1) := by decide +kernel
theorem dX5_branch_122 : decode cX5_branch 122 = .ok (.invokestatic 75, 3) := by decide +kernel
theorem dX5_branch_125 : decode cX5_branch 125 = .ok (.istore_n 3, 1) := by decide +kernel
theorem dX5_branch_126 : decode cX5_branch 126 = .ok (.goto 25, 3) := by decide +kernel
theorem dX5_branch_129 : decode cX5_branch 129 = .ok (.iload_n 1, 1) := by decide +kernel
theorem dX5_branch_130 : decode cX5_branch 130 = .ok (.iload_n 2, 1) := by decide +kernel
theorem dX5_branch_131 : decode cX5_branch 131 = .ok (.invokestatic 75, 3) := by decide +kernel
theorem dX5_branch_134 : decode cX5_branch 134 = .ok (.ifCond .ne 7, 3) := by decide +kernel
theorem dX5_branch_137 : decode cX5_branch 137 = .ok (.iconst 1, 1) := by decide +kernel
theorem dX5_branch_138 : decode cX5_branch 138 = .ok (.goto 4, 3) := by decide +kernel
theorem dX5_branch_141 : decode cX5_branch 141 = .ok (.iconst 0, 1) := by decide +kernel
theorem dX5_branch_142 : decode cX5_branch 142 = .ok (.istore_n 3, 1) := by decide +kernel
theorem dX5_branch_143 : decode cX5_branch 143 = .ok (.goto 8, 3) := by decide +kernel
theorem dX5_branch_146 : decode cX5_branch 146 = .ok (.aload_n 0, 1) := by decide +kernel
theorem dX5_branch_147 : decode cX5_branch 147 = .ok (.invokevirtual 79, 3) := by decide +kernel
theorem dX5_branch_150 : decode cX5_branch 150 = .ok (.return_, 1) := by decide +kernel
theorem dX5_branch_151 : decode cX5_branch 151 = .ok (.iload_n 3, 1) := by decide +kernel
theorem dX5_branch_152 : decode cX5_branch 152 = .ok (.ifCond .eq 17, 3) := by decide +kernel
theorem dX5_branch_155 : decode cX5_branch 155 = .ok (.aload_n 0, 1) := by decide +kernel
theorem dX5_branch_156 : decode cX5_branch 156 = .ok (.aload_n 0, 1) := by decide +kernel
theorem dX5_branch_157 : decode cX5_branch 157 = .ok (.getfield 27, 3) := by decide +kernel
theorem dX5_branch_160 : decode cX5_branch 160 = .ok (.aload_n 0, 1) := by decide +kernel
theorem dX5_branch_161 : decode cX5_branch 161 = .ok (.invokevirtual 82, 3) := by decide +kernel
theorem dX5_branch_164 : decode cX5_branch 164 = .ok (.iadd, 1) := by decide +kernel
theorem dX5_branch_165 : decode cX5_branch 165 = .ok (.invokevirtual 61, 3) := by decide +kernel
theorem dX5_branch_168 : decode cX5_branch 168 = .ok (.pop, 1) := by decide +kernel
theorem dX5_branch_169 : decode cX5_branch 169 = .ok (.return_, 1) := by decide +kernel
theorem dX5_b_0 : decode cX5_b 0 = .ok (.aload_n 0, 1) := by decide +kernel
theorem dX5_b_1 : decode cX5_b 1 = .ok (.getfield 13, 3) := by decide +kernel
theorem dX5_b_4 : decode cX5_b 4 = .ok (.aload_n 0, 1) := by decide +kernel
theorem dX5_b_5 : decode cX5_b 5 = .ok (.bipush 20, 2) := by decide +kernel
theorem dX5_b_7 : decode cX5_b 7 = .ok (.iconst 5, 1) := by decide +kernel
theorem dX5_b_8 : decode cX5_b 8 = .ok (.invokevirtual 40, 3) := by decide +kernel
theorem dX5_b_11 : decode cX5_b 11 = .ok (.iaload, 1) := by decide +kernel
theorem dX5_b_12 : decode cX5_b 12 = .ok (.ireturn, 1) := by decide +kernel
theorem dX5_isBelow_0 : decode cX5_isBelow 0 = .ok (.iload_n 0, 1) := by decide +kernel
theorem dX5_isBelow_1 : decode cX5_isBelow 1 = .ok (.ldc 44, 2) := by decide +kernel
theorem dX5_isBelow_3 : decode cX5_isBelow 3 = .ok (.iadd, 1) := by decide +kernel
theorem dX5_isBelow_4 : decode cX5_isBelow 4 = .ok (.iload_n 1, 1) := by decide +kernel
theorem dX5_isBelow_5 : decode cX5_isBelow 5 = .ok (.ldc 44, 2) := by decide +kernel
theorem dX5_isBelow_7 : decode cX5_isBelow 7 = .ok (.iadd, 1) := by decide +kernel
theorem dX5_isBelow_8 : decode cX5_isBelow 8 = .ok (.if_icmp .ge 7, 3) := by decide +kernel
theorem dX5_isBelow_11 : decode cX5_isBelow 11 = .ok (.iconst 1, 1) := by decide +kernel
theorem dX5_isBelow_12 : decode cX5_isBelow 12 = .ok (.goto 4, 3) := by decide +kernel
theorem dX5_isBelow_15 : decode cX5_isBelow 15 = .ok (.iconst 0, 1) := by decide +kernel
theorem dX5_isBelow_16 : decode cX5_isBelow 16 = .ok (.ireturn, 1) := by decide +kernel
theorem dX5_numberB_0 : decode cX5_numberB 0 = .ok (.aload_n 0, 1) := by decide +kernel
theorem dX5_numberB_1 : decode cX5_numberB 1 = .ok (.getfield 37, 3) := by decide +kernel
theorem dX5_numberB_4 : decode cX5_numberB 4 = .ok (.bipush 31, 2) := by decide +kernel
theorem dX5_numberB_6 : decode cX5_numberB 6 = .ok (.ishr, 1) := by decide +kernel
theorem dX5_numberB_7 : decode cX5_numberB 7 = .ok (.bipush 12, 2) := by decide +kernel
theorem dX5_numberB_9 : decode cX5_numberB 9 = .ok (.ishl, 1) := by decide +kernel
theorem dX5_numberB_10 : decode cX5_numberB 10 = .ok (.aload_n 0, 1) := by decide +kernel
theorem dX5_numberB_11 : decode cX5_numberB 11 = .ok (.bipush 7, 2) := by decide +kernel
theorem dX5_numberB_13 : decode cX5_numberB 13 = .ok (.iconst 1, 1) := by decide +kernel
theorem dX5_numberB_14 : decode cX5_numberB 14 = .ok (.invokevirtual 40, 3) := by decide +kernel
theorem dX5_numberB_17 : decode cX5_numberB 17 = .ok (.bipush 11, 2) := by decide +kernel
theorem dX5_numberB_19 : decode cX5_numberB 19 = .ok (.ishl, 1) := by decide +kernel
theorem dX5_numberB_20 : decode cX5_numberB 20 = .ok (.ior, 1) := by decide +kernel
theorem dX5_numberB_21 : decode cX5_numberB 21 = .ok (.aload_n 0, 1) := by decide +kernel
theorem dX5_numberB_22 : decode cX5_numberB 22 = .ok (.bipush 25, 2) := by decide +kernel
theorem dX5_numberB_24 : decode cX5_numberB 24 = .ok (.bipush 6, 2) := by decide +kernel
theorem dX5_numberB_26 : decode cX5_numberB 26 = .ok (.invokevirtual 40, 3) := by decide +kernel
theorem dX5_numberB_29 : decode cX5_numberB 29 = .ok (.iconst 5, 1) := by decide +kernel
theorem dX5_numberB_30 : decode cX5_numberB 30 = .ok (.ishl, 1) := by decide +kernel
theorem dX5_numberB_31 : decode cX5_numberB 31 = .ok (.ior, 1) := by decide +kernel
theorem dX5_numberB_32 : decode cX5_numberB 32 = .ok (.aload_n 0, 1) := by decide +kernel
theorem dX5_numberB_33 : decode cX5_numberB 33 = .ok (.bipush 8, 2) := by decide +kernel
theorem dX5_numberB_35 : decode cX5_numberB 35 = .ok (.iconst 4, 1) := by decide +kernel
theorem dX5_numberB_36 : decode cX5_numberB 36 = .ok (.invokevirtual 40, 3) := by decide +kernel
theorem dX5_numberB_39 : decode cX5_numberB 39 = .ok (.iconst 1, 1) := by decide +kernel
theorem dX5_numberB_40 : decode cX5_numberB 40 = .ok (.ishl, 1) := by decide +kernel
theorem dX5_numberB_41 : decode cX5_numberB 41 = .ok (.ior, 1) := by decide +kernel
theorem dX5_numberB_42 : decode cX5_numberB 42 = .ok (.ireturn, 1) := by decide +kernel
theorem dX5_load_0 : decode cX5_load 0 = .ok (.aload_n 0, 1) := by decide +kernel
theorem dX5_load_1 : decode cX5_load 1 = .ok (.bipush 12, 2) := by decide +kernel
theorem dX5_load_3 : decode cX5_load 3 = .ok (.iconst 3, 1) := by decide +kernel
theorem dX5_load_4 : decode cX5_load 4 = .ok (.invokevirtual 40, 3) := by decide +kernel
theorem dX5_load_7 : decode cX5_load 7 = .ok (.istore_n 1, 1) := by decide +kernel
theorem dX5_load_8 : decode cX5_load 8 = .ok (.iload_n 1, 1) := by decide +kernel
theorem dX5_load_9 : decode cX5_load 9 = .ok (.iconst 3, 1) := by decide +kernel
theorem dX5_load_10 : decode cX5_load 10 = .ok (.if_icmp .eq 8, 3) := by decide +kernel
theorem dX5_load_13 : decode cX5_load 13 = .ok (.iload_n 1, 1) := by decide +kernel
theorem dX5_load_14 : decode cX5_load 14 = .ok (.iconst 5, 1) := by decide +kernel
theorem dX5_load_15 : decode cX5_load 15 = .ok (.if_icmp .le 8, 3) := by decide +kernel
theorem dX5_load_18 : decode cX5_load 18 = .ok (.aload_n 0, 1) := by decide +kernel
theorem dX5_load_19 : decode cX5_load 19 = .ok (.invokevirtual 79, 3) := by decide +kernel
theorem dX5_load_22 : decode cX5_load 22 = .ok (.return_, 1) := by decide +kernel
theorem dX5_load_23 : decode cX5_load 23 = .ok (.iconst 1, 1) := by decide +kernel
theorem dX5_load_24 : decode cX5_load 24 = .ok (.iload_n 1, 1) := by decide +kernel
theorem dX5_load_25 : decode cX5_load 25 = .ok (.iconst 3, 1) := by decide +kernel
theorem dX5_load_26 : decode cX5_load 26 = .ok (.iand, 1) := by decide +kernel
theorem dX5_load_27 : decode cX5_load 27 = .ok (.ishl, 1) := by decide +kernel
theorem dX5_load_28 : decode cX5_load 28 = .ok (.istore_n 2, 1) := by decide +kernel
theorem dX5_load_29 : decode cX5_load 29 = .ok (.aload_n 0, 1) := by decide +kernel
theorem dX5_load_30 : decode cX5_load 30 = .ok (.invokevirtual 68, 3) := by decide +kernel
theorem dX5_load_33 : decode cX5_load 33 = .ok (.aload_n 0, 1) := by decide +kernel
theorem dX5_load_34 : decode cX5_load 34 = .ok (.invokevirtual 85, 3) := by decide +kernel
theorem dX5_load_37 : decode cX5_load 37 = .ok (.iadd, 1) := by decide +kernel
theorem dX5_load_38 : decode cX5_load 38 = .ok (.istore_n 3, 1) := by decide +kernel
theorem dX5_load_39 : decode cX5_load 39 = .ok (.aload_n 0, 1) := by decide +kernel
theorem dX5_load_40 : decode cX5_load 40 = .ok (.iload_n 3, 1) := by decide +kernel
theorem dX5_load_41 : decode cX5_load 41 = .ok (.iload_n 2, 1) := by decide +kernel
theorem dX5_load_42 : decode cX5_load 42 = .ok (.iconst 4, 1) := by decide +kernel
theorem dX5_load_43 : decode cX5_load 43 = .ok (.iconst 5, 1) := by decide +kernel
theorem dX5_load_44 : decode cX5_load 44 = .ok (.invokevirtual 88, 3) := by decide +kernel
theorem dX5_load_47 : decode cX5_load 47 = .ok (.ifCond .ne 4, 3) := by decide +kernel
theorem dX5_load_50 : decode cX5_load 50 = .ok (.return_, 1) := by decide +kernel
theorem dX5_load_51 : decode cX5_load 51 = .ok (.aload_n 0, 1) := by decide +kernel
theorem dX5_load_52 : decode cX5_load 52 = .ok (.getfield 7, 3) := by decide +kernel
theorem dX5_load_55 : decode cX5_load 55 = .ok (.iload_n 3, 1) := by decide +kernel
theorem dX5_load_56 : decode cX5_load 56 = .ok (.iconst 4, 1) := by decide +kernel
theorem dX5_load_57 : decode cX5_load 57 = .ok (.idiv, 1) := by decide +kernel
theorem dX5_load_58 : decode cX5_load 58 = .ok (.iaload, 1) := by decide +kernel
theorem dX5_load_59 : decode cX5_load 59 = .ok (.bipush 8, 2) := by decide +kernel
theorem dX5_load_61 : decode cX5_load 61 = .ok (.iload_n 3, 1) := by decide +kernel
theorem dX5_load_62 : decode cX5_load 62 = .ok (.iconst 3, 1) := by decide +kernel
theorem dX5_load_63 : decode cX5_load 63 = .ok (.iand, 1) := by decide +kernel
theorem dX5_load_64 : decode cX5_load 64 = .ok (.imul, 1) := by decide +kernel
theorem dX5_load_65 : decode cX5_load 65 = .ok (.iushr, 1) := by decide +kernel
theorem dX5_load_66 : decode cX5_load 66 = .ok (.istore 4, 2) := by decide +kernel
theorem dX5_load_68 : decode cX5_load 68 = .ok (.iload_n 1, 1) := by decide +kernel
theorem dX5_load_69 : decode cX5_load 69 = .ok (.ifCond .ne 13, 3) := by decide +kernel
theorem dX5_load_72 : decode cX5_load 72 = .ok (.iload 4, 2) := by decide +kernel
theorem dX5_load_74 : decode cX5_load 74 = .ok (.bipush 24, 2) := by decide +kernel
theorem dX5_load_76 : decode cX5_load 76 = .ok (.ishl, 1) := by decide +kernel
theorem dX5_load_77 : decode cX5_load 77 = .ok (.bipush 24, 2) := by decide +kernel
theorem dX5_load_79 : decode cX5_load 79 = .ok (.ishr, 1) := by decide +kernel
theorem dX5_load_80 : decode cX5_load 80 = .ok (.istore 4, 2) := by decide +kernel
theorem dX5_load_82 : decode cX5_load 82 = .ok (.iload_n 1, 1) := by decide +kernel
theorem dX5_load_83 : decode cX5_load 83 = .ok (.iconst 1, 1) := by decide +kernel
theorem dX5_load_84 : decode cX5_load 84 = .ok (.if_icmp .ne 13, 3) := by decide +kernel
theorem dX5_load_87 : decode cX5_load 87 = .ok (.iload 4, 2) := by decide +kernel
theorem dX5_load_89 : decode cX5_load 89 = .ok (.bipush 16, 2) := by decide +kernel
theorem dX5_load_91 : decode cX5_load 91 = .ok (.ishl, 1) := by decide +kernel
theorem dX5_load_92 : decode cX5_load 92 = .ok (.bipush 16, 2) := by decide +kernel
theorem dX5_load_94 : decode cX5_load 94 = .ok (.ishr, 1) := by decide +kernel
