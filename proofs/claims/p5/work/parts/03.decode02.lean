theorem dX4_refuseBeyondLimit_12 : decode cX4_refuseBeyondLimit 12 = .ok (.dup, 1) := by decide +kernel
theorem dX4_refuseBeyondLimit_13 : decode cX4_refuseBeyondLimit 13 = .ok (.ldc 110, 2) := by decide +kernel
theorem dX4_refuseBeyondLimit_15 : decode cX4_refuseBeyondLimit 15 = .ok (.invokespecial 112, 3) := by decide +kernel
theorem dX4_refuseBeyondLimit_18 : decode cX4_refuseBeyondLimit 18 = .ok (.athrow, 1) := by decide +kernel
theorem dX4_refuseBeyondLimit_19 : decode cX4_refuseBeyondLimit 19 = .ok (.return_, 1) := by decide +kernel
theorem dX4_step_0 : decode cX4_step 0 = .ok (.aload_n 0, 1) := by decide +kernel
theorem dX4_step_1 : decode cX4_step 1 = .ok (.dup, 1) := by decide +kernel
theorem dX4_step_2 : decode cX4_step 2 = .ok (.getfield 100, 3) := by decide +kernel
theorem dX4_step_5 : decode cX4_step 5 = .ok (.iconst 1, 1) := by decide +kernel
theorem dX4_step_6 : decode cX4_step 6 = .ok (.iadd, 1) := by decide +kernel
theorem dX4_step_7 : decode cX4_step 7 = .ok (.putfield 100, 3) := by decide +kernel
theorem dX4_step_10 : decode cX4_step 10 = .ok (.aload_n 0, 1) := by decide +kernel
theorem dX4_step_11 : decode cX4_step 11 = .ok (.getfield 19, 3) := by decide +kernel
theorem dX4_step_14 : decode cX4_step 14 = .ok (.invokevirtual 113, 3) := by decide +kernel
theorem dX4_step_17 : decode cX4_step 17 = .ok (.ifCond .eq 14, 3) := by decide +kernel
theorem dX4_step_20 : decode cX4_step 20 = .ok (.aload_n 0, 1) := by decide +kernel
theorem dX4_step_21 : decode cX4_step 21 = .ok (.ldc 117, 2) := by decide +kernel
theorem dX4_step_23 : decode cX4_step 23 = .ok (.iconst 0, 1) := by decide +kernel
theorem dX4_step_24 : decode cX4_step 24 = .ok (.invokevirtual 118, 3) := by decide +kernel
theorem dX4_step_27 : decode cX4_step 27 = .ok (.pop, 1) := by decide +kernel
theorem dX4_step_28 : decode cX4_step 28 = .ok (.goto 57, 3) := by decide +kernel
theorem dX4_step_31 : decode cX4_step 31 = .ok (.aload_n 0, 1) := by decide +kernel
theorem dX4_step_32 : decode cX4_step 32 = .ok (.getfield 70, 3) := by decide +kernel
theorem dX4_step_35 : decode cX4_step 35 = .ok (.invokestatic 122, 3) := by decide +kernel
theorem dX4_step_38 : decode cX4_step 38 = .ok (.ifCond .ne 16, 3) := by decide +kernel
theorem dX4_step_41 : decode cX4_step 41 = .ok (.aload_n 0, 1) := by decide +kernel
theorem dX4_step_42 : decode cX4_step 42 = .ok (.iconst 1, 1) := by decide +kernel
theorem dX4_step_43 : decode cX4_step 43 = .ok (.aload_n 0, 1) := by decide +kernel
theorem dX4_step_44 : decode cX4_step 44 = .ok (.getfield 70, 3) := by decide +kernel
theorem dX4_step_47 : decode cX4_step 47 = .ok (.invokevirtual 118, 3) := by decide +kernel
theorem dX4_step_50 : decode cX4_step 50 = .ok (.pop, 1) := by decide +kernel
theorem dX4_step_51 : decode cX4_step 51 = .ok (.goto 34, 3) := by decide +kernel
theorem dX4_step_54 : decode cX4_step 54 = .ok (.aload_n 0, 1) := by decide +kernel
theorem dX4_step_55 : decode cX4_step 55 = .ok (.aload_n 0, 1) := by decide +kernel
theorem dX4_step_56 : decode cX4_step 56 = .ok (.getfield 10, 3) := by decide +kernel
theorem dX4_step_59 : decode cX4_step 59 = .ok (.aload_n 0, 1) := by decide +kernel
theorem dX4_step_60 : decode cX4_step 60 = .ok (.getfield 70, 3) := by decide +kernel
theorem dX4_step_63 : decode cX4_step 63 = .ok (.invokevirtual 97, 3) := by decide +kernel
theorem dX4_step_66 : decode cX4_step 66 = .ok (.invokevirtual 125, 3) := by decide +kernel
theorem dX4_step_69 : decode cX4_step 69 = .ok (.ifCond .eq 16, 3) := by decide +kernel
theorem dX4_step_72 : decode cX4_step 72 = .ok (.aload_n 0, 1) := by decide +kernel
theorem dX4_step_73 : decode cX4_step 73 = .ok (.getfield 19, 3) := by decide +kernel
theorem dX4_step_76 : decode cX4_step 76 = .ok (.dup, 1) := by decide +kernel
theorem dX4_step_77 : decode cX4_step 77 = .ok (.getfield 103, 3) := by decide +kernel
theorem dX4_step_80 : decode cX4_step 80 = .ok (.iconst 1, 1) := by decide +kernel
theorem dX4_step_81 : decode cX4_step 81 = .ok (.iadd, 1) := by decide +kernel
theorem dX4_step_82 : decode cX4_step 82 = .ok (.putfield 103, 3) := by decide +kernel
theorem dX4_step_85 : decode cX4_step 85 = .ok (.return_, 1) := by decide +kernel
theorem dX2_isInterrupted_0 : decode cX2_isInterrupted 0 = .ok (.aload_n 0, 1) := by decide +kernel
theorem dX2_isInterrupted_1 : decode cX2_isInterrupted 1 = .ok (.getfield 13, 3) := by decide +kernel
theorem dX2_isInterrupted_4 : decode cX2_isInterrupted 4 = .ok (.bipush 8, 2) := by decide +kernel
theorem dX2_isInterrupted_6 : decode cX2_isInterrupted 6 = .ok (.iand, 1) := by decide +kernel
theorem dX2_isInterrupted_7 : decode cX2_isInterrupted 7 = .ok (.ifCond .eq 25, 3) := by decide +kernel
theorem dX2_isInterrupted_10 : decode cX2_isInterrupted 10 = .ok (.aload_n 0, 1) := by decide +kernel
theorem dX2_isInterrupted_11 : decode cX2_isInterrupted 11 = .ok (.getfield 17, 3) := by decide +kernel
theorem dX2_isInterrupted_14 : decode cX2_isInterrupted 14 = .ok (.sipush 2048, 3) := by decide +kernel
theorem dX2_isInterrupted_17 : decode cX2_isInterrupted 17 = .ok (.iand, 1) := by decide +kernel
theorem dX2_isInterrupted_18 : decode cX2_isInterrupted 18 = .ok (.ifCond .eq 14, 3) := by decide +kernel
theorem dX2_isInterrupted_21 : decode cX2_isInterrupted 21 = .ok (.aload_n 0, 1) := by decide +kernel
theorem dX2_isInterrupted_22 : decode cX2_isInterrupted 22 = .ok (.getfield 35, 3) := by decide +kernel
theorem dX2_isInterrupted_25 : decode cX2_isInterrupted 25 = .ok (.ifCond .eq 7, 3) := by decide +kernel
theorem dX2_isInterrupted_28 : decode cX2_isInterrupted 28 = .ok (.iconst 1, 1) := by decide +kernel
theorem dX2_isInterrupted_29 : decode cX2_isInterrupted 29 = .ok (.goto 4, 3) := by decide +kernel
theorem dX2_isInterrupted_32 : decode cX2_isInterrupted 32 = .ok (.iconst 0, 1) := by decide +kernel
theorem dX2_isInterrupted_33 : decode cX2_isInterrupted 33 = .ok (.ireturn, 1) := by decide +kernel
theorem dX4_trap_0 : decode cX4_trap 0 = .ok (.aload_n 0, 1) := by decide +kernel
theorem dX4_trap_1 : decode cX4_trap 1 = .ok (.dup, 1) := by decide +kernel
theorem dX4_trap_2 : decode cX4_trap 2 = .ok (.getfield 74, 3) := by decide +kernel
theorem dX4_trap_5 : decode cX4_trap 5 = .ok (.iconst 1, 1) := by decide +kernel
theorem dX4_trap_6 : decode cX4_trap 6 = .ok (.iadd, 1) := by decide +kernel
theorem dX4_trap_7 : decode cX4_trap 7 = .ok (.putfield 74, 3) := by decide +kernel
theorem dX4_trap_10 : decode cX4_trap 10 = .ok (.aload_n 0, 1) := by decide +kernel
theorem dX4_trap_11 : decode cX4_trap 11 = .ok (.getfield 19, 3) := by decide +kernel
theorem dX4_trap_14 : decode cX4_trap 14 = .ok (.aload_n 0, 1) := by decide +kernel
theorem dX4_trap_15 : decode cX4_trap 15 = .ok (.getfield 70, 3) := by decide +kernel
theorem dX4_trap_18 : decode cX4_trap 18 = .ok (.iload_n 1, 1) := by decide +kernel
theorem dX4_trap_19 : decode cX4_trap 19 = .ok (.iload_n 2, 1) := by decide +kernel
theorem dX4_trap_20 : decode cX4_trap 20 = .ok (.invokevirtual 187, 3) := by decide +kernel
theorem dX4_trap_23 : decode cX4_trap 23 = .ok (.aload_n 0, 1) := by decide +kernel
theorem dX4_trap_24 : decode cX4_trap 24 = .ok (.getfield 19, 3) := by decide +kernel
theorem dX4_trap_27 : decode cX4_trap 27 = .ok (.getfield 191, 3) := by decide +kernel
theorem dX4_trap_30 : decode cX4_trap 30 = .ok (.ifCond .ne 11, 3) := by decide +kernel
theorem dX4_trap_33 : decode cX4_trap 33 = .ok (.aload_n 0, 1) := by decide +kernel
theorem dX4_trap_34 : decode cX4_trap 34 = .ok (.iconst 1, 1) := by decide +kernel
theorem dX4_trap_35 : decode cX4_trap 35 = .ok (.putfield 55, 3) := by decide +kernel
theorem dX4_trap_38 : decode cX4_trap 38 = .ok (.goto 14, 3) := by decide +kernel
theorem dX4_trap_41 : decode cX4_trap 41 = .ok (.aload_n 0, 1) := by decide +kernel
theorem dX4_trap_42 : decode cX4_trap 42 = .ok (.aload_n 0, 1) := by decide +kernel
theorem dX4_trap_43 : decode cX4_trap 43 = .ok (.getfield 19, 3) := by decide +kernel
theorem dX4_trap_46 : decode cX4_trap 46 = .ok (.getfield 191, 3) := by decide +kernel
theorem dX4_trap_49 : decode cX4_trap 49 = .ok (.putfield 70, 3) := by decide +kernel
theorem dX4_trap_52 : decode cX4_trap 52 = .ok (.iconst 0, 1) := by decide +kernel
theorem dX4_trap_53 : decode cX4_trap 53 = .ok (.ireturn, 1) := by decide +kernel
theorem dX2_enterTrap_0 : decode cX2_enterTrap 0 = .ok (.aload_n 0, 1) := by decide +kernel
theorem dX2_enterTrap_1 : decode cX2_enterTrap 1 = .ok (.iload_n 1, 1) := by decide +kernel
theorem dX2_enterTrap_2 : decode cX2_enterTrap 2 = .ok (.putfield 26, 3) := by decide +kernel
theorem dX2_enterTrap_5 : decode cX2_enterTrap 5 = .ok (.aload_n 0, 1) := by decide +kernel
theorem dX2_enterTrap_6 : decode cX2_enterTrap 6 = .ok (.iload_n 2, 1) := by decide +kernel
theorem dX2_enterTrap_7 : decode cX2_enterTrap 7 = .ok (.putfield 29, 3) := by decide +kernel
theorem dX2_enterTrap_10 : decode cX2_enterTrap 10 = .ok (.aload_n 0, 1) := by decide +kernel
theorem dX2_enterTrap_11 : decode cX2_enterTrap 11 = .ok (.iload_n 3, 1) := by decide +kernel
theorem dX2_enterTrap_12 : decode cX2_enterTrap 12 = .ok (.putfield 32, 3) := by decide +kernel
theorem dX2_enterTrap_15 : decode cX2_enterTrap 15 = .ok (.aload_n 0, 1) := by decide +kernel
theorem dX2_enterTrap_16 : decode cX2_enterTrap 16 = .ok (.aload_n 0, 1) := by decide +kernel
theorem dX2_enterTrap_17 : decode cX2_enterTrap 17 = .ok (.getfield 13, 3) := by decide +kernel
theorem dX2_enterTrap_20 : decode cX2_enterTrap 20 = .ok (.bipush 8, 2) := by decide +kernel
theorem dX2_enterTrap_22 : decode cX2_enterTrap 22 = .ok (.iand, 1) := by decide +kernel
theorem dX2_enterTrap_23 : decode cX2_enterTrap 23 = .ok (.ifCond .eq 9, 3) := by decide +kernel
theorem dX2_enterTrap_26 : decode cX2_enterTrap 26 = .ok (.sipush 128, 3) := by decide +kernel
theorem dX2_enterTrap_29 : decode cX2_enterTrap 29 = .ok (.goto 4, 3) := by decide +kernel
theorem dX2_enterTrap_32 : decode cX2_enterTrap 32 = .ok (.iconst 0, 1) := by decide +kernel
theorem dX2_enterTrap_33 : decode cX2_enterTrap 33 = .ok (.putfield 13, 3) := by decide +kernel
theorem dX2_enterTrap_36 : decode cX2_enterTrap 36 = .ok (.return_, 1) := by decide +kernel
theorem dX3_readWord_0 : decode cX3_readWord 0 = .ok (.iload_n 1, 1) := by decide +kernel
theorem dX3_readWord_1 : decode cX3_readWord 1 = .ok (.iconst 2, 1) := by decide +kernel
theorem dX3_readWord_2 : decode cX3_readWord 2 = .ok (.iushr, 1) := by decide +kernel
theorem dX3_readWord_3 : decode cX3_readWord 3 = .ok (.istore_n 2, 1) := by decide +kernel
theorem dX3_readWord_4 : decode cX3_readWord 4 = .ok (.iload_n 2, 1) := by decide +kernel
theorem dX3_readWord_5 : decode cX3_readWord 5 = .ok (.aload_n 0, 1) := by decide +kernel
theorem dX3_readWord_6 : decode cX3_readWord 6 = .ok (.getfield 9, 3) := by decide +kernel
theorem dX3_readWord_9 : decode cX3_readWord 9 = .ok (.arraylength, 1) := by decide +kernel
theorem dX3_readWord_10 : decode cX3_readWord 10 = .ok (.if_icmp .ge 12, 3) := by decide +kernel
theorem dX3_readWord_13 : decode cX3_readWord 13 = .ok (.aload_n 0, 1) := by decide +kernel
theorem dX3_readWord_14 : decode cX3_readWord 14 = .ok (.getfield 9, 3) := by decide +kernel
theorem dX3_readWord_17 : decode cX3_readWord 17 = .ok (.iload_n 2, 1) := by decide +kernel
theorem dX3_readWord_18 : decode cX3_readWord 18 = .ok (.iaload, 1) := by decide +kernel
theorem dX3_readWord_19 : decode cX3_readWord 19 = .ok (.goto 4, 3) := by decide +kernel
theorem dX3_readWord_22 : decode cX3_readWord 22 = .ok (.iconst 0, 1) := by decide +kernel
theorem dX3_readWord_23 : decode cX3_readWord 23 = .ok (.ireturn, 1) := by decide +kernel
theorem dX4_execute_0 : decode cX4_execute 0 = .ok (.iload_n 1, 1) := by decide +kernel
theorem dX4_execute_1 : decode cX4_execute 1 = .ok (.invokestatic 128, 3) := by decide +kernel
theorem dX4_execute_4 : decode cX4_execute 4 = .ok (.lookupswitch 205 #[(3, 155), (15, 179), (19, 167), (23, 110), (35, 161), (51, 173), (55, 100), (99, 149), (103, 143), (111, 125), (115, 184)], 100) := by decide +kernel
theorem dX4_execute_104 : decode cX4_execute 104 = .ok (.aload_n 0, 1) := by decide +kernel
theorem dX4_execute_105 : decode cX4_execute 105 = .ok (.iload_n 1, 1) := by decide +kernel
theorem dX4_execute_106 : decode cX4_execute 106 = .ok (.iload_n 1, 1) := by decide +kernel
theorem dX4_execute_107 : decode cX4_execute 107 = .ok (.invokestatic 133, 3) := by decide +kernel
theorem dX4_execute_110 : decode cX4_execute 110 = .ok (.invokevirtual 136, 3) := by decide +kernel
theorem dX4_execute_113 : decode cX4_execute 113 = .ok (.ireturn, 1) := by decide +kernel
theorem dX4_execute_114 : decode cX4_execute 114 = .ok (.aload_n 0, 1) := by decide +kernel
theorem dX4_execute_115 : decode cX4_execute 115 = .ok (.iload_n 1, 1) := by decide +kernel
theorem dX4_execute_116 : decode cX4_execute 116 = .ok (.aload_n 0, 1) := by decide +kernel
theorem dX4_execute_117 : decode cX4_execute 117 = .ok (.getfield 70, 3) := by decide +kernel
theorem dX4_execute_120 : decode cX4_execute 120 = .ok (.iload_n 1, 1) := by decide +kernel
theorem dX4_execute_121 : decode cX4_execute 121 = .ok (.invokestatic 133, 3) := by decide +kernel
theorem dX4_execute_124 : decode cX4_execute 124 = .ok (.iadd, 1) := by decide +kernel
theorem dX4_execute_125 : decode cX4_execute 125 = .ok (.invokevirtual 136, 3) := by decide +kernel
theorem dX4_execute_128 : decode cX4_execute 128 = .ok (.ireturn, 1) := by decide +kernel
theorem dX4_execute_129 : decode cX4_execute 129 = .ok (.aload_n 0, 1) := by decide +kernel
theorem dX4_execute_130 : decode cX4_execute 130 = .ok (.iload_n 1, 1) := by decide +kernel
theorem dX4_execute_131 : decode cX4_execute 131 = .ok (.invokestatic 139, 3) := by decide +kernel
theorem dX4_execute_134 : decode cX4_execute 134 = .ok (.aload_n 0, 1) := by decide +kernel
theorem dX4_execute_135 : decode cX4_execute 135 = .ok (.getfield 70, 3) := by decide +kernel
theorem dX4_execute_138 : decode cX4_execute 138 = .ok (.iload_n 1, 1) := by decide +kernel
theorem dX4_execute_139 : decode cX4_execute 139 = .ok (.invokestatic 142, 3) := by decide +kernel
theorem dX4_execute_142 : decode cX4_execute 142 = .ok (.iadd, 1) := by decide +kernel
theorem dX4_execute_143 : decode cX4_execute 143 = .ok (.invokevirtual 145, 3) := by decide +kernel
theorem dX4_execute_146 : decode cX4_execute 146 = .ok (.ireturn, 1) := by decide +kernel
theorem dX4_execute_147 : decode cX4_execute 147 = .ok (.aload_n 0, 1) := by decide +kernel
theorem dX4_execute_148 : decode cX4_execute 148 = .ok (.iload_n 1, 1) := by decide +kernel
theorem dX4_execute_149 : decode cX4_execute 149 = .ok (.invokevirtual 148, 3) := by decide +kernel
theorem dX4_execute_152 : decode cX4_execute 152 = .ok (.ireturn, 1) := by decide +kernel
theorem dX4_execute_153 : decode cX4_execute 153 = .ok (.aload_n 0, 1) := by decide +kernel
theorem dX4_execute_154 : decode cX4_execute 154 = .ok (.iload_n 1, 1) := by decide +kernel
theorem dX4_execute_155 : decode cX4_execute 155 = .ok (.invokevirtual 151, 3) := by decide +kernel
theorem dX4_execute_158 : decode cX4_execute 158 = .ok (.ireturn, 1) := by decide +kernel
theorem dX4_execute_159 : decode cX4_execute 159 = .ok (.aload_n 0, 1) := by decide +kernel
theorem dX4_execute_160 : decode cX4_execute 160 = .ok (.iload_n 1, 1) := by decide +kernel
theorem dX4_execute_161 : decode cX4_execute 161 = .ok (.invokevirtual 154, 3) := by decide +kernel
theorem dX4_execute_164 : decode cX4_execute 164 = .ok (.ireturn, 1) := by decide +kernel
theorem dX4_execute_165 : decode cX4_execute 165 = .ok (.aload_n 0, 1) := by decide +kernel
theorem dX4_execute_166 : decode cX4_execute 166 = .ok (.iload_n 1, 1) := by decide +kernel
theorem dX4_execute_167 : decode cX4_execute 167 = .ok (.invokevirtual 157, 3) := by decide +kernel
theorem dX4_execute_170 : decode cX4_execute 170 = .ok (.ireturn, 1) := by decide +kernel
theorem dX4_execute_171 : decode cX4_execute 171 = .ok (.aload_n 0, 1) := by decide +kernel
theorem dX4_execute_172 : decode cX4_execute 172 = .ok (.iload_n 1, 1) := by decide +kernel
theorem dX4_execute_173 : decode cX4_execute 173 = .ok (.invokevirtual 160, 3) := by decide +kernel
theorem dX4_execute_176 : decode cX4_execute 176 = .ok (.ireturn, 1) := by decide +kernel
theorem dX4_execute_177 : decode cX4_execute 177 = .ok (.aload_n 0, 1) := by decide +kernel
theorem dX4_execute_178 : decode cX4_execute 178 = .ok (.iload_n 1, 1) := by decide +kernel
theorem dX4_execute_179 : decode cX4_execute 179 = .ok (.invokevirtual 163, 3) := by decide +kernel
theorem dX4_execute_182 : decode cX4_execute 182 = .ok (.ireturn, 1) := by decide +kernel
theorem dX4_execute_183 : decode cX4_execute 183 = .ok (.aload_n 0, 1) := by decide +kernel
theorem dX4_execute_184 : decode cX4_execute 184 = .ok (.invokevirtual 166, 3) := by decide +kernel
theorem dX4_execute_187 : decode cX4_execute 187 = .ok (.ireturn, 1) := by decide +kernel
theorem dX4_execute_188 : decode cX4_execute 188 = .ok (.iload_n 1, 1) := by decide +kernel
theorem dX4_execute_189 : decode cX4_execute 189 = .ok (.invokestatic 169, 3) := by decide +kernel
theorem dX4_execute_192 : decode cX4_execute 192 = .ok (.ifCond .ne 11, 3) := by decide +kernel
theorem dX4_execute_195 : decode cX4_execute 195 = .ok (.aload_n 0, 1) := by decide +kernel
theorem dX4_execute_196 : decode cX4_execute 196 = .ok (.iload_n 1, 1) := by decide +kernel
theorem dX4_execute_197 : decode cX4_execute 197 = .ok (.invokevirtual 172, 3) := by decide +kernel
theorem dX4_execute_200 : decode cX4_execute 200 = .ok (.goto 8, 3) := by decide +kernel
theorem dX4_execute_203 : decode cX4_execute 203 = .ok (.aload_n 0, 1) := by decide +kernel
theorem dX4_execute_204 : decode cX4_execute 204 = .ok (.iload_n 1, 1) := by decide +kernel
theorem dX4_execute_205 : decode cX4_execute 205 = .ok (.invokevirtual 175, 3) := by decide +kernel
theorem dX4_execute_208 : decode cX4_execute 208 = .ok (.ireturn, 1) := by decide +kernel
theorem dX4_execute_209 : decode cX4_execute 209 = .ok (.aload_n 0, 1) := by decide +kernel
theorem dX4_execute_210 : decode cX4_execute 210 = .ok (.iload_n 1, 1) := by decide +kernel
theorem dX4_execute_211 : decode cX4_execute 211 = .ok (.invokevirtual 178, 3) := by decide +kernel
theorem dX4_execute_214 : decode cX4_execute 214 = .ok (.ireturn, 1) := by decide +kernel
theorem dX1_op_0 : decode cX1_op 0 = .ok (.iload_n 0, 1) := by decide +kernel
theorem dX1_op_1 : decode cX1_op 1 = .ok (.bipush 127, 2) := by decide +kernel
theorem dX1_op_3 : decode cX1_op 3 = .ok (.iand, 1) := by decide +kernel
theorem dX1_op_4 : decode cX1_op 4 = .ok (.ireturn, 1) := by decide +kernel
theorem dX1_numberU_0 : decode cX1_numberU 0 = .ok (.iload_n 0, 1) := by decide +kernel
theorem dX1_numberU_1 : decode cX1_numberU 1 = .ok (.sipush (-4096), 3) := by decide +kernel
theorem dX1_numberU_4 : decode cX1_numberU 4 = .ok (.iand, 1) := by decide +kernel
theorem dX1_numberU_5 : decode cX1_numberU 5 = .ok (.ireturn, 1) := by decide +kernel
theorem dX4_goOnWith_0 : decode cX4_goOnWith 0 = .ok (.aload_n 0, 1) := by decide +kernel
theorem dX4_goOnWith_1 : decode cX4_goOnWith 1 = .ok (.iload_n 1, 1) := by decide +kernel
theorem dX4_goOnWith_2 : decode cX4_goOnWith 2 = .ok (.invokestatic 139, 3) := by decide +kernel
theorem dX4_goOnWith_5 : decode cX4_goOnWith 5 = .ok (.iload_n 2, 1) := by decide +kernel
theorem dX4_goOnWith_6 : decode cX4_goOnWith 6 = .ok (.invokevirtual 38, 3) := by decide +kernel
theorem dX4_goOnWith_9 : decode cX4_goOnWith 9 = .ok (.aload_n 0, 1) := by decide +kernel
theorem dX4_goOnWith_10 : decode cX4_goOnWith 10 = .ok (.invokevirtual 166, 3) := by decide +kernel
theorem dX4_goOnWith_13 : decode cX4_goOnWith 13 = .ok (.ireturn, 1) := by decide +kernel
theorem dX1_d_0 : decode cX1_d 0 = .ok (.iload_n 0, 1) := by decide +kernel
theorem dX1_d_1 : decode cX1_d 1 = .ok (.bipush 7, 2) := by decide +kernel
theorem dX1_d_3 : decode cX1_d 3 = .ok (.iushr, 1) := by decide +kernel
theorem dX1_d_4 : decode cX1_d 4 = .ok (.bipush 31, 2) := by decide +kernel
theorem dX1_d_6 : decode cX1_d 6 = .ok (.iand, 1) := by decide +kernel
theorem dX1_d_7 : decode cX1_d 7 = .ok (.ireturn, 1) := by decide +kernel
theorem dX4_goOn_0 : decode cX4_goOn 0 = .ok (.aload_n 0, 1) := by decide +kernel
theorem dX4_goOn_1 : decode cX4_goOn 1 = .ok (.dup, 1) := by decide +kernel
theorem dX4_goOn_2 : decode cX4_goOn 2 = .ok (.getfield 70, 3) := by decide +kernel
theorem dX4_goOn_5 : decode cX4_goOn 5 = .ok (.iconst 4, 1) := by decide +kernel
theorem dX4_goOn_6 : decode cX4_goOn 6 = .ok (.iadd, 1) := by decide +kernel
theorem dX4_goOn_7 : decode cX4_goOn 7 = .ok (.putfield 70, 3) := by decide +kernel
theorem dX4_goOn_10 : decode cX4_goOn 10 = .ok (.iconst 1, 1) := by decide +kernel
theorem dX4_goOn_11 : decode cX4_goOn 11 = .ok (.ireturn, 1) := by decide +kernel
theorem dX1_numberJ_0 : decode cX1_numberJ 0 = .ok (.iload_n 0, 1) := by decide +kernel
theorem dX1_numberJ_1 : decode cX1_numberJ 1 = .ok (.bipush 31, 2) := by decide +kernel
theorem dX1_numberJ_3 : decode cX1_numberJ 3 = .ok (.ishr, 1) := by decide +kernel
theorem dX1_numberJ_4 : decode cX1_numberJ 4 = .ok (.bipush 20, 2) := by decide +kernel
theorem dX1_numberJ_6 : decode cX1_numberJ 6 = .ok (.ishl, 1) := by decide +kernel
theorem dX1_numberJ_7 : decode cX1_numberJ 7 = .ok (.iload_n 0, 1) := by decide +kernel
theorem dX1_numberJ_8 : decode cX1_numberJ 8 = .ok (.bipush 12, 2) := by decide +kernel
theorem dX1_numberJ_10 : decode cX1_numberJ 10 = .ok (.iushr, 1) := by decide +kernel
theorem dX1_numberJ_11 : decode cX1_numberJ 11 = .ok (.sipush 255, 3) := by decide +kernel
theorem dX1_numberJ_14 : decode cX1_numberJ 14 = .ok (.iand, 1) := by decide +kernel
theorem dX1_numberJ_15 : decode cX1_numberJ 15 = .ok (.bipush 12, 2) := by decide +kernel
theorem dX1_numberJ_17 : decode cX1_numberJ 17 = .ok (.ishl, 1) := by decide +kernel
theorem dX1_numberJ_18 : decode cX1_numberJ 18 = .ok (.ior, 1) := by decide +kernel
theorem dX1_numberJ_19 : decode cX1_numberJ 19 = .ok (.iload_n 0, 1) := by decide +kernel
theorem dX1_numberJ_20 : decode cX1_numberJ 20 = .ok (.bipush 20, 2) := by decide +kernel
theorem dX1_numberJ_22 : decode cX1_numberJ 22 = .ok (.iushr, 1) := by decide +kernel
theorem dX1_numberJ_23 : decode cX1_numberJ 23 = .ok (.iconst 1, 1) := by decide +kernel
theorem dX1_numberJ_24 : decode cX1_numberJ 24 = .ok (.iand, 1) := by decide +kernel
theorem dX1_numberJ_25 : decode cX1_numberJ 25 = .ok (.bipush 11, 2) := by decide +kernel
theorem dX1_numberJ_27 : decode cX1_numberJ 27 = .ok (.ishl, 1) := by decide +kernel
theorem dX1_numberJ_28 : decode cX1_numberJ 28 = .ok (.ior, 1) := by decide +kernel
theorem dX1_numberJ_29 : decode cX1_numberJ 29 = .ok (.iload_n 0, 1) := by decide +kernel
theorem dX1_numberJ_30 : decode cX1_numberJ 30 = .ok (.bipush 21, 2) := by decide +kernel
theorem dX1_numberJ_32 : decode cX1_numberJ 32 = .ok (.iushr, 1) := by decide +kernel
theorem dX1_numberJ_33 : decode cX1_numberJ 33 = .ok (.sipush 1023, 3) := by decide +kernel
theorem dX1_numberJ_36 : decode cX1_numberJ 36 = .ok (.iand, 1) := by decide +kernel
theorem dX1_numberJ_37 : decode cX1_numberJ 37 = .ok (.iconst 1, 1) := by decide +kernel
theorem dX1_numberJ_38 : decode cX1_numberJ 38 = .ok (.ishl, 1) := by decide +kernel
theorem dX1_numberJ_39 : decode cX1_numberJ 39 = .ok (.ior, 1) := by decide +kernel
theorem dX1_numberJ_40 : decode cX1_numberJ 40 = .ok (.ireturn, 1) := by decide +kernel
theorem dX4_jump_0 : decode cX4_jump 0 = .ok (.iload_n 2, 1) := by decide +kernel
