theorem dX5_run_45 : decode cX5_run 45 = .ok (.aload_n 0, 1) := by decide +kernel
theorem dX5_run_46 : decode cX5_run 46 = .ok (.getfield 30, 3) := by decide +kernel
theorem dX5_run_49 : decode cX5_run 49 = .ok (.ifCond .ne 22, 3) := by decide +kernel
theorem dX5_run_52 : decode cX5_run 52 = .ok (.aload_n 0, 1) := by decide +kernel
theorem dX5_run_53 : decode cX5_run 53 = .ok (.getfield 155, 3) := by decide +kernel
theorem dX5_run_56 : decode cX5_run 56 = .ok (.ldc 164, 2) := by decide +kernel
theorem dX5_run_58 : decode cX5_run 58 = .ok (.if_icmp .ge 13, 3) := by decide +kernel
theorem dX5_run_61 : decode cX5_run 61 = .ok (.aload_n 0, 1) := by decide +kernel
theorem dX5_run_62 : decode cX5_run 62 = .ok (.invokevirtual 165, 3) := by decide +kernel
theorem dX5_run_65 : decode cX5_run 65 = .ok (.iinc 2 1, 3) := by decide +kernel
theorem dX5_run_68 : decode cX5_run 68 = .ok (.goto (-28), 3) := by decide +kernel
theorem dX5_run_71 : decode cX5_run 71 = .ok (.iload_n 2, 1) := by decide +kernel
theorem dX5_run_72 : decode cX5_run 72 = .ok (.ireturn, 1) := by decide +kernel
theorem dX5_raise_0 : decode cX5_raise 0 = .ok (.aload_n 0, 1) := by decide +kernel
theorem dX5_raise_1 : decode cX5_raise 1 = .ok (.iload_n 1, 1) := by decide +kernel
theorem dX5_raise_2 : decode cX5_raise 2 = .ok (.putfield 19, 3) := by decide +kernel
theorem dX5_raise_5 : decode cX5_raise 5 = .ok (.iconst 0, 1) := by decide +kernel
theorem dX5_raise_6 : decode cX5_raise 6 = .ok (.ireturn, 1) := by decide +kernel
theorem dX5_step_0 : decode cX5_step 0 = .ok (.aload_n 0, 1) := by decide +kernel
theorem dX5_step_1 : decode cX5_step 1 = .ok (.iconst 0, 1) := by decide +kernel
theorem dX5_step_2 : decode cX5_step 2 = .ok (.putfield 45, 3) := by decide +kernel
theorem dX5_step_5 : decode cX5_step 5 = .ok (.aload_n 0, 1) := by decide +kernel
theorem dX5_step_6 : decode cX5_step 6 = .ok (.getfield 16, 3) := by decide +kernel
theorem dX5_step_9 : decode cX5_step 9 = .ok (.iconst 0, 1) := by decide +kernel
theorem dX5_step_10 : decode cX5_step 10 = .ok (.iaload, 1) := by decide +kernel
theorem dX5_step_11 : decode cX5_step 11 = .ok (.bipush 8, 2) := by decide +kernel
theorem dX5_step_13 : decode cX5_step 13 = .ok (.iand, 1) := by decide +kernel
theorem dX5_step_14 : decode cX5_step 14 = .ok (.ifCond .eq 27, 3) := by decide +kernel
theorem dX5_step_17 : decode cX5_step 17 = .ok (.aload_n 0, 1) := by decide +kernel
theorem dX5_step_18 : decode cX5_step 18 = .ok (.getfield 16, 3) := by decide +kernel
theorem dX5_step_21 : decode cX5_step 21 = .ok (.iconst 1, 1) := by decide +kernel
theorem dX5_step_22 : decode cX5_step 22 = .ok (.iaload, 1) := by decide +kernel
theorem dX5_step_23 : decode cX5_step 23 = .ok (.sipush 2048, 3) := by decide +kernel
theorem dX5_step_26 : decode cX5_step 26 = .ok (.iand, 1) := by decide +kernel
theorem dX5_step_27 : decode cX5_step 27 = .ok (.ifCond .eq 14, 3) := by decide +kernel
theorem dX5_step_30 : decode cX5_step 30 = .ok (.aload_n 0, 1) := by decide +kernel
theorem dX5_step_31 : decode cX5_step 31 = .ok (.getfield 34, 3) := by decide +kernel
theorem dX5_step_34 : decode cX5_step 34 = .ok (.ifCond .eq 7, 3) := by decide +kernel
theorem dX5_step_37 : decode cX5_step 37 = .ok (.iconst 1, 1) := by decide +kernel
theorem dX5_step_38 : decode cX5_step 38 = .ok (.goto 4, 3) := by decide +kernel
theorem dX5_step_41 : decode cX5_step 41 = .ok (.iconst 0, 1) := by decide +kernel
theorem dX5_step_42 : decode cX5_step 42 = .ok (.istore_n 1, 1) := by decide +kernel
theorem dX5_step_43 : decode cX5_step 43 = .ok (.iload_n 1, 1) := by decide +kernel
theorem dX5_step_44 : decode cX5_step 44 = .ok (.ifCond .eq 13, 3) := by decide +kernel
theorem dX5_step_47 : decode cX5_step 47 = .ok (.aload_n 0, 1) := by decide +kernel
theorem dX5_step_48 : decode cX5_step 48 = .ok (.ldc 151, 2) := by decide +kernel
theorem dX5_step_50 : decode cX5_step 50 = .ok (.iconst 0, 1) := by decide +kernel
theorem dX5_step_51 : decode cX5_step 51 = .ok (.invokevirtual 54, 3) := by decide +kernel
theorem dX5_step_54 : decode cX5_step 54 = .ok (.goto 51, 3) := by decide +kernel
theorem dX5_step_57 : decode cX5_step 57 = .ok (.aload_n 0, 1) := by decide +kernel
theorem dX5_step_58 : decode cX5_step 58 = .ok (.getfield 27, 3) := by decide +kernel
theorem dX5_step_61 : decode cX5_step 61 = .ok (.ifCond .lt 13, 3) := by decide +kernel
theorem dX5_step_64 : decode cX5_step 64 = .ok (.aload_n 0, 1) := by decide +kernel
theorem dX5_step_65 : decode cX5_step 65 = .ok (.getfield 27, 3) := by decide +kernel
theorem dX5_step_68 : decode cX5_step 68 = .ok (.sipush 4092, 3) := by decide +kernel
theorem dX5_step_71 : decode cX5_step 71 = .ok (.if_icmp .le 15, 3) := by decide +kernel
theorem dX5_step_74 : decode cX5_step 74 = .ok (.aload_n 0, 1) := by decide +kernel
theorem dX5_step_75 : decode cX5_step 75 = .ok (.iconst 1, 1) := by decide +kernel
theorem dX5_step_76 : decode cX5_step 76 = .ok (.aload_n 0, 1) := by decide +kernel
theorem dX5_step_77 : decode cX5_step 77 = .ok (.getfield 27, 3) := by decide +kernel
theorem dX5_step_80 : decode cX5_step 80 = .ok (.invokevirtual 54, 3) := by decide +kernel
theorem dX5_step_83 : decode cX5_step 83 = .ok (.goto 22, 3) := by decide +kernel
theorem dX5_step_86 : decode cX5_step 86 = .ok (.aload_n 0, 1) := by decide +kernel
theorem dX5_step_87 : decode cX5_step 87 = .ok (.aload_n 0, 1) := by decide +kernel
theorem dX5_step_88 : decode cX5_step 88 = .ok (.getfield 7, 3) := by decide +kernel
theorem dX5_step_91 : decode cX5_step 91 = .ok (.aload_n 0, 1) := by decide +kernel
theorem dX5_step_92 : decode cX5_step 92 = .ok (.getfield 27, 3) := by decide +kernel
theorem dX5_step_95 : decode cX5_step 95 = .ok (.iconst 4, 1) := by decide +kernel
theorem dX5_step_96 : decode cX5_step 96 = .ok (.idiv, 1) := by decide +kernel
theorem dX5_step_97 : decode cX5_step 97 = .ok (.iaload, 1) := by decide +kernel
theorem dX5_step_98 : decode cX5_step 98 = .ok (.putfield 37, 3) := by decide +kernel
theorem dX5_step_101 : decode cX5_step 101 = .ok (.aload_n 0, 1) := by decide +kernel
theorem dX5_step_102 : decode cX5_step 102 = .ok (.invokevirtual 152, 3) := by decide +kernel
theorem dX5_step_105 : decode cX5_step 105 = .ok (.aload_n 0, 1) := by decide +kernel
theorem dX5_step_106 : decode cX5_step 106 = .ok (.dup, 1) := by decide +kernel
theorem dX5_step_107 : decode cX5_step 107 = .ok (.getfield 155, 3) := by decide +kernel
theorem dX5_step_110 : decode cX5_step 110 = .ok (.iconst 1, 1) := by decide +kernel
theorem dX5_step_111 : decode cX5_step 111 = .ok (.iadd, 1) := by decide +kernel
theorem dX5_step_112 : decode cX5_step 112 = .ok (.putfield 155, 3) := by decide +kernel
theorem dX5_step_115 : decode cX5_step 115 = .ok (.aload_n 0, 1) := by decide +kernel
theorem dX5_step_116 : decode cX5_step 116 = .ok (.getfield 45, 3) := by decide +kernel
theorem dX5_step_119 : decode cX5_step 119 = .ok (.ifCond .ne 22, 3) := by decide +kernel
theorem dX5_step_122 : decode cX5_step 122 = .ok (.aload_n 0, 1) := by decide +kernel
theorem dX5_step_123 : decode cX5_step 123 = .ok (.aload_n 0, 1) := by decide +kernel
theorem dX5_step_124 : decode cX5_step 124 = .ok (.getfield 58, 3) := by decide +kernel
theorem dX5_step_127 : decode cX5_step 127 = .ok (.putfield 27, 3) := by decide +kernel
theorem dX5_step_130 : decode cX5_step 130 = .ok (.aload_n 0, 1) := by decide +kernel
theorem dX5_step_131 : decode cX5_step 131 = .ok (.dup, 1) := by decide +kernel
theorem dX5_step_132 : decode cX5_step 132 = .ok (.getfield 106, 3) := by decide +kernel
theorem dX5_step_135 : decode cX5_step 135 = .ok (.iconst 1, 1) := by decide +kernel
theorem dX5_step_136 : decode cX5_step 136 = .ok (.iadd, 1) := by decide +kernel
theorem dX5_step_137 : decode cX5_step 137 = .ok (.putfield 106, 3) := by decide +kernel
theorem dX5_step_140 : decode cX5_step 140 = .ok (.return_, 1) := by decide +kernel
theorem dX5_step_141 : decode cX5_step 141 = .ok (.aload_n 0, 1) := by decide +kernel
theorem dX5_step_142 : decode cX5_step 142 = .ok (.dup, 1) := by decide +kernel
theorem dX5_step_143 : decode cX5_step 143 = .ok (.getfield 158, 3) := by decide +kernel
theorem dX5_step_146 : decode cX5_step 146 = .ok (.iconst 1, 1) := by decide +kernel
theorem dX5_step_147 : decode cX5_step 147 = .ok (.iadd, 1) := by decide +kernel
theorem dX5_step_148 : decode cX5_step 148 = .ok (.putfield 158, 3) := by decide +kernel
theorem dX5_step_151 : decode cX5_step 151 = .ok (.aload_n 0, 1) := by decide +kernel
theorem dX5_step_152 : decode cX5_step 152 = .ok (.getfield 16, 3) := by decide +kernel
theorem dX5_step_155 : decode cX5_step 155 = .ok (.iconst 4, 1) := by decide +kernel
theorem dX5_step_156 : decode cX5_step 156 = .ok (.aload_n 0, 1) := by decide +kernel
theorem dX5_step_157 : decode cX5_step 157 = .ok (.getfield 27, 3) := by decide +kernel
theorem dX5_step_160 : decode cX5_step 160 = .ok (.iastore, 1) := by decide +kernel
theorem dX5_step_161 : decode cX5_step 161 = .ok (.aload_n 0, 1) := by decide +kernel
theorem dX5_step_162 : decode cX5_step 162 = .ok (.getfield 16, 3) := by decide +kernel
theorem dX5_step_165 : decode cX5_step 165 = .ok (.iconst 5, 1) := by decide +kernel
theorem dX5_step_166 : decode cX5_step 166 = .ok (.aload_n 0, 1) := by decide +kernel
theorem dX5_step_167 : decode cX5_step 167 = .ok (.getfield 48, 3) := by decide +kernel
theorem dX5_step_170 : decode cX5_step 170 = .ok (.iastore, 1) := by decide +kernel
theorem dX5_step_171 : decode cX5_step 171 = .ok (.aload_n 0, 1) := by decide +kernel
theorem dX5_step_172 : decode cX5_step 172 = .ok (.getfield 16, 3) := by decide +kernel
theorem dX5_step_175 : decode cX5_step 175 = .ok (.bipush 6, 2) := by decide +kernel
theorem dX5_step_177 : decode cX5_step 177 = .ok (.aload_n 0, 1) := by decide +kernel
theorem dX5_step_178 : decode cX5_step 178 = .ok (.getfield 51, 3) := by decide +kernel
theorem dX5_step_181 : decode cX5_step 181 = .ok (.iastore, 1) := by decide +kernel
theorem dX5_step_182 : decode cX5_step 182 = .ok (.aload_n 0, 1) := by decide +kernel
theorem dX5_step_183 : decode cX5_step 183 = .ok (.getfield 16, 3) := by decide +kernel
theorem dX5_step_186 : decode cX5_step 186 = .ok (.iconst 0, 1) := by decide +kernel
theorem dX5_step_187 : decode cX5_step 187 = .ok (.aload_n 0, 1) := by decide +kernel
theorem dX5_step_188 : decode cX5_step 188 = .ok (.getfield 16, 3) := by decide +kernel
theorem dX5_step_191 : decode cX5_step 191 = .ok (.iconst 0, 1) := by decide +kernel
theorem dX5_step_192 : decode cX5_step 192 = .ok (.iaload, 1) := by decide +kernel
theorem dX5_step_193 : decode cX5_step 193 = .ok (.iconst 4, 1) := by decide +kernel
theorem dX5_step_194 : decode cX5_step 194 = .ok (.ishl, 1) := by decide +kernel
theorem dX5_step_195 : decode cX5_step 195 = .ok (.sipush 128, 3) := by decide +kernel
theorem dX5_step_198 : decode cX5_step 198 = .ok (.iand, 1) := by decide +kernel
theorem dX5_step_199 : decode cX5_step 199 = .ok (.iastore, 1) := by decide +kernel
theorem dX5_step_200 : decode cX5_step 200 = .ok (.aload_n 0, 1) := by decide +kernel
theorem dX5_step_201 : decode cX5_step 201 = .ok (.aload_n 0, 1) := by decide +kernel
theorem dX5_step_202 : decode cX5_step 202 = .ok (.getfield 16, 3) := by decide +kernel
theorem dX5_step_205 : decode cX5_step 205 = .ok (.iconst 2, 1) := by decide +kernel
theorem dX5_step_206 : decode cX5_step 206 = .ok (.iaload, 1) := by decide +kernel
theorem dX5_step_207 : decode cX5_step 207 = .ok (.ifCond .ne 7, 3) := by decide +kernel
theorem dX5_step_210 : decode cX5_step 210 = .ok (.iconst 1, 1) := by decide +kernel
theorem dX5_step_211 : decode cX5_step 211 = .ok (.goto 4, 3) := by decide +kernel
theorem dX5_step_214 : decode cX5_step 214 = .ok (.iconst 0, 1) := by decide +kernel
theorem dX5_step_215 : decode cX5_step 215 = .ok (.putfield 30, 3) := by decide +kernel
theorem dX5_step_218 : decode cX5_step 218 = .ok (.aload_n 0, 1) := by decide +kernel
theorem dX5_step_219 : decode cX5_step 219 = .ok (.getfield 30, 3) := by decide +kernel
theorem dX5_step_222 : decode cX5_step 222 = .ok (.ifCond .ne 13, 3) := by decide +kernel
theorem dX5_step_225 : decode cX5_step 225 = .ok (.aload_n 0, 1) := by decide +kernel
theorem dX5_step_226 : decode cX5_step 226 = .ok (.aload_n 0, 1) := by decide +kernel
theorem dX5_step_227 : decode cX5_step 227 = .ok (.getfield 16, 3) := by decide +kernel
theorem dX5_step_230 : decode cX5_step 230 = .ok (.iconst 2, 1) := by decide +kernel
theorem dX5_step_231 : decode cX5_step 231 = .ok (.iaload, 1) := by decide +kernel
theorem dX5_step_232 : decode cX5_step 232 = .ok (.putfield 27, 3) := by decide +kernel
theorem dX5_step_235 : decode cX5_step 235 = .ok (.return_, 1) := by decide +kernel
theorem dX5_trap_0 : decode cX5_trap 0 = .ok (.aload_n 0, 1) := by decide +kernel
theorem dX5_trap_1 : decode cX5_trap 1 = .ok (.getfield 45, 3) := by decide +kernel
theorem dX5_trap_4 : decode cX5_trap 4 = .ok (.ifCond .eq 4, 3) := by decide +kernel
theorem dX5_trap_7 : decode cX5_trap 7 = .ok (.return_, 1) := by decide +kernel
theorem dX5_trap_8 : decode cX5_trap 8 = .ok (.aload_n 0, 1) := by decide +kernel
theorem dX5_trap_9 : decode cX5_trap 9 = .ok (.iconst 1, 1) := by decide +kernel
theorem dX5_trap_10 : decode cX5_trap 10 = .ok (.putfield 45, 3) := by decide +kernel
theorem dX5_trap_13 : decode cX5_trap 13 = .ok (.aload_n 0, 1) := by decide +kernel
theorem dX5_trap_14 : decode cX5_trap 14 = .ok (.iload_n 1, 1) := by decide +kernel
theorem dX5_trap_15 : decode cX5_trap 15 = .ok (.putfield 48, 3) := by decide +kernel
theorem dX5_trap_18 : decode cX5_trap 18 = .ok (.aload_n 0, 1) := by decide +kernel
theorem dX5_trap_19 : decode cX5_trap 19 = .ok (.iload_n 2, 1) := by decide +kernel
theorem dX5_trap_20 : decode cX5_trap 20 = .ok (.putfield 51, 3) := by decide +kernel
theorem dX5_trap_23 : decode cX5_trap 23 = .ok (.return_, 1) := by decide +kernel
theorem dX5_instruct_0 : decode cX5_instruct 0 = .ok (.aload_n 0, 1) := by decide +kernel
theorem dX5_instruct_1 : decode cX5_instruct 1 = .ok (.aload_n 0, 1) := by decide +kernel
theorem dX5_instruct_2 : decode cX5_instruct 2 = .ok (.getfield 27, 3) := by decide +kernel
theorem dX5_instruct_5 : decode cX5_instruct 5 = .ok (.iconst 4, 1) := by decide +kernel
theorem dX5_instruct_6 : decode cX5_instruct 6 = .ok (.iadd, 1) := by decide +kernel
theorem dX5_instruct_7 : decode cX5_instruct 7 = .ok (.putfield 58, 3) := by decide +kernel
theorem dX5_instruct_10 : decode cX5_instruct 10 = .ok (.aload_n 0, 1) := by decide +kernel
theorem dX5_instruct_11 : decode cX5_instruct 11 = .ok (.iconst 0, 1) := by decide +kernel
theorem dX5_instruct_12 : decode cX5_instruct 12 = .ok (.bipush 7, 2) := by decide +kernel
theorem dX5_instruct_14 : decode cX5_instruct 14 = .ok (.invokevirtual 40, 3) := by decide +kernel
theorem dX5_instruct_17 : decode cX5_instruct 17 = .ok (.lookupswitch 201 #[(3, 175), (15, 195), (19, 185), (23, 108), (35, 180), (51, 190), (55, 99), (99, 170), (103, 136), (111, 122), (115, 196)], 99) := by decide +kernel
theorem dX5_instruct_116 : decode cX5_instruct 116 = .ok (.aload_n 0, 1) := by decide +kernel
theorem dX5_instruct_117 : decode cX5_instruct 117 = .ok (.aload_n 0, 1) := by decide +kernel
theorem dX5_instruct_118 : decode cX5_instruct 118 = .ok (.invokevirtual 124, 3) := by decide +kernel
theorem dX5_instruct_121 : decode cX5_instruct 121 = .ok (.invokevirtual 64, 3) := by decide +kernel
theorem dX5_instruct_124 : decode cX5_instruct 124 = .ok (.return_, 1) := by decide +kernel
theorem dX5_instruct_125 : decode cX5_instruct 125 = .ok (.aload_n 0, 1) := by decide +kernel
theorem dX5_instruct_126 : decode cX5_instruct 126 = .ok (.aload_n 0, 1) := by decide +kernel
theorem dX5_instruct_127 : decode cX5_instruct 127 = .ok (.getfield 27, 3) := by decide +kernel
theorem dX5_instruct_130 : decode cX5_instruct 130 = .ok (.aload_n 0, 1) := by decide +kernel
theorem dX5_instruct_131 : decode cX5_instruct 131 = .ok (.invokevirtual 124, 3) := by decide +kernel
theorem dX5_instruct_134 : decode cX5_instruct 134 = .ok (.iadd, 1) := by decide +kernel
theorem dX5_instruct_135 : decode cX5_instruct 135 = .ok (.invokevirtual 64, 3) := by decide +kernel
theorem dX5_instruct_138 : decode cX5_instruct 138 = .ok (.return_, 1) := by decide +kernel
theorem dX5_instruct_139 : decode cX5_instruct 139 = .ok (.aload_n 0, 1) := by decide +kernel
theorem dX5_instruct_140 : decode cX5_instruct 140 = .ok (.aload_n 0, 1) := by decide +kernel
theorem dX5_instruct_141 : decode cX5_instruct 141 = .ok (.getfield 27, 3) := by decide +kernel
theorem dX5_instruct_144 : decode cX5_instruct 144 = .ok (.aload_n 0, 1) := by decide +kernel
theorem dX5_instruct_145 : decode cX5_instruct 145 = .ok (.invokevirtual 127, 3) := by decide +kernel
theorem dX5_instruct_148 : decode cX5_instruct 148 = .ok (.iadd, 1) := by decide +kernel
theorem dX5_instruct_149 : decode cX5_instruct 149 = .ok (.invokevirtual 130, 3) := by decide +kernel
theorem dX5_instruct_152 : decode cX5_instruct 152 = .ok (.return_, 1) := by decide +kernel
theorem dX5_instruct_153 : decode cX5_instruct 153 = .ok (.aload_n 0, 1) := by decide +kernel
theorem dX5_instruct_154 : decode cX5_instruct 154 = .ok (.bipush 12, 2) := by decide +kernel
theorem dX5_instruct_156 : decode cX5_instruct 156 = .ok (.iconst 3, 1) := by decide +kernel
theorem dX5_instruct_157 : decode cX5_instruct 157 = .ok (.invokevirtual 40, 3) := by decide +kernel
theorem dX5_instruct_160 : decode cX5_instruct 160 = .ok (.ifCond .eq 10, 3) := by decide +kernel
theorem dX5_instruct_163 : decode cX5_instruct 163 = .ok (.aload_n 0, 1) := by decide +kernel
theorem dX5_instruct_164 : decode cX5_instruct 164 = .ok (.invokevirtual 79, 3) := by decide +kernel
theorem dX5_instruct_167 : decode cX5_instruct 167 = .ok (.goto 19, 3) := by decide +kernel
theorem dX5_instruct_170 : decode cX5_instruct 170 = .ok (.aload_n 0, 1) := by decide +kernel
theorem dX5_instruct_171 : decode cX5_instruct 171 = .ok (.aload_n 0, 1) := by decide +kernel
theorem dX5_instruct_172 : decode cX5_instruct 172 = .ok (.invokevirtual 68, 3) := by decide +kernel
theorem dX5_instruct_175 : decode cX5_instruct 175 = .ok (.aload_n 0, 1) := by decide +kernel
theorem dX5_instruct_176 : decode cX5_instruct 176 = .ok (.invokevirtual 85, 3) := by decide +kernel
theorem dX5_instruct_179 : decode cX5_instruct 179 = .ok (.iadd, 1) := by decide +kernel
theorem dX5_instruct_180 : decode cX5_instruct 180 = .ok (.bipush (-2), 2) := by decide +kernel
theorem dX5_instruct_182 : decode cX5_instruct 182 = .ok (.iand, 1) := by decide +kernel
theorem dX5_instruct_183 : decode cX5_instruct 183 = .ok (.invokevirtual 130, 3) := by decide +kernel
theorem dX5_instruct_186 : decode cX5_instruct 186 = .ok (.return_, 1) := by decide +kernel
theorem dX5_instruct_187 : decode cX5_instruct 187 = .ok (.aload_n 0, 1) := by decide +kernel
theorem dX5_instruct_188 : decode cX5_instruct 188 = .ok (.invokevirtual 133, 3) := by decide +kernel
theorem dX5_instruct_191 : decode cX5_instruct 191 = .ok (.return_, 1) := by decide +kernel
theorem dX5_instruct_192 : decode cX5_instruct 192 = .ok (.aload_n 0, 1) := by decide +kernel
theorem dX5_instruct_193 : decode cX5_instruct 193 = .ok (.invokevirtual 136, 3) := by decide +kernel
theorem dX5_instruct_196 : decode cX5_instruct 196 = .ok (.return_, 1) := by decide +kernel
theorem dX5_instruct_197 : decode cX5_instruct 197 = .ok (.aload_n 0, 1) := by decide +kernel
theorem dX5_instruct_198 : decode cX5_instruct 198 = .ok (.invokevirtual 139, 3) := by decide +kernel
theorem dX5_instruct_201 : decode cX5_instruct 201 = .ok (.return_, 1) := by decide +kernel
theorem dX5_instruct_202 : decode cX5_instruct 202 = .ok (.aload_n 0, 1) := by decide +kernel
theorem dX5_instruct_203 : decode cX5_instruct 203 = .ok (.invokevirtual 142, 3) := by decide +kernel
theorem dX5_instruct_206 : decode cX5_instruct 206 = .ok (.return_, 1) := by decide +kernel
theorem dX5_instruct_207 : decode cX5_instruct 207 = .ok (.aload_n 0, 1) := by decide +kernel
theorem dX5_instruct_208 : decode cX5_instruct 208 = .ok (.invokevirtual 145, 3) := by decide +kernel
theorem dX5_instruct_211 : decode cX5_instruct 211 = .ok (.return_, 1) := by decide +kernel
theorem dX5_instruct_212 : decode cX5_instruct 212 = .ok (.return_, 1) := by decide +kernel
theorem dX5_instruct_213 : decode cX5_instruct 213 = .ok (.aload_n 0, 1) := by decide +kernel
theorem dX5_instruct_214 : decode cX5_instruct 214 = .ok (.invokevirtual 148, 3) := by decide +kernel
theorem dX5_instruct_217 : decode cX5_instruct 217 = .ok (.return_, 1) := by decide +kernel
theorem dX5_instruct_218 : decode cX5_instruct 218 = .ok (.aload_n 0, 1) := by decide +kernel
theorem dX5_instruct_219 : decode cX5_instruct 219 = .ok (.invokevirtual 79, 3) := by decide +kernel
theorem dX5_instruct_222 : decode cX5_instruct 222 = .ok (.return_, 1) := by decide +kernel
theorem dX5_bits_0 : decode cX5_bits 0 = .ok (.aload_n 0, 1) := by decide +kernel
theorem dX5_bits_1 : decode cX5_bits 1 = .ok (.getfield 37, 3) := by decide +kernel
theorem dX5_bits_4 : decode cX5_bits 4 = .ok (.iload_n 1, 1) := by decide +kernel
theorem dX5_bits_5 : decode cX5_bits 5 = .ok (.iushr, 1) := by decide +kernel
theorem dX5_bits_6 : decode cX5_bits 6 = .ok (.iconst 1, 1) := by decide +kernel
theorem dX5_bits_7 : decode cX5_bits 7 = .ok (.iload_n 2, 1) := by decide +kernel
theorem dX5_bits_8 : decode cX5_bits 8 = .ok (.ishl, 1) := by decide +kernel
theorem dX5_bits_9 : decode cX5_bits 9 = .ok (.iconst 1, 1) := by decide +kernel
theorem dX5_bits_10 : decode cX5_bits 10 = .ok (.isub, 1) := by decide +kernel
theorem dX5_bits_11 : decode cX5_bits 11 = .ok (.iand, 1) := by decide +kernel
theorem dX5_bits_12 : decode cX5_bits 12 = .ok (.ireturn, 1) := by decide +kernel
theorem dX5_numberU_0 : decode cX5_numberU 0 = .ok (.aload_n 0, 1) := by decide +kernel
theorem dX5_numberU_1 : decode cX5_numberU 1 = .ok (.getfield 37, 3) := by decide +kernel
theorem dX5_numberU_4 : decode cX5_numberU 4 = .ok (.sipush (-4096), 3) := by decide +kernel
theorem dX5_numberU_7 : decode cX5_numberU 7 = .ok (.iand, 1) := by decide +kernel
theorem dX5_numberU_8 : decode cX5_numberU 8 = .ok (.ireturn, 1) := by decide +kernel
theorem dX5_lay_0 : decode cX5_lay 0 = .ok (.aload_n 0, 1) := by decide +kernel
theorem dX5_lay_1 : decode cX5_lay 1 = .ok (.bipush 7, 2) := by decide +kernel
theorem dX5_lay_3 : decode cX5_lay 3 = .ok (.iconst 5, 1) := by decide +kernel
theorem dX5_lay_4 : decode cX5_lay 4 = .ok (.invokevirtual 40, 3) := by decide +kernel
theorem dX5_lay_7 : decode cX5_lay 7 = .ok (.istore_n 2, 1) := by decide +kernel
theorem dX5_lay_8 : decode cX5_lay 8 = .ok (.iload_n 2, 1) := by decide +kernel
theorem dX5_lay_9 : decode cX5_lay 9 = .ok (.ifCond .le 10, 3) := by decide +kernel
theorem dX5_lay_12 : decode cX5_lay 12 = .ok (.aload_n 0, 1) := by decide +kernel
theorem dX5_lay_13 : decode cX5_lay 13 = .ok (.getfield 13, 3) := by decide +kernel
