theorem dX5_withRegister_57 : decode cX5_withRegister 57 = .ok (.iload_n 2, 1) := by decide +kernel
theorem dX5_withRegister_58 : decode cX5_withRegister 58 = .ok (.isub, 1) := by decide +kernel
theorem dX5_withRegister_59 : decode cX5_withRegister 59 = .ok (.invokevirtual 64, 3) := by decide +kernel
theorem dX5_withRegister_62 : decode cX5_withRegister 62 = .ok (.goto 169, 3) := by decide +kernel
theorem dX5_withRegister_65 : decode cX5_withRegister 65 = .ok (.iload_n 3, 1) := by decide +kernel
theorem dX5_withRegister_66 : decode cX5_withRegister 66 = .ok (.iconst 5, 1) := by decide +kernel
theorem dX5_withRegister_67 : decode cX5_withRegister 67 = .ok (.if_icmp .ne 16, 3) := by decide +kernel
theorem dX5_withRegister_70 : decode cX5_withRegister 70 = .ok (.aload_n 0, 1) := by decide +kernel
theorem dX5_withRegister_71 : decode cX5_withRegister 71 = .ok (.iload_n 1, 1) := by decide +kernel
theorem dX5_withRegister_72 : decode cX5_withRegister 72 = .ok (.iload_n 2, 1) := by decide +kernel
theorem dX5_withRegister_73 : decode cX5_withRegister 73 = .ok (.bipush 31, 2) := by decide +kernel
theorem dX5_withRegister_75 : decode cX5_withRegister 75 = .ok (.iand, 1) := by decide +kernel
theorem dX5_withRegister_76 : decode cX5_withRegister 76 = .ok (.ishr, 1) := by decide +kernel
theorem dX5_withRegister_77 : decode cX5_withRegister 77 = .ok (.invokevirtual 64, 3) := by decide +kernel
theorem dX5_withRegister_80 : decode cX5_withRegister 80 = .ok (.goto 151, 3) := by decide +kernel
theorem dX5_withRegister_83 : decode cX5_withRegister 83 = .ok (.aload_n 0, 1) := by decide +kernel
theorem dX5_withRegister_84 : decode cX5_withRegister 84 = .ok (.invokevirtual 79, 3) := by decide +kernel
theorem dX5_withRegister_87 : decode cX5_withRegister 87 = .ok (.goto 144, 3) := by decide +kernel
theorem dX5_withRegister_90 : decode cX5_withRegister 90 = .ok (.iload 4, 2) := by decide +kernel
theorem dX5_withRegister_92 : decode cX5_withRegister 92 = .ok (.ifCond .eq 10, 3) := by decide +kernel
theorem dX5_withRegister_95 : decode cX5_withRegister 95 = .ok (.aload_n 0, 1) := by decide +kernel
theorem dX5_withRegister_96 : decode cX5_withRegister 96 = .ok (.invokevirtual 79, 3) := by decide +kernel
theorem dX5_withRegister_99 : decode cX5_withRegister 99 = .ok (.goto 132, 3) := by decide +kernel
theorem dX5_withRegister_102 : decode cX5_withRegister 102 = .ok (.iload_n 3, 1) := by decide +kernel
theorem dX5_withRegister_103 : decode cX5_withRegister 103 = .ok (.tableswitch 120 0 6 #[41, 49, 60, 75, 93, 101, 112], 41) := by decide +kernel
theorem dX5_withRegister_144 : decode cX5_withRegister 144 = .ok (.aload_n 0, 1) := by decide +kernel
theorem dX5_withRegister_145 : decode cX5_withRegister 145 = .ok (.iload_n 1, 1) := by decide +kernel
theorem dX5_withRegister_146 : decode cX5_withRegister 146 = .ok (.iload_n 2, 1) := by decide +kernel
theorem dX5_withRegister_147 : decode cX5_withRegister 147 = .ok (.iadd, 1) := by decide +kernel
theorem dX5_withRegister_148 : decode cX5_withRegister 148 = .ok (.invokevirtual 64, 3) := by decide +kernel
theorem dX5_withRegister_151 : decode cX5_withRegister 151 = .ok (.return_, 1) := by decide +kernel
theorem dX5_withRegister_152 : decode cX5_withRegister 152 = .ok (.aload_n 0, 1) := by decide +kernel
theorem dX5_withRegister_153 : decode cX5_withRegister 153 = .ok (.iload_n 1, 1) := by decide +kernel
theorem dX5_withRegister_154 : decode cX5_withRegister 154 = .ok (.iload_n 2, 1) := by decide +kernel
theorem dX5_withRegister_155 : decode cX5_withRegister 155 = .ok (.bipush 31, 2) := by decide +kernel
theorem dX5_withRegister_157 : decode cX5_withRegister 157 = .ok (.iand, 1) := by decide +kernel
theorem dX5_withRegister_158 : decode cX5_withRegister 158 = .ok (.ishl, 1) := by decide +kernel
theorem dX5_withRegister_159 : decode cX5_withRegister 159 = .ok (.invokevirtual 64, 3) := by decide +kernel
theorem dX5_withRegister_162 : decode cX5_withRegister 162 = .ok (.return_, 1) := by decide +kernel
theorem dX5_withRegister_163 : decode cX5_withRegister 163 = .ok (.aload_n 0, 1) := by decide +kernel
theorem dX5_withRegister_164 : decode cX5_withRegister 164 = .ok (.iload_n 1, 1) := by decide +kernel
theorem dX5_withRegister_165 : decode cX5_withRegister 165 = .ok (.iload_n 2, 1) := by decide +kernel
theorem dX5_withRegister_166 : decode cX5_withRegister 166 = .ok (.if_icmp .ge 7, 3) := by decide +kernel
theorem dX5_withRegister_169 : decode cX5_withRegister 169 = .ok (.iconst 1, 1) := by decide +kernel
theorem dX5_withRegister_170 : decode cX5_withRegister 170 = .ok (.goto 4, 3) := by decide +kernel
theorem dX5_withRegister_173 : decode cX5_withRegister 173 = .ok (.iconst 0, 1) := by decide +kernel
theorem dX5_withRegister_174 : decode cX5_withRegister 174 = .ok (.invokevirtual 64, 3) := by decide +kernel
theorem dX5_withRegister_177 : decode cX5_withRegister 177 = .ok (.return_, 1) := by decide +kernel
theorem dX5_withRegister_178 : decode cX5_withRegister 178 = .ok (.aload_n 0, 1) := by decide +kernel
theorem dX5_withRegister_179 : decode cX5_withRegister 179 = .ok (.iload_n 1, 1) := by decide +kernel
theorem dX5_withRegister_180 : decode cX5_withRegister 180 = .ok (.iload_n 2, 1) := by decide +kernel
theorem dX5_withRegister_181 : decode cX5_withRegister 181 = .ok (.invokestatic 75, 3) := by decide +kernel
theorem dX5_withRegister_184 : decode cX5_withRegister 184 = .ok (.ifCond .eq 7, 3) := by decide +kernel
theorem dX5_withRegister_187 : decode cX5_withRegister 187 = .ok (.iconst 1, 1) := by decide +kernel
theorem dX5_withRegister_188 : decode cX5_withRegister 188 = .ok (.goto 4, 3) := by decide +kernel
theorem dX5_withRegister_191 : decode cX5_withRegister 191 = .ok (.iconst 0, 1) := by decide +kernel
theorem dX5_withRegister_192 : decode cX5_withRegister 192 = .ok (.invokevirtual 64, 3) := by decide +kernel
theorem dX5_withRegister_195 : decode cX5_withRegister 195 = .ok (.return_, 1) := by decide +kernel
theorem dX5_withRegister_196 : decode cX5_withRegister 196 = .ok (.aload_n 0, 1) := by decide +kernel
theorem dX5_withRegister_197 : decode cX5_withRegister 197 = .ok (.iload_n 1, 1) := by decide +kernel
theorem dX5_withRegister_198 : decode cX5_withRegister 198 = .ok (.iload_n 2, 1) := by decide +kernel
theorem dX5_withRegister_199 : decode cX5_withRegister 199 = .ok (.ixor, 1) := by decide +kernel
theorem dX5_withRegister_200 : decode cX5_withRegister 200 = .ok (.invokevirtual 64, 3) := by decide +kernel
theorem dX5_withRegister_203 : decode cX5_withRegister 203 = .ok (.return_, 1) := by decide +kernel
theorem dX5_withRegister_204 : decode cX5_withRegister 204 = .ok (.aload_n 0, 1) := by decide +kernel
theorem dX5_withRegister_205 : decode cX5_withRegister 205 = .ok (.iload_n 1, 1) := by decide +kernel
theorem dX5_withRegister_206 : decode cX5_withRegister 206 = .ok (.iload_n 2, 1) := by decide +kernel
theorem dX5_withRegister_207 : decode cX5_withRegister 207 = .ok (.bipush 31, 2) := by decide +kernel
theorem dX5_withRegister_209 : decode cX5_withRegister 209 = .ok (.iand, 1) := by decide +kernel
theorem dX5_withRegister_210 : decode cX5_withRegister 210 = .ok (.iushr, 1) := by decide +kernel
theorem dX5_withRegister_211 : decode cX5_withRegister 211 = .ok (.invokevirtual 64, 3) := by decide +kernel
theorem dX5_withRegister_214 : decode cX5_withRegister 214 = .ok (.return_, 1) := by decide +kernel
theorem dX5_withRegister_215 : decode cX5_withRegister 215 = .ok (.aload_n 0, 1) := by decide +kernel
theorem dX5_withRegister_216 : decode cX5_withRegister 216 = .ok (.iload_n 1, 1) := by decide +kernel
theorem dX5_withRegister_217 : decode cX5_withRegister 217 = .ok (.iload_n 2, 1) := by decide +kernel
theorem dX5_withRegister_218 : decode cX5_withRegister 218 = .ok (.ior, 1) := by decide +kernel
theorem dX5_withRegister_219 : decode cX5_withRegister 219 = .ok (.invokevirtual 64, 3) := by decide +kernel
theorem dX5_withRegister_222 : decode cX5_withRegister 222 = .ok (.return_, 1) := by decide +kernel
theorem dX5_withRegister_223 : decode cX5_withRegister 223 = .ok (.aload_n 0, 1) := by decide +kernel
theorem dX5_withRegister_224 : decode cX5_withRegister 224 = .ok (.iload_n 1, 1) := by decide +kernel
theorem dX5_withRegister_225 : decode cX5_withRegister 225 = .ok (.iload_n 2, 1) := by decide +kernel
theorem dX5_withRegister_226 : decode cX5_withRegister 226 = .ok (.iand, 1) := by decide +kernel
theorem dX5_withRegister_227 : decode cX5_withRegister 227 = .ok (.invokevirtual 64, 3) := by decide +kernel
theorem dX5_withRegister_230 : decode cX5_withRegister 230 = .ok (.return_, 1) := by decide +kernel
theorem dX5_withRegister_231 : decode cX5_withRegister 231 = .ok (.return_, 1) := by decide +kernel
theorem dX5_product_0 : decode cX5_product 0 = .ok (.iload_n 1, 1) := by decide +kernel
theorem dX5_product_1 : decode cX5_product 1 = .ok (.tableswitch 180 0 6 #[43, 51, 81, 101, 111, 137, 155], 43) := by decide +kernel
theorem dX5_product_44 : decode cX5_product 44 = .ok (.aload_n 0, 1) := by decide +kernel
theorem dX5_product_45 : decode cX5_product 45 = .ok (.iload_n 2, 1) := by decide +kernel
theorem dX5_product_46 : decode cX5_product 46 = .ok (.iload_n 3, 1) := by decide +kernel
theorem dX5_product_47 : decode cX5_product 47 = .ok (.imul, 1) := by decide +kernel
theorem dX5_product_48 : decode cX5_product 48 = .ok (.invokevirtual 64, 3) := by decide +kernel
theorem dX5_product_51 : decode cX5_product 51 = .ok (.return_, 1) := by decide +kernel
theorem dX5_product_52 : decode cX5_product 52 = .ok (.aload_n 0, 1) := by decide +kernel
theorem dX5_product_53 : decode cX5_product 53 = .ok (.iload_n 2, 1) := by decide +kernel
theorem dX5_product_54 : decode cX5_product 54 = .ok (.iload_n 3, 1) := by decide +kernel
theorem dX5_product_55 : decode cX5_product 55 = .ok (.invokestatic 100, 3) := by decide +kernel
theorem dX5_product_58 : decode cX5_product 58 = .ok (.iload_n 2, 1) := by decide +kernel
theorem dX5_product_59 : decode cX5_product 59 = .ok (.ifCond .ge 7, 3) := by decide +kernel
theorem dX5_product_62 : decode cX5_product 62 = .ok (.iload_n 3, 1) := by decide +kernel
theorem dX5_product_63 : decode cX5_product 63 = .ok (.goto 4, 3) := by decide +kernel
theorem dX5_product_66 : decode cX5_product 66 = .ok (.iconst 0, 1) := by decide +kernel
theorem dX5_product_67 : decode cX5_product 67 = .ok (.isub, 1) := by decide +kernel
theorem dX5_product_68 : decode cX5_product 68 = .ok (.iload_n 3, 1) := by decide +kernel
theorem dX5_product_69 : decode cX5_product 69 = .ok (.ifCond .ge 7, 3) := by decide +kernel
theorem dX5_product_72 : decode cX5_product 72 = .ok (.iload_n 2, 1) := by decide +kernel
theorem dX5_product_73 : decode cX5_product 73 = .ok (.goto 4, 3) := by decide +kernel
theorem dX5_product_76 : decode cX5_product 76 = .ok (.iconst 0, 1) := by decide +kernel
theorem dX5_product_77 : decode cX5_product 77 = .ok (.isub, 1) := by decide +kernel
theorem dX5_product_78 : decode cX5_product 78 = .ok (.invokevirtual 64, 3) := by decide +kernel
theorem dX5_product_81 : decode cX5_product 81 = .ok (.return_, 1) := by decide +kernel
theorem dX5_product_82 : decode cX5_product 82 = .ok (.aload_n 0, 1) := by decide +kernel
theorem dX5_product_83 : decode cX5_product 83 = .ok (.iload_n 2, 1) := by decide +kernel
theorem dX5_product_84 : decode cX5_product 84 = .ok (.iload_n 3, 1) := by decide +kernel
theorem dX5_product_85 : decode cX5_product 85 = .ok (.invokestatic 100, 3) := by decide +kernel
theorem dX5_product_88 : decode cX5_product 88 = .ok (.iload_n 2, 1) := by decide +kernel
theorem dX5_product_89 : decode cX5_product 89 = .ok (.ifCond .ge 7, 3) := by decide +kernel
theorem dX5_product_92 : decode cX5_product 92 = .ok (.iload_n 3, 1) := by decide +kernel
theorem dX5_product_93 : decode cX5_product 93 = .ok (.goto 4, 3) := by decide +kernel
theorem dX5_product_96 : decode cX5_product 96 = .ok (.iconst 0, 1) := by decide +kernel
theorem dX5_product_97 : decode cX5_product 97 = .ok (.isub, 1) := by decide +kernel
theorem dX5_product_98 : decode cX5_product 98 = .ok (.invokevirtual 64, 3) := by decide +kernel
theorem dX5_product_101 : decode cX5_product 101 = .ok (.return_, 1) := by decide +kernel
theorem dX5_product_102 : decode cX5_product 102 = .ok (.aload_n 0, 1) := by decide +kernel
theorem dX5_product_103 : decode cX5_product 103 = .ok (.iload_n 2, 1) := by decide +kernel
theorem dX5_product_104 : decode cX5_product 104 = .ok (.iload_n 3, 1) := by decide +kernel
theorem dX5_product_105 : decode cX5_product 105 = .ok (.invokestatic 100, 3) := by decide +kernel
theorem dX5_product_108 : decode cX5_product 108 = .ok (.invokevirtual 64, 3) := by decide +kernel
theorem dX5_product_111 : decode cX5_product 111 = .ok (.return_, 1) := by decide +kernel
theorem dX5_product_112 : decode cX5_product 112 = .ok (.aload_n 0, 1) := by decide +kernel
theorem dX5_product_113 : decode cX5_product 113 = .ok (.iload_n 3, 1) := by decide +kernel
theorem dX5_product_114 : decode cX5_product 114 = .ok (.ifCond .ne 7, 3) := by decide +kernel
theorem dX5_product_117 : decode cX5_product 117 = .ok (.iconst (-1), 1) := by decide +kernel
theorem dX5_product_118 : decode cX5_product 118 = .ok (.goto 16, 3) := by decide +kernel
theorem dX5_product_121 : decode cX5_product 121 = .ok (.iload_n 3, 1) := by decide +kernel
theorem dX5_product_122 : decode cX5_product 122 = .ok (.iconst (-1), 1) := by decide +kernel
theorem dX5_product_123 : decode cX5_product 123 = .ok (.if_icmp .ne 8, 3) := by decide +kernel
theorem dX5_product_126 : decode cX5_product 126 = .ok (.iload_n 2, 1) := by decide +kernel
theorem dX5_product_127 : decode cX5_product 127 = .ok (.ineg, 1) := by decide +kernel
theorem dX5_product_128 : decode cX5_product 128 = .ok (.goto 6, 3) := by decide +kernel
theorem dX5_product_131 : decode cX5_product 131 = .ok (.iload_n 2, 1) := by decide +kernel
theorem dX5_product_132 : decode cX5_product 132 = .ok (.iload_n 3, 1) := by decide +kernel
theorem dX5_product_133 : decode cX5_product 133 = .ok (.idiv, 1) := by decide +kernel
theorem dX5_product_134 : decode cX5_product 134 = .ok (.invokevirtual 64, 3) := by decide +kernel
theorem dX5_product_137 : decode cX5_product 137 = .ok (.return_, 1) := by decide +kernel
theorem dX5_product_138 : decode cX5_product 138 = .ok (.aload_n 0, 1) := by decide +kernel
theorem dX5_product_139 : decode cX5_product 139 = .ok (.iload_n 3, 1) := by decide +kernel
theorem dX5_product_140 : decode cX5_product 140 = .ok (.ifCond .ne 7, 3) := by decide +kernel
theorem dX5_product_143 : decode cX5_product 143 = .ok (.iconst (-1), 1) := by decide +kernel
theorem dX5_product_144 : decode cX5_product 144 = .ok (.goto 8, 3) := by decide +kernel
theorem dX5_product_147 : decode cX5_product 147 = .ok (.iload_n 2, 1) := by decide +kernel
theorem dX5_product_148 : decode cX5_product 148 = .ok (.iload_n 3, 1) := by decide +kernel
theorem dX5_product_149 : decode cX5_product 149 = .ok (.invokestatic 103, 3) := by decide +kernel
theorem dX5_product_152 : decode cX5_product 152 = .ok (.invokevirtual 64, 3) := by decide +kernel
theorem dX5_product_155 : decode cX5_product 155 = .ok (.return_, 1) := by decide +kernel
theorem dX5_product_156 : decode cX5_product 156 = .ok (.aload_n 0, 1) := by decide +kernel
theorem dX5_product_157 : decode cX5_product 157 = .ok (.iload_n 3, 1) := by decide +kernel
theorem dX5_product_158 : decode cX5_product 158 = .ok (.ifCond .ne 7, 3) := by decide +kernel
theorem dX5_product_161 : decode cX5_product 161 = .ok (.iload_n 2, 1) := by decide +kernel
theorem dX5_product_162 : decode cX5_product 162 = .ok (.goto 15, 3) := by decide +kernel
theorem dX5_product_165 : decode cX5_product 165 = .ok (.iload_n 3, 1) := by decide +kernel
theorem dX5_product_166 : decode cX5_product 166 = .ok (.iconst (-1), 1) := by decide +kernel
theorem dX5_product_167 : decode cX5_product 167 = .ok (.if_icmp .ne 7, 3) := by decide +kernel
theorem dX5_product_170 : decode cX5_product 170 = .ok (.iconst 0, 1) := by decide +kernel
theorem dX5_product_171 : decode cX5_product 171 = .ok (.goto 6, 3) := by decide +kernel
theorem dX5_product_174 : decode cX5_product 174 = .ok (.iload_n 2, 1) := by decide +kernel
theorem dX5_product_175 : decode cX5_product 175 = .ok (.iload_n 3, 1) := by decide +kernel
theorem dX5_product_176 : decode cX5_product 176 = .ok (.irem, 1) := by decide +kernel
theorem dX5_product_177 : decode cX5_product 177 = .ok (.invokevirtual 64, 3) := by decide +kernel
theorem dX5_product_180 : decode cX5_product 180 = .ok (.return_, 1) := by decide +kernel
theorem dX5_product_181 : decode cX5_product 181 = .ok (.aload_n 0, 1) := by decide +kernel
theorem dX5_product_182 : decode cX5_product 182 = .ok (.iload_n 3, 1) := by decide +kernel
theorem dX5_product_183 : decode cX5_product 183 = .ok (.ifCond .ne 7, 3) := by decide +kernel
theorem dX5_product_186 : decode cX5_product 186 = .ok (.iload_n 2, 1) := by decide +kernel
theorem dX5_product_187 : decode cX5_product 187 = .ok (.goto 12, 3) := by decide +kernel
theorem dX5_product_190 : decode cX5_product 190 = .ok (.iload_n 2, 1) := by decide +kernel
theorem dX5_product_191 : decode cX5_product 191 = .ok (.iload_n 2, 1) := by decide +kernel
theorem dX5_product_192 : decode cX5_product 192 = .ok (.iload_n 3, 1) := by decide +kernel
theorem dX5_product_193 : decode cX5_product 193 = .ok (.invokestatic 103, 3) := by decide +kernel
theorem dX5_product_196 : decode cX5_product 196 = .ok (.iload_n 3, 1) := by decide +kernel
theorem dX5_product_197 : decode cX5_product 197 = .ok (.imul, 1) := by decide +kernel
theorem dX5_product_198 : decode cX5_product 198 = .ok (.isub, 1) := by decide +kernel
theorem dX5_product_199 : decode cX5_product 199 = .ok (.invokevirtual 64, 3) := by decide +kernel
theorem dX5_product_202 : decode cX5_product 202 = .ok (.return_, 1) := by decide +kernel
theorem dX5_upper_0 : decode cX5_upper 0 = .ok (.iload_n 0, 1) := by decide +kernel
theorem dX5_upper_1 : decode cX5_upper 1 = .ok (.ldc 92, 2) := by decide +kernel
theorem dX5_upper_3 : decode cX5_upper 3 = .ok (.iand, 1) := by decide +kernel
theorem dX5_upper_4 : decode cX5_upper 4 = .ok (.istore_n 2, 1) := by decide +kernel
theorem dX5_upper_5 : decode cX5_upper 5 = .ok (.iload_n 0, 1) := by decide +kernel
theorem dX5_upper_6 : decode cX5_upper 6 = .ok (.bipush 16, 2) := by decide +kernel
theorem dX5_upper_8 : decode cX5_upper 8 = .ok (.iushr, 1) := by decide +kernel
theorem dX5_upper_9 : decode cX5_upper 9 = .ok (.istore_n 3, 1) := by decide +kernel
theorem dX5_upper_10 : decode cX5_upper 10 = .ok (.iload_n 1, 1) := by decide +kernel
theorem dX5_upper_11 : decode cX5_upper 11 = .ok (.ldc 92, 2) := by decide +kernel
theorem dX5_upper_13 : decode cX5_upper 13 = .ok (.iand, 1) := by decide +kernel
theorem dX5_upper_14 : decode cX5_upper 14 = .ok (.istore 4, 2) := by decide +kernel
theorem dX5_upper_16 : decode cX5_upper 16 = .ok (.iload_n 1, 1) := by decide +kernel
theorem dX5_upper_17 : decode cX5_upper 17 = .ok (.bipush 16, 2) := by decide +kernel
theorem dX5_upper_19 : decode cX5_upper 19 = .ok (.iushr, 1) := by decide +kernel
theorem dX5_upper_20 : decode cX5_upper 20 = .ok (.istore 5, 2) := by decide +kernel
theorem dX5_upper_22 : decode cX5_upper 22 = .ok (.iload_n 2, 1) := by decide +kernel
theorem dX5_upper_23 : decode cX5_upper 23 = .ok (.iload 4, 2) := by decide +kernel
theorem dX5_upper_25 : decode cX5_upper 25 = .ok (.imul, 1) := by decide +kernel
theorem dX5_upper_26 : decode cX5_upper 26 = .ok (.bipush 16, 2) := by decide +kernel
theorem dX5_upper_28 : decode cX5_upper 28 = .ok (.iushr, 1) := by decide +kernel
theorem dX5_upper_29 : decode cX5_upper 29 = .ok (.istore 6, 2) := by decide +kernel
theorem dX5_upper_31 : decode cX5_upper 31 = .ok (.iload_n 3, 1) := by decide +kernel
theorem dX5_upper_32 : decode cX5_upper 32 = .ok (.iload 4, 2) := by decide +kernel
theorem dX5_upper_34 : decode cX5_upper 34 = .ok (.imul, 1) := by decide +kernel
theorem dX5_upper_35 : decode cX5_upper 35 = .ok (.istore 7, 2) := by decide +kernel
theorem dX5_upper_37 : decode cX5_upper 37 = .ok (.iload_n 2, 1) := by decide +kernel
theorem dX5_upper_38 : decode cX5_upper 38 = .ok (.iload 5, 2) := by decide +kernel
theorem dX5_upper_40 : decode cX5_upper 40 = .ok (.imul, 1) := by decide +kernel
theorem dX5_upper_41 : decode cX5_upper 41 = .ok (.istore 8, 2) := by decide +kernel
theorem dX5_upper_43 : decode cX5_upper 43 = .ok (.iload 6, 2) := by decide +kernel
theorem dX5_upper_45 : decode cX5_upper 45 = .ok (.iload 7, 2) := by decide +kernel
theorem dX5_upper_47 : decode cX5_upper 47 = .ok (.ldc 92, 2) := by decide +kernel
theorem dX5_upper_49 : decode cX5_upper 49 = .ok (.iand, 1) := by decide +kernel
theorem dX5_upper_50 : decode cX5_upper 50 = .ok (.iadd, 1) := by decide +kernel
theorem dX5_upper_51 : decode cX5_upper 51 = .ok (.iload 8, 2) := by decide +kernel
theorem dX5_upper_53 : decode cX5_upper 53 = .ok (.ldc 92, 2) := by decide +kernel
theorem dX5_upper_55 : decode cX5_upper 55 = .ok (.iand, 1) := by decide +kernel
theorem dX5_upper_56 : decode cX5_upper 56 = .ok (.iadd, 1) := by decide +kernel
theorem dX5_upper_57 : decode cX5_upper 57 = .ok (.istore 9, 2) := by decide +kernel
theorem dX5_upper_59 : decode cX5_upper 59 = .ok (.iload_n 3, 1) := by decide +kernel
theorem dX5_upper_60 : decode cX5_upper 60 = .ok (.iload 5, 2) := by decide +kernel
theorem dX5_upper_62 : decode cX5_upper 62 = .ok (.imul, 1) := by decide +kernel
theorem dX5_upper_63 : decode cX5_upper 63 = .ok (.iload 7, 2) := by decide +kernel
theorem dX5_upper_65 : decode cX5_upper 65 = .ok (.bipush 16, 2) := by decide +kernel
theorem dX5_upper_67 : decode cX5_upper 67 = .ok (.iushr, 1) := by decide +kernel
theorem dX5_upper_68 : decode cX5_upper 68 = .ok (.iadd, 1) := by decide +kernel
theorem dX5_upper_69 : decode cX5_upper 69 = .ok (.iload 8, 2) := by decide +kernel
theorem dX5_upper_71 : decode cX5_upper 71 = .ok (.bipush 16, 2) := by decide +kernel
theorem dX5_upper_73 : decode cX5_upper 73 = .ok (.iushr, 1) := by decide +kernel
theorem dX5_upper_74 : decode cX5_upper 74 = .ok (.iadd, 1) := by decide +kernel
theorem dX5_upper_75 : decode cX5_upper 75 = .ok (.iload 9, 2) := by decide +kernel
theorem dX5_upper_77 : decode cX5_upper 77 = .ok (.bipush 16, 2) := by decide +kernel
theorem dX5_upper_79 : decode cX5_upper 79 = .ok (.iushr, 1) := by decide +kernel
theorem dX5_upper_80 : decode cX5_upper 80 = .ok (.iadd, 1) := by decide +kernel
theorem dX5_upper_81 : decode cX5_upper 81 = .ok (.ireturn, 1) := by decide +kernel
theorem dX5_quotient_0 : decode cX5_quotient 0 = .ok (.iconst 0, 1) := by decide +kernel
theorem dX5_quotient_1 : decode cX5_quotient 1 = .ok (.istore_n 2, 1) := by decide +kernel
theorem dX5_quotient_2 : decode cX5_quotient 2 = .ok (.iconst 0, 1) := by decide +kernel
theorem dX5_quotient_3 : decode cX5_quotient 3 = .ok (.istore_n 3, 1) := by decide +kernel
theorem dX5_quotient_4 : decode cX5_quotient 4 = .ok (.bipush 31, 2) := by decide +kernel
theorem dX5_quotient_6 : decode cX5_quotient 6 = .ok (.istore 4, 2) := by decide +kernel
theorem dX5_quotient_8 : decode cX5_quotient 8 = .ok (.iload 4, 2) := by decide +kernel
theorem dX5_quotient_10 : decode cX5_quotient 10 = .ok (.ifCond .lt 56, 3) := by decide +kernel
theorem dX5_quotient_13 : decode cX5_quotient 13 = .ok (.iload_n 3, 1) := by decide +kernel
theorem dX5_quotient_14 : decode cX5_quotient 14 = .ok (.ifCond .ge 7, 3) := by decide +kernel
theorem dX5_quotient_17 : decode cX5_quotient 17 = .ok (.iconst 1, 1) := by decide +kernel
theorem dX5_quotient_18 : decode cX5_quotient 18 = .ok (.goto 4, 3) := by decide +kernel
theorem dX5_quotient_21 : decode cX5_quotient 21 = .ok (.iconst 0, 1) := by decide +kernel
theorem dX5_quotient_22 : decode cX5_quotient 22 = .ok (.istore 5, 2) := by decide +kernel
theorem dX5_quotient_24 : decode cX5_quotient 24 = .ok (.iload_n 3, 1) := by decide +kernel
theorem dX5_quotient_25 : decode cX5_quotient 25 = .ok (.iconst 1, 1) := by decide +kernel
theorem dX5_quotient_26 : decode cX5_quotient 26 = .ok (.ishl, 1) := by decide +kernel
theorem dX5_quotient_27 : decode cX5_quotient 27 = .ok (.iload_n 0, 1) := by decide +kernel
theorem dX5_quotient_28 : decode cX5_quotient 28 = .ok (.iload 4, 2) := by decide +kernel
theorem dX5_quotient_30 : decode cX5_quotient 30 = .ok (.iushr, 1) := by decide +kernel
