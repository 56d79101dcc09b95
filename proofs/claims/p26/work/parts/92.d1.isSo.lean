theorem dL_isSo_0 : decode cL_isSo 0 = .ok (.iconst 0, 1) := by decide +kernel
theorem dL_isSo_1 : decode cL_isSo 1 = .ok (.istore 5, 2) := by decide +kernel
theorem dL_isSo_3 : decode cL_isSo 3 = .ok (.iconst 0, 1) := by decide +kernel
theorem dL_isSo_4 : decode cL_isSo 4 = .ok (.istore 6, 2) := by decide +kernel
theorem dL_isSo_6 : decode cL_isSo 6 = .ok (.iconst 1, 1) := by decide +kernel
theorem dL_isSo_7 : decode cL_isSo 7 = .ok (.istore 7, 2) := by decide +kernel
theorem dL_isSo_9 : decode cL_isSo 9 = .ok (.iconst 0, 1) := by decide +kernel
theorem dL_isSo_10 : decode cL_isSo 10 = .ok (.istore 8, 2) := by decide +kernel
theorem dL_isSo_12 : decode cL_isSo 12 = .ok (.iload 8, 2) := by decide +kernel
theorem dL_isSo_14 : decode cL_isSo 14 = .ok (.aload_n 1, 1) := by decide +kernel
theorem dL_isSo_15 : decode cL_isSo 15 = .ok (.bipush 7, 2) := by decide +kernel
theorem dL_isSo_17 : decode cL_isSo 17 = .ok (.iaload, 1) := by decide +kernel
theorem dL_isSo_18 : decode cL_isSo 18 = .ok (.if_icmp .ge 170, 3) := by decide +kernel
theorem dL_isSo_21 : decode cL_isSo 21 = .ok (.iload 7, 2) := by decide +kernel
theorem dL_isSo_23 : decode cL_isSo 23 = .ok (.ifCond .eq 165, 3) := by decide +kernel
theorem dL_isSo_26 : decode cL_isSo 26 = .ok (.aload 4, 2) := by decide +kernel
theorem dL_isSo_28 : decode cL_isSo 28 = .ok (.iload 8, 2) := by decide +kernel
theorem dL_isSo_30 : decode cL_isSo 30 = .ok (.laload, 1) := by decide +kernel
theorem dL_isSo_31 : decode cL_isSo 31 = .ok (.bipush 20, 2) := by decide +kernel
theorem dL_isSo_33 : decode cL_isSo 33 = .ok (.lshr, 1) := by decide +kernel
theorem dL_isSo_34 : decode cL_isSo 34 = .ok (.ldc2_w 40, 3) := by decide +kernel
theorem dL_isSo_37 : decode cL_isSo 37 = .ok (.land, 1) := by decide +kernel
theorem dL_isSo_38 : decode cL_isSo 38 = .ok (.l2i, 1) := by decide +kernel
theorem dL_isSo_39 : decode cL_isSo 39 = .ok (.istore 9, 2) := by decide +kernel
theorem dL_isSo_41 : decode cL_isSo 41 = .ok (.aload 4, 2) := by decide +kernel
theorem dL_isSo_43 : decode cL_isSo 43 = .ok (.iload 8, 2) := by decide +kernel
theorem dL_isSo_45 : decode cL_isSo 45 = .ok (.laload, 1) := by decide +kernel
theorem dL_isSo_46 : decode cL_isSo 46 = .ok (.bipush 24, 2) := by decide +kernel
theorem dL_isSo_48 : decode cL_isSo 48 = .ok (.lshr, 1) := by decide +kernel
theorem dL_isSo_49 : decode cL_isSo 49 = .ok (.ldc2_w 40, 3) := by decide +kernel
theorem dL_isSo_52 : decode cL_isSo 52 = .ok (.land, 1) := by decide +kernel
theorem dL_isSo_53 : decode cL_isSo 53 = .ok (.l2i, 1) := by decide +kernel
theorem dL_isSo_54 : decode cL_isSo 54 = .ok (.istore 10, 2) := by decide +kernel
theorem dL_isSo_56 : decode cL_isSo 56 = .ok (.aload 4, 2) := by decide +kernel
theorem dL_isSo_58 : decode cL_isSo 58 = .ok (.iload 8, 2) := by decide +kernel
theorem dL_isSo_60 : decode cL_isSo 60 = .ok (.laload, 1) := by decide +kernel
theorem dL_isSo_61 : decode cL_isSo 61 = .ok (.ldc2_w 26, 3) := by decide +kernel
theorem dL_isSo_64 : decode cL_isSo 64 = .ok (.land, 1) := by decide +kernel
theorem dL_isSo_65 : decode cL_isSo 65 = .ok (.l2i, 1) := by decide +kernel
theorem dL_isSo_66 : decode cL_isSo 66 = .ok (.istore 11, 2) := by decide +kernel
theorem dL_isSo_68 : decode cL_isSo 68 = .ok (.iload 6, 2) := by decide +kernel
theorem dL_isSo_70 : decode cL_isSo 70 = .ok (.iload 9, 2) := by decide +kernel
theorem dL_isSo_72 : decode cL_isSo 72 = .ok (.iload 10, 2) := by decide +kernel
theorem dL_isSo_74 : decode cL_isSo 74 = .ok (.if_icmp .ne 7, 3) := by decide +kernel
theorem dL_isSo_77 : decode cL_isSo 77 = .ok (.iconst 0, 1) := by decide +kernel
theorem dL_isSo_78 : decode cL_isSo 78 = .ok (.goto 4, 3) := by decide +kernel
theorem dL_isSo_81 : decode cL_isSo 81 = .ok (.iconst 1, 1) := by decide +kernel
theorem dL_isSo_82 : decode cL_isSo 82 = .ok (.iadd, 1) := by decide +kernel
theorem dL_isSo_83 : decode cL_isSo 83 = .ok (.istore 6, 2) := by decide +kernel
theorem dL_isSo_85 : decode cL_isSo 85 = .ok (.aload_n 0, 1) := by decide +kernel
theorem dL_isSo_86 : decode cL_isSo 86 = .ok (.iload 8, 2) := by decide +kernel
theorem dL_isSo_88 : decode cL_isSo 88 = .ok (.iconst 0, 1) := by decide +kernel
theorem dL_isSo_89 : decode cL_isSo 89 = .ok (.invokevirtual 92, 3) := by decide +kernel
theorem dL_isSo_92 : decode cL_isSo 92 = .ok (.iload 11, 2) := by decide +kernel
theorem dL_isSo_94 : decode cL_isSo 94 = .ok (.if_icmp .ne 85, 3) := by decide +kernel
theorem dL_isSo_97 : decode cL_isSo 97 = .ok (.aload_n 0, 1) := by decide +kernel
theorem dL_isSo_98 : decode cL_isSo 98 = .ok (.iload 8, 2) := by decide +kernel
theorem dL_isSo_100 : decode cL_isSo 100 = .ok (.iconst 1, 1) := by decide +kernel
theorem dL_isSo_101 : decode cL_isSo 101 = .ok (.invokevirtual 92, 3) := by decide +kernel
theorem dL_isSo_104 : decode cL_isSo 104 = .ok (.i2l, 1) := by decide +kernel
theorem dL_isSo_105 : decode cL_isSo 105 = .ok (.aload 4, 2) := by decide +kernel
theorem dL_isSo_107 : decode cL_isSo 107 = .ok (.iload 8, 2) := by decide +kernel
theorem dL_isSo_109 : decode cL_isSo 109 = .ok (.laload, 1) := by decide +kernel
theorem dL_isSo_110 : decode cL_isSo 110 = .ok (.bipush 16, 2) := by decide +kernel
theorem dL_isSo_112 : decode cL_isSo 112 = .ok (.lshr, 1) := by decide +kernel
theorem dL_isSo_113 : decode cL_isSo 113 = .ok (.ldc2_w 40, 3) := by decide +kernel
theorem dL_isSo_116 : decode cL_isSo 116 = .ok (.land, 1) := by decide +kernel
theorem dL_isSo_117 : decode cL_isSo 117 = .ok (.lcmp, 1) := by decide +kernel
theorem dL_isSo_118 : decode cL_isSo 118 = .ok (.ifCond .ne 61, 3) := by decide +kernel
theorem dL_isSo_121 : decode cL_isSo 121 = .ok (.aload_n 0, 1) := by decide +kernel
theorem dL_isSo_122 : decode cL_isSo 122 = .ok (.iload 8, 2) := by decide +kernel
theorem dL_isSo_124 : decode cL_isSo 124 = .ok (.iconst 2, 1) := by decide +kernel
theorem dL_isSo_125 : decode cL_isSo 125 = .ok (.invokevirtual 92, 3) := by decide +kernel
theorem dL_isSo_128 : decode cL_isSo 128 = .ok (.iload 9, 2) := by decide +kernel
theorem dL_isSo_130 : decode cL_isSo 130 = .ok (.if_icmp .ne 49, 3) := by decide +kernel
theorem dL_isSo_133 : decode cL_isSo 133 = .ok (.aload_n 0, 1) := by decide +kernel
theorem dL_isSo_134 : decode cL_isSo 134 = .ok (.iload 8, 2) := by decide +kernel
theorem dL_isSo_136 : decode cL_isSo 136 = .ok (.iconst 3, 1) := by decide +kernel
theorem dL_isSo_137 : decode cL_isSo 137 = .ok (.invokevirtual 92, 3) := by decide +kernel
theorem dL_isSo_140 : decode cL_isSo 140 = .ok (.iload 9, 2) := by decide +kernel
theorem dL_isSo_142 : decode cL_isSo 142 = .ok (.iload 10, 2) := by decide +kernel
theorem dL_isSo_144 : decode cL_isSo 144 = .ok (.if_icmp .ne 7, 3) := by decide +kernel
theorem dL_isSo_147 : decode cL_isSo 147 = .ok (.iconst 0, 1) := by decide +kernel
theorem dL_isSo_148 : decode cL_isSo 148 = .ok (.goto 4, 3) := by decide +kernel
theorem dL_isSo_151 : decode cL_isSo 151 = .ok (.iconst 1, 1) := by decide +kernel
theorem dL_isSo_152 : decode cL_isSo 152 = .ok (.if_icmp .ne 27, 3) := by decide +kernel
theorem dL_isSo_155 : decode cL_isSo 155 = .ok (.aload_n 0, 1) := by decide +kernel
theorem dL_isSo_156 : decode cL_isSo 156 = .ok (.iload 8, 2) := by decide +kernel
theorem dL_isSo_158 : decode cL_isSo 158 = .ok (.iconst 4, 1) := by decide +kernel
theorem dL_isSo_159 : decode cL_isSo 159 = .ok (.invokevirtual 92, 3) := by decide +kernel
theorem dL_isSo_162 : decode cL_isSo 162 = .ok (.i2l, 1) := by decide +kernel
theorem dL_isSo_163 : decode cL_isSo 163 = .ok (.aload 4, 2) := by decide +kernel
theorem dL_isSo_165 : decode cL_isSo 165 = .ok (.iload 8, 2) := by decide +kernel
theorem dL_isSo_167 : decode cL_isSo 167 = .ok (.laload, 1) := by decide +kernel
theorem dL_isSo_168 : decode cL_isSo 168 = .ok (.bipush 28, 2) := by decide +kernel
theorem dL_isSo_170 : decode cL_isSo 170 = .ok (.lshr, 1) := by decide +kernel
theorem dL_isSo_171 : decode cL_isSo 171 = .ok (.lcmp, 1) := by decide +kernel
theorem dL_isSo_172 : decode cL_isSo 172 = .ok (.ifCond .ne 7, 3) := by decide +kernel
theorem dL_isSo_175 : decode cL_isSo 175 = .ok (.iconst 1, 1) := by decide +kernel
theorem dL_isSo_176 : decode cL_isSo 176 = .ok (.goto 4, 3) := by decide +kernel
theorem dL_isSo_179 : decode cL_isSo 179 = .ok (.iconst 0, 1) := by decide +kernel
theorem dL_isSo_180 : decode cL_isSo 180 = .ok (.istore 7, 2) := by decide +kernel
theorem dL_isSo_182 : decode cL_isSo 182 = .ok (.iinc 8 1, 3) := by decide +kernel
theorem dL_isSo_185 : decode cL_isSo 185 = .ok (.goto (-173), 3) := by decide +kernel
theorem dL_isSo_188 : decode cL_isSo 188 = .ok (.iconst 0, 1) := by decide +kernel
theorem dL_isSo_189 : decode cL_isSo 189 = .ok (.istore 8, 2) := by decide +kernel
theorem dL_isSo_191 : decode cL_isSo 191 = .ok (.iload 8, 2) := by decide +kernel
theorem dL_isSo_193 : decode cL_isSo 193 = .ok (.aload_n 1, 1) := by decide +kernel
theorem dL_isSo_194 : decode cL_isSo 194 = .ok (.iconst 0, 1) := by decide +kernel
theorem dL_isSo_195 : decode cL_isSo 195 = .ok (.iaload, 1) := by decide +kernel
theorem dL_isSo_196 : decode cL_isSo 196 = .ok (.if_icmp .ge 163, 3) := by decide +kernel
theorem dL_isSo_199 : decode cL_isSo 199 = .ok (.iload 7, 2) := by decide +kernel
theorem dL_isSo_201 : decode cL_isSo 201 = .ok (.ifCond .eq 158, 3) := by decide +kernel
theorem dL_isSo_204 : decode cL_isSo 204 = .ok (.iconst 0, 1) := by decide +kernel
theorem dL_isSo_205 : decode cL_isSo 205 = .ok (.istore 9, 2) := by decide +kernel
theorem dL_isSo_207 : decode cL_isSo 207 = .ok (.iconst 0, 1) := by decide +kernel
theorem dL_isSo_208 : decode cL_isSo 208 = .ok (.istore 10, 2) := by decide +kernel
theorem dL_isSo_210 : decode cL_isSo 210 = .ok (.iload 10, 2) := by decide +kernel
theorem dL_isSo_212 : decode cL_isSo 212 = .ok (.aload_n 1, 1) := by decide +kernel
theorem dL_isSo_213 : decode cL_isSo 213 = .ok (.bipush 7, 2) := by decide +kernel
theorem dL_isSo_215 : decode cL_isSo 215 = .ok (.iaload, 1) := by decide +kernel
theorem dL_isSo_216 : decode cL_isSo 216 = .ok (.if_icmp .ge 38, 3) := by decide +kernel
theorem dL_isSo_219 : decode cL_isSo 219 = .ok (.iload 9, 2) := by decide +kernel
theorem dL_isSo_221 : decode cL_isSo 221 = .ok (.aload 4, 2) := by decide +kernel
theorem dL_isSo_223 : decode cL_isSo 223 = .ok (.iload 10, 2) := by decide +kernel
theorem dL_isSo_225 : decode cL_isSo 225 = .ok (.laload, 1) := by decide +kernel
theorem dL_isSo_226 : decode cL_isSo 226 = .ok (.bipush 20, 2) := by decide +kernel
theorem dL_isSo_228 : decode cL_isSo 228 = .ok (.lshr, 1) := by decide +kernel
theorem dL_isSo_229 : decode cL_isSo 229 = .ok (.ldc2_w 40, 3) := by decide +kernel
theorem dL_isSo_232 : decode cL_isSo 232 = .ok (.land, 1) := by decide +kernel
theorem dL_isSo_233 : decode cL_isSo 233 = .ok (.iload 8, 2) := by decide +kernel
theorem dL_isSo_235 : decode cL_isSo 235 = .ok (.i2l, 1) := by decide +kernel
theorem dL_isSo_236 : decode cL_isSo 236 = .ok (.lcmp, 1) := by decide +kernel
theorem dL_isSo_237 : decode cL_isSo 237 = .ok (.ifCond .ne 7, 3) := by decide +kernel
theorem dL_isSo_240 : decode cL_isSo 240 = .ok (.iconst 1, 1) := by decide +kernel
theorem dL_isSo_241 : decode cL_isSo 241 = .ok (.goto 4, 3) := by decide +kernel
theorem dL_isSo_244 : decode cL_isSo 244 = .ok (.iconst 0, 1) := by decide +kernel
theorem dL_isSo_245 : decode cL_isSo 245 = .ok (.iadd, 1) := by decide +kernel
theorem dL_isSo_246 : decode cL_isSo 246 = .ok (.istore 9, 2) := by decide +kernel
theorem dL_isSo_248 : decode cL_isSo 248 = .ok (.iinc 10 1, 3) := by decide +kernel
theorem dL_isSo_251 : decode cL_isSo 251 = .ok (.goto (-41), 3) := by decide +kernel
theorem dL_isSo_254 : decode cL_isSo 254 = .ok (.iload 5, 2) := by decide +kernel
theorem dL_isSo_256 : decode cL_isSo 256 = .ok (.aload_n 2, 1) := by decide +kernel
theorem dL_isSo_257 : decode cL_isSo 257 = .ok (.iload 8, 2) := by decide +kernel
theorem dL_isSo_259 : decode cL_isSo 259 = .ok (.iaload, 1) := by decide +kernel
theorem dL_isSo_260 : decode cL_isSo 260 = .ok (.iadd, 1) := by decide +kernel
theorem dL_isSo_261 : decode cL_isSo 261 = .ok (.istore 5, 2) := by decide +kernel
theorem dL_isSo_263 : decode cL_isSo 263 = .ok (.aload_n 0, 1) := by decide +kernel
theorem dL_isSo_264 : decode cL_isSo 264 = .ok (.iload 8, 2) := by decide +kernel
theorem dL_isSo_266 : decode cL_isSo 266 = .ok (.iconst 0, 1) := by decide +kernel
