theorem dL_counciled_0 : decode cL_counciled 0 = .ok (.iload 5, 2) := by decide +kernel
theorem dL_counciled_2 : decode cL_counciled 2 = .ok (.aload_n 1, 1) := by decide +kernel
theorem dL_counciled_3 : decode cL_counciled 3 = .ok (.iconst 0, 1) := by decide +kernel
theorem dL_counciled_4 : decode cL_counciled 4 = .ok (.iaload, 1) := by decide +kernel
theorem dL_counciled_5 : decode cL_counciled 5 = .ok (.irem, 1) := by decide +kernel
theorem dL_counciled_6 : decode cL_counciled 6 = .ok (.istore 7, 2) := by decide +kernel
theorem dL_counciled_8 : decode cL_counciled 8 = .ok (.iload 6, 2) := by decide +kernel
theorem dL_counciled_10 : decode cL_counciled 10 = .ok (.ifCond .eq 129, 3) := by decide +kernel
theorem dL_counciled_13 : decode cL_counciled 13 = .ok (.aload_n 1, 1) := by decide +kernel
theorem dL_counciled_14 : decode cL_counciled 14 = .ok (.iconst 5, 1) := by decide +kernel
theorem dL_counciled_15 : decode cL_counciled 15 = .ok (.iaload, 1) := by decide +kernel
theorem dL_counciled_16 : decode cL_counciled 16 = .ok (.ifCond .lt 13, 3) := by decide +kernel
theorem dL_counciled_19 : decode cL_counciled 19 = .ok (.aload_n 1, 1) := by decide +kernel
theorem dL_counciled_20 : decode cL_counciled 20 = .ok (.aload_n 2, 1) := by decide +kernel
theorem dL_counciled_21 : decode cL_counciled 21 = .ok (.iload 7, 2) := by decide +kernel
theorem dL_counciled_23 : decode cL_counciled 23 = .ok (.invokestatic 30, 3) := by decide +kernel
theorem dL_counciled_26 : decode cL_counciled 26 = .ok (.ifCond .eq 20, 3) := by decide +kernel
theorem dL_counciled_29 : decode cL_counciled 29 = .ok (.aload_n 0, 1) := by decide +kernel
theorem dL_counciled_30 : decode cL_counciled 30 = .ok (.iload 7, 2) := by decide +kernel
theorem dL_counciled_32 : decode cL_counciled 32 = .ok (.invokevirtual 34, 3) := by decide +kernel
theorem dL_counciled_35 : decode cL_counciled 35 = .ok (.bipush (-2), 2) := by decide +kernel
theorem dL_counciled_37 : decode cL_counciled 37 = .ok (.if_icmp .ne 7, 3) := by decide +kernel
theorem dL_counciled_40 : decode cL_counciled 40 = .ok (.iconst 1, 1) := by decide +kernel
theorem dL_counciled_41 : decode cL_counciled 41 = .ok (.goto 4, 3) := by decide +kernel
theorem dL_counciled_44 : decode cL_counciled 44 = .ok (.iconst 0, 1) := by decide +kernel
theorem dL_counciled_45 : decode cL_counciled 45 = .ok (.ireturn, 1) := by decide +kernel
theorem dL_counciled_46 : decode cL_counciled 46 = .ok (.aload 4, 2) := by decide +kernel
theorem dL_counciled_48 : decode cL_counciled 48 = .ok (.aload_n 1, 1) := by decide +kernel
theorem dL_counciled_49 : decode cL_counciled 49 = .ok (.bipush 7, 2) := by decide +kernel
theorem dL_counciled_51 : decode cL_counciled 51 = .ok (.iaload, 1) := by decide +kernel
theorem dL_counciled_52 : decode cL_counciled 52 = .ok (.iconst 1, 1) := by decide +kernel
theorem dL_counciled_53 : decode cL_counciled 53 = .ok (.isub, 1) := by decide +kernel
theorem dL_counciled_54 : decode cL_counciled 54 = .ok (.laload, 1) := by decide +kernel
theorem dL_counciled_55 : decode cL_counciled 55 = .ok (.bipush 20, 2) := by decide +kernel
theorem dL_counciled_57 : decode cL_counciled 57 = .ok (.lshr, 1) := by decide +kernel
theorem dL_counciled_58 : decode cL_counciled 58 = .ok (.ldc2_w 40, 3) := by decide +kernel
theorem dL_counciled_61 : decode cL_counciled 61 = .ok (.land, 1) := by decide +kernel
theorem dL_counciled_62 : decode cL_counciled 62 = .ok (.l2i, 1) := by decide +kernel
theorem dL_counciled_63 : decode cL_counciled 63 = .ok (.istore 8, 2) := by decide +kernel
theorem dL_counciled_65 : decode cL_counciled 65 = .ok (.aload 4, 2) := by decide +kernel
theorem dL_counciled_67 : decode cL_counciled 67 = .ok (.aload_n 1, 1) := by decide +kernel
theorem dL_counciled_68 : decode cL_counciled 68 = .ok (.bipush 7, 2) := by decide +kernel
theorem dL_counciled_70 : decode cL_counciled 70 = .ok (.iaload, 1) := by decide +kernel
theorem dL_counciled_71 : decode cL_counciled 71 = .ok (.iconst 1, 1) := by decide +kernel
theorem dL_counciled_72 : decode cL_counciled 72 = .ok (.isub, 1) := by decide +kernel
theorem dL_counciled_73 : decode cL_counciled 73 = .ok (.laload, 1) := by decide +kernel
theorem dL_counciled_74 : decode cL_counciled 74 = .ok (.bipush 28, 2) := by decide +kernel
theorem dL_counciled_76 : decode cL_counciled 76 = .ok (.lshr, 1) := by decide +kernel
theorem dL_counciled_77 : decode cL_counciled 77 = .ok (.l2i, 1) := by decide +kernel
theorem dL_counciled_78 : decode cL_counciled 78 = .ok (.istore 9, 2) := by decide +kernel
theorem dL_counciled_80 : decode cL_counciled 80 = .ok (.aload 4, 2) := by decide +kernel
theorem dL_counciled_82 : decode cL_counciled 82 = .ok (.aload_n 1, 1) := by decide +kernel
theorem dL_counciled_83 : decode cL_counciled 83 = .ok (.bipush 7, 2) := by decide +kernel
theorem dL_counciled_85 : decode cL_counciled 85 = .ok (.iaload, 1) := by decide +kernel
theorem dL_counciled_86 : decode cL_counciled 86 = .ok (.iconst 1, 1) := by decide +kernel
theorem dL_counciled_87 : decode cL_counciled 87 = .ok (.isub, 1) := by decide +kernel
theorem dL_counciled_88 : decode cL_counciled 88 = .ok (.dup2, 1) := by decide +kernel
theorem dL_counciled_89 : decode cL_counciled 89 = .ok (.laload, 1) := by decide +kernel
theorem dL_counciled_90 : decode cL_counciled 90 = .ok (.iload 7, 2) := by decide +kernel
theorem dL_counciled_92 : decode cL_counciled 92 = .ok (.iload 8, 2) := by decide +kernel
theorem dL_counciled_94 : decode cL_counciled 94 = .ok (.isub, 1) := by decide +kernel
theorem dL_counciled_95 : decode cL_counciled 95 = .ok (.i2l, 1) := by decide +kernel
theorem dL_counciled_96 : decode cL_counciled 96 = .ok (.bipush 20, 2) := by decide +kernel
theorem dL_counciled_98 : decode cL_counciled 98 = .ok (.lshl, 1) := by decide +kernel
theorem dL_counciled_99 : decode cL_counciled 99 = .ok (.ladd, 1) := by decide +kernel
theorem dL_counciled_100 : decode cL_counciled 100 = .ok (.lastore, 1) := by decide +kernel
theorem dL_counciled_101 : decode cL_counciled 101 = .ok (.aload_n 2, 1) := by decide +kernel
theorem dL_counciled_102 : decode cL_counciled 102 = .ok (.bipush 29, 2) := by decide +kernel
theorem dL_counciled_104 : decode cL_counciled 104 = .ok (.iload 9, 2) := by decide +kernel
theorem dL_counciled_106 : decode cL_counciled 106 = .ok (.iadd, 1) := by decide +kernel
theorem dL_counciled_107 : decode cL_counciled 107 = .ok (.iload 7, 2) := by decide +kernel
theorem dL_counciled_109 : decode cL_counciled 109 = .ok (.iastore, 1) := by decide +kernel
theorem dL_counciled_110 : decode cL_counciled 110 = .ok (.aload_n 1, 1) := by decide +kernel
theorem dL_counciled_111 : decode cL_counciled 111 = .ok (.aload_n 2, 1) := by decide +kernel
theorem dL_counciled_112 : decode cL_counciled 112 = .ok (.invokestatic 42, 3) := by decide +kernel
theorem dL_counciled_115 : decode cL_counciled 115 = .ok (.istore 10, 2) := by decide +kernel
theorem dL_counciled_117 : decode cL_counciled 117 = .ok (.iload 10, 2) := by decide +kernel
theorem dL_counciled_119 : decode cL_counciled 119 = .ok (.ifCond .lt 18, 3) := by decide +kernel
theorem dL_counciled_122 : decode cL_counciled 122 = .ok (.aload_n 0, 1) := by decide +kernel
theorem dL_counciled_123 : decode cL_counciled 123 = .ok (.iload 7, 2) := by decide +kernel
theorem dL_counciled_125 : decode cL_counciled 125 = .ok (.invokevirtual 34, 3) := by decide +kernel
theorem dL_counciled_128 : decode cL_counciled 128 = .ok (.iload 8, 2) := by decide +kernel
theorem dL_counciled_130 : decode cL_counciled 130 = .ok (.if_icmp .ne 7, 3) := by decide +kernel
theorem dL_counciled_133 : decode cL_counciled 133 = .ok (.iconst 1, 1) := by decide +kernel
theorem dL_counciled_134 : decode cL_counciled 134 = .ok (.goto 4, 3) := by decide +kernel
theorem dL_counciled_137 : decode cL_counciled 137 = .ok (.iconst 0, 1) := by decide +kernel
theorem dL_counciled_138 : decode cL_counciled 138 = .ok (.ireturn, 1) := by decide +kernel
theorem dL_counciled_139 : decode cL_counciled 139 = .ok (.iload 5, 2) := by decide +kernel
theorem dL_counciled_141 : decode cL_counciled 141 = .ok (.bipush 12, 2) := by decide +kernel
theorem dL_counciled_143 : decode cL_counciled 143 = .ok (.idiv, 1) := by decide +kernel
theorem dL_counciled_144 : decode cL_counciled 144 = .ok (.iconst 5, 1) := by decide +kernel
theorem dL_counciled_145 : decode cL_counciled 145 = .ok (.irem, 1) := by decide +kernel
theorem dL_counciled_146 : decode cL_counciled 146 = .ok (.istore 8, 2) := by decide +kernel
theorem dL_counciled_148 : decode cL_counciled 148 = .ok (.iload 8, 2) := by decide +kernel
theorem dL_counciled_150 : decode cL_counciled 150 = .ok (.aload_n 1, 1) := by decide +kernel
theorem dL_counciled_151 : decode cL_counciled 151 = .ok (.iconst 1, 1) := by decide +kernel
theorem dL_counciled_152 : decode cL_counciled 152 = .ok (.iaload, 1) := by decide +kernel
theorem dL_counciled_153 : decode cL_counciled 153 = .ok (.if_icmp .lt 21, 3) := by decide +kernel
theorem dL_counciled_156 : decode cL_counciled 156 = .ok (.aload_n 0, 1) := by decide +kernel
theorem dL_counciled_157 : decode cL_counciled 157 = .ok (.iload 7, 2) := by decide +kernel
theorem dL_counciled_159 : decode cL_counciled 159 = .ok (.iload 8, 2) := by decide +kernel
theorem dL_counciled_161 : decode cL_counciled 161 = .ok (.invokevirtual 46, 3) := by decide +kernel
theorem dL_counciled_164 : decode cL_counciled 164 = .ok (.iconst (-1), 1) := by decide +kernel
theorem dL_counciled_165 : decode cL_counciled 165 = .ok (.if_icmp .ne 7, 3) := by decide +kernel
theorem dL_counciled_168 : decode cL_counciled 168 = .ok (.iconst 1, 1) := by decide +kernel
theorem dL_counciled_169 : decode cL_counciled 169 = .ok (.goto 4, 3) := by decide +kernel
theorem dL_counciled_172 : decode cL_counciled 172 = .ok (.iconst 0, 1) := by decide +kernel
theorem dL_counciled_173 : decode cL_counciled 173 = .ok (.ireturn, 1) := by decide +kernel
theorem dL_counciled_174 : decode cL_counciled 174 = .ok (.aload_n 1, 1) := by decide +kernel
theorem dL_counciled_175 : decode cL_counciled 175 = .ok (.aload_n 2, 1) := by decide +kernel
theorem dL_counciled_176 : decode cL_counciled 176 = .ok (.iconst (-1), 1) := by decide +kernel
theorem dL_counciled_177 : decode cL_counciled 177 = .ok (.invokestatic 50, 3) := by decide +kernel
theorem dL_counciled_180 : decode cL_counciled 180 = .ok (.istore 9, 2) := by decide +kernel
theorem dL_counciled_182 : decode cL_counciled 182 = .ok (.aload_n 1, 1) := by decide +kernel
theorem dL_counciled_183 : decode cL_counciled 183 = .ok (.iconst 5, 1) := by decide +kernel
theorem dL_counciled_184 : decode cL_counciled 184 = .ok (.iaload, 1) := by decide +kernel
theorem dL_counciled_185 : decode cL_counciled 185 = .ok (.ifCond .ge 38, 3) := by decide +kernel
theorem dL_counciled_188 : decode cL_counciled 188 = .ok (.aload_n 1, 1) := by decide +kernel
theorem dL_counciled_189 : decode cL_counciled 189 = .ok (.aload_n 2, 1) := by decide +kernel
theorem dL_counciled_190 : decode cL_counciled 190 = .ok (.iload 7, 2) := by decide +kernel
theorem dL_counciled_192 : decode cL_counciled 192 = .ok (.invokestatic 30, 3) := by decide +kernel
theorem dL_counciled_195 : decode cL_counciled 195 = .ok (.ifCond .eq 28, 3) := by decide +kernel
theorem dL_counciled_198 : decode cL_counciled 198 = .ok (.aload_n 2, 1) := by decide +kernel
theorem dL_counciled_199 : decode cL_counciled 199 = .ok (.iload 7, 2) := by decide +kernel
theorem dL_counciled_201 : decode cL_counciled 201 = .ok (.iaload, 1) := by decide +kernel
theorem dL_counciled_202 : decode cL_counciled 202 = .ok (.ifCond .eq 21, 3) := by decide +kernel
theorem dL_counciled_205 : decode cL_counciled 205 = .ok (.aload_n 2, 1) := by decide +kernel
theorem dL_counciled_206 : decode cL_counciled 206 = .ok (.bipush 12, 2) := by decide +kernel
theorem dL_counciled_208 : decode cL_counciled 208 = .ok (.iload 7, 2) := by decide +kernel
theorem dL_counciled_210 : decode cL_counciled 210 = .ok (.iadd, 1) := by decide +kernel
theorem dL_counciled_211 : decode cL_counciled 211 = .ok (.iaload, 1) := by decide +kernel
theorem dL_counciled_212 : decode cL_counciled 212 = .ok (.aload_n 1, 1) := by decide +kernel
theorem dL_counciled_213 : decode cL_counciled 213 = .ok (.iconst 3, 1) := by decide +kernel
theorem dL_counciled_214 : decode cL_counciled 214 = .ok (.iaload, 1) := by decide +kernel
theorem dL_counciled_215 : decode cL_counciled 215 = .ok (.if_icmp .lt 8, 3) := by decide +kernel
theorem dL_counciled_218 : decode cL_counciled 218 = .ok (.iload 9, 2) := by decide +kernel
theorem dL_counciled_220 : decode cL_counciled 220 = .ok (.ifCond .ne 22, 3) := by decide +kernel
theorem dL_counciled_223 : decode cL_counciled 223 = .ok (.aload_n 0, 1) := by decide +kernel
theorem dL_counciled_224 : decode cL_counciled 224 = .ok (.iload 7, 2) := by decide +kernel
theorem dL_counciled_226 : decode cL_counciled 226 = .ok (.iload 8, 2) := by decide +kernel
theorem dL_counciled_228 : decode cL_counciled 228 = .ok (.invokevirtual 46, 3) := by decide +kernel
theorem dL_counciled_231 : decode cL_counciled 231 = .ok (.bipush (-2), 2) := by decide +kernel
theorem dL_counciled_233 : decode cL_counciled 233 = .ok (.if_icmp .ne 7, 3) := by decide +kernel
theorem dL_counciled_236 : decode cL_counciled 236 = .ok (.iconst 1, 1) := by decide +kernel
theorem dL_counciled_237 : decode cL_counciled 237 = .ok (.goto 4, 3) := by decide +kernel
theorem dL_counciled_240 : decode cL_counciled 240 = .ok (.iconst 0, 1) := by decide +kernel
theorem dL_counciled_241 : decode cL_counciled 241 = .ok (.ireturn, 1) := by decide +kernel
theorem dL_counciled_242 : decode cL_counciled 242 = .ok (.aload_n 1, 1) := by decide +kernel
theorem dL_counciled_243 : decode cL_counciled 243 = .ok (.bipush 6, 2) := by decide +kernel
theorem dL_counciled_245 : decode cL_counciled 245 = .ok (.iaload, 1) := by decide +kernel
