theorem dL_acts_0 : decode cL_acts 0 = .ok (.iload 5, 2) := by decide +kernel
theorem dL_acts_2 : decode cL_acts 2 = .ok (.iconst 5, 1) := by decide +kernel
theorem dL_acts_3 : decode cL_acts 3 = .ok (.ishr, 1) := by decide +kernel
theorem dL_acts_4 : decode cL_acts 4 = .ok (.ldc 61, 2) := by decide +kernel
theorem dL_acts_6 : decode cL_acts 6 = .ok (.invokestatic 62, 3) := by decide +kernel
theorem dL_acts_9 : decode cL_acts 9 = .ok (.istore 6, 2) := by decide +kernel
theorem dL_acts_11 : decode cL_acts 11 = .ok (.iload 5, 2) := by decide +kernel
theorem dL_acts_13 : decode cL_acts 13 = .ok (.bipush 26, 2) := by decide +kernel
theorem dL_acts_15 : decode cL_acts 15 = .ok (.invokestatic 62, 3) := by decide +kernel
theorem dL_acts_18 : decode cL_acts 18 = .ok (.istore 7, 2) := by decide +kernel
theorem dL_acts_20 : decode cL_acts 20 = .ok (.iload 7, 2) := by decide +kernel
theorem dL_acts_22 : decode cL_acts 22 = .ok (.ifCond .eq 9, 3) := by decide +kernel
theorem dL_acts_25 : decode cL_acts 25 = .ok (.aload_n 1, 1) := by decide +kernel
theorem dL_acts_26 : decode cL_acts 26 = .ok (.iconst 0, 1) := by decide +kernel
theorem dL_acts_27 : decode cL_acts 27 = .ok (.iaload, 1) := by decide +kernel
theorem dL_acts_28 : decode cL_acts 28 = .ok (.ifCond .ne 66, 3) := by decide +kernel
theorem dL_acts_31 : decode cL_acts 31 = .ok (.aload_n 1, 1) := by decide +kernel
theorem dL_acts_32 : decode cL_acts 32 = .ok (.iconst 0, 1) := by decide +kernel
theorem dL_acts_33 : decode cL_acts 33 = .ok (.iaload, 1) := by decide +kernel
theorem dL_acts_34 : decode cL_acts 34 = .ok (.bipush 12, 2) := by decide +kernel
theorem dL_acts_36 : decode cL_acts 36 = .ok (.if_icmp .ne 18, 3) := by decide +kernel
theorem dL_acts_39 : decode cL_acts 39 = .ok (.aload_n 0, 1) := by decide +kernel
theorem dL_acts_40 : decode cL_acts 40 = .ok (.invokevirtual 65, 3) := by decide +kernel
theorem dL_acts_43 : decode cL_acts 43 = .ok (.bipush (-3), 2) := by decide +kernel
theorem dL_acts_45 : decode cL_acts 45 = .ok (.if_icmp .ne 7, 3) := by decide +kernel
theorem dL_acts_48 : decode cL_acts 48 = .ok (.iconst 1, 1) := by decide +kernel
theorem dL_acts_49 : decode cL_acts 49 = .ok (.goto 4, 3) := by decide +kernel
theorem dL_acts_52 : decode cL_acts 52 = .ok (.iconst 0, 1) := by decide +kernel
theorem dL_acts_53 : decode cL_acts 53 = .ok (.ireturn, 1) := by decide +kernel
theorem dL_acts_54 : decode cL_acts 54 = .ok (.aload_n 2, 1) := by decide +kernel
theorem dL_acts_55 : decode cL_acts 55 = .ok (.aload_n 1, 1) := by decide +kernel
theorem dL_acts_56 : decode cL_acts 56 = .ok (.iconst 0, 1) := by decide +kernel
theorem dL_acts_57 : decode cL_acts 57 = .ok (.iaload, 1) := by decide +kernel
theorem dL_acts_58 : decode cL_acts 58 = .ok (.iconst 1, 1) := by decide +kernel
theorem dL_acts_59 : decode cL_acts 59 = .ok (.iastore, 1) := by decide +kernel
theorem dL_acts_60 : decode cL_acts 60 = .ok (.aload_n 2, 1) := by decide +kernel
theorem dL_acts_61 : decode cL_acts 61 = .ok (.bipush 12, 2) := by decide +kernel
theorem dL_acts_63 : decode cL_acts 63 = .ok (.aload_n 1, 1) := by decide +kernel
theorem dL_acts_64 : decode cL_acts 64 = .ok (.iconst 0, 1) := by decide +kernel
theorem dL_acts_65 : decode cL_acts 65 = .ok (.iaload, 1) := by decide +kernel
theorem dL_acts_66 : decode cL_acts 66 = .ok (.iadd, 1) := by decide +kernel
theorem dL_acts_67 : decode cL_acts 67 = .ok (.iconst 0, 1) := by decide +kernel
theorem dL_acts_68 : decode cL_acts 68 = .ok (.iastore, 1) := by decide +kernel
theorem dL_acts_69 : decode cL_acts 69 = .ok (.aload_n 1, 1) := by decide +kernel
theorem dL_acts_70 : decode cL_acts 70 = .ok (.iconst 0, 1) := by decide +kernel
theorem dL_acts_71 : decode cL_acts 71 = .ok (.dup2, 1) := by decide +kernel
theorem dL_acts_72 : decode cL_acts 72 = .ok (.iaload, 1) := by decide +kernel
theorem dL_acts_73 : decode cL_acts 73 = .ok (.iconst 1, 1) := by decide +kernel
theorem dL_acts_74 : decode cL_acts 74 = .ok (.iadd, 1) := by decide +kernel
theorem dL_acts_75 : decode cL_acts 75 = .ok (.iastore, 1) := by decide +kernel
theorem dL_acts_76 : decode cL_acts 76 = .ok (.aload_n 0, 1) := by decide +kernel
theorem dL_acts_77 : decode cL_acts 77 = .ok (.invokevirtual 65, 3) := by decide +kernel
theorem dL_acts_80 : decode cL_acts 80 = .ok (.aload_n 1, 1) := by decide +kernel
theorem dL_acts_81 : decode cL_acts 81 = .ok (.iconst 0, 1) := by decide +kernel
theorem dL_acts_82 : decode cL_acts 82 = .ok (.iaload, 1) := by decide +kernel
theorem dL_acts_83 : decode cL_acts 83 = .ok (.iconst 1, 1) := by decide +kernel
theorem dL_acts_84 : decode cL_acts 84 = .ok (.isub, 1) := by decide +kernel
theorem dL_acts_85 : decode cL_acts 85 = .ok (.if_icmp .ne 7, 3) := by decide +kernel
theorem dL_acts_88 : decode cL_acts 88 = .ok (.iconst 1, 1) := by decide +kernel
theorem dL_acts_89 : decode cL_acts 89 = .ok (.goto 4, 3) := by decide +kernel
theorem dL_acts_92 : decode cL_acts 92 = .ok (.iconst 0, 1) := by decide +kernel
theorem dL_acts_93 : decode cL_acts 93 = .ok (.ireturn, 1) := by decide +kernel
theorem dL_acts_94 : decode cL_acts 94 = .ok (.iload 6, 2) := by decide +kernel
theorem dL_acts_96 : decode cL_acts 96 = .ok (.aload_n 1, 1) := by decide +kernel
theorem dL_acts_97 : decode cL_acts 97 = .ok (.iconst 0, 1) := by decide +kernel
theorem dL_acts_98 : decode cL_acts 98 = .ok (.iaload, 1) := by decide +kernel
theorem dL_acts_99 : decode cL_acts 99 = .ok (.irem, 1) := by decide +kernel
theorem dL_acts_100 : decode cL_acts 100 = .ok (.istore 8, 2) := by decide +kernel
theorem dL_acts_102 : decode cL_acts 102 = .ok (.iload 7, 2) := by decide +kernel
theorem dL_acts_104 : decode cL_acts 104 = .ok (.iconst 1, 1) := by decide +kernel
theorem dL_acts_105 : decode cL_acts 105 = .ok (.if_icmp .ne 92, 3) := by decide +kernel
theorem dL_acts_108 : decode cL_acts 108 = .ok (.iconst 1, 1) := by decide +kernel
theorem dL_acts_109 : decode cL_acts 109 = .ok (.iload 6, 2) := by decide +kernel
theorem dL_acts_111 : decode cL_acts 111 = .ok (.bipush 12, 2) := by decide +kernel
theorem dL_acts_113 : decode cL_acts 113 = .ok (.idiv, 1) := by decide +kernel
theorem dL_acts_114 : decode cL_acts 114 = .ok (.iconst 5, 1) := by decide +kernel
theorem dL_acts_115 : decode cL_acts 115 = .ok (.irem, 1) := by decide +kernel
theorem dL_acts_116 : decode cL_acts 116 = .ok (.iadd, 1) := by decide +kernel
theorem dL_acts_117 : decode cL_acts 117 = .ok (.istore 9, 2) := by decide +kernel
theorem dL_acts_119 : decode cL_acts 119 = .ok (.aload_n 1, 1) := by decide +kernel
theorem dL_acts_120 : decode cL_acts 120 = .ok (.iconst 1, 1) := by decide +kernel
theorem dL_acts_121 : decode cL_acts 121 = .ok (.iaload, 1) := by decide +kernel
theorem dL_acts_122 : decode cL_acts 122 = .ok (.ifCond .gt 11, 3) := by decide +kernel
theorem dL_acts_125 : decode cL_acts 125 = .ok (.aload_n 1, 1) := by decide +kernel
theorem dL_acts_126 : decode cL_acts 126 = .ok (.iconst 0, 1) := by decide +kernel
theorem dL_acts_127 : decode cL_acts 127 = .ok (.iaload, 1) := by decide +kernel
theorem dL_acts_128 : decode cL_acts 128 = .ok (.iload 9, 2) := by decide +kernel
theorem dL_acts_130 : decode cL_acts 130 = .ok (.if_icmp .ge 20, 3) := by decide +kernel
theorem dL_acts_133 : decode cL_acts 133 = .ok (.aload_n 0, 1) := by decide +kernel
theorem dL_acts_134 : decode cL_acts 134 = .ok (.iload 9, 2) := by decide +kernel
theorem dL_acts_136 : decode cL_acts 136 = .ok (.invokevirtual 69, 3) := by decide +kernel
theorem dL_acts_139 : decode cL_acts 139 = .ok (.bipush (-2), 2) := by decide +kernel
theorem dL_acts_141 : decode cL_acts 141 = .ok (.if_icmp .ne 7, 3) := by decide +kernel
theorem dL_acts_144 : decode cL_acts 144 = .ok (.iconst 1, 1) := by decide +kernel
theorem dL_acts_145 : decode cL_acts 145 = .ok (.goto 4, 3) := by decide +kernel
theorem dL_acts_148 : decode cL_acts 148 = .ok (.iconst 0, 1) := by decide +kernel
theorem dL_acts_149 : decode cL_acts 149 = .ok (.ireturn, 1) := by decide +kernel
theorem dL_acts_150 : decode cL_acts 150 = .ok (.aload_n 1, 1) := by decide +kernel
theorem dL_acts_151 : decode cL_acts 151 = .ok (.iconst 1, 1) := by decide +kernel
theorem dL_acts_152 : decode cL_acts 152 = .ok (.iload 9, 2) := by decide +kernel
theorem dL_acts_154 : decode cL_acts 154 = .ok (.iastore, 1) := by decide +kernel
theorem dL_acts_155 : decode cL_acts 155 = .ok (.iconst 0, 1) := by decide +kernel
theorem dL_acts_156 : decode cL_acts 156 = .ok (.istore 10, 2) := by decide +kernel
theorem dL_acts_158 : decode cL_acts 158 = .ok (.iload 10, 2) := by decide +kernel
theorem dL_acts_160 : decode cL_acts 160 = .ok (.iload 9, 2) := by decide +kernel
theorem dL_acts_162 : decode cL_acts 162 = .ok (.if_icmp .ge 18, 3) := by decide +kernel
theorem dL_acts_165 : decode cL_acts 165 = .ok (.aload_n 2, 1) := by decide +kernel
theorem dL_acts_166 : decode cL_acts 166 = .ok (.bipush 24, 2) := by decide +kernel
theorem dL_acts_168 : decode cL_acts 168 = .ok (.iload 10, 2) := by decide +kernel
theorem dL_acts_170 : decode cL_acts 170 = .ok (.iadd, 1) := by decide +kernel
theorem dL_acts_171 : decode cL_acts 171 = .ok (.iload 10, 2) := by decide +kernel
theorem dL_acts_173 : decode cL_acts 173 = .ok (.iastore, 1) := by decide +kernel
theorem dL_acts_174 : decode cL_acts 174 = .ok (.iinc 10 1, 3) := by decide +kernel
theorem dL_acts_177 : decode cL_acts 177 = .ok (.goto (-19), 3) := by decide +kernel
theorem dL_acts_180 : decode cL_acts 180 = .ok (.aload_n 0, 1) := by decide +kernel
theorem dL_acts_181 : decode cL_acts 181 = .ok (.iload 9, 2) := by decide +kernel
theorem dL_acts_183 : decode cL_acts 183 = .ok (.invokevirtual 69, 3) := by decide +kernel
theorem dL_acts_186 : decode cL_acts 186 = .ok (.iload 9, 2) := by decide +kernel
theorem dL_acts_188 : decode cL_acts 188 = .ok (.if_icmp .ne 7, 3) := by decide +kernel
theorem dL_acts_191 : decode cL_acts 191 = .ok (.iconst 1, 1) := by decide +kernel
theorem dL_acts_192 : decode cL_acts 192 = .ok (.goto 4, 3) := by decide +kernel
theorem dL_acts_195 : decode cL_acts 195 = .ok (.iconst 0, 1) := by decide +kernel
theorem dL_acts_196 : decode cL_acts 196 = .ok (.ireturn, 1) := by decide +kernel
theorem dL_acts_197 : decode cL_acts 197 = .ok (.iload 7, 2) := by decide +kernel
theorem dL_acts_199 : decode cL_acts 199 = .ok (.iconst 2, 1) := by decide +kernel
theorem dL_acts_200 : decode cL_acts 200 = .ok (.if_icmp .ne 37, 3) := by decide +kernel
theorem dL_acts_203 : decode cL_acts 203 = .ok (.aload_n 1, 1) := by decide +kernel
theorem dL_acts_204 : decode cL_acts 204 = .ok (.bipush 6, 2) := by decide +kernel
theorem dL_acts_206 : decode cL_acts 206 = .ok (.iaload, 1) := by decide +kernel
theorem dL_acts_207 : decode cL_acts 207 = .ok (.istore 9, 2) := by decide +kernel
theorem dL_acts_209 : decode cL_acts 209 = .ok (.aload_n 1, 1) := by decide +kernel
theorem dL_acts_210 : decode cL_acts 210 = .ok (.bipush 6, 2) := by decide +kernel
theorem dL_acts_212 : decode cL_acts 212 = .ok (.iload 6, 2) := by decide +kernel
theorem dL_acts_214 : decode cL_acts 214 = .ok (.ldc 72, 2) := by decide +kernel
theorem dL_acts_216 : decode cL_acts 216 = .ok (.irem, 1) := by decide +kernel
theorem dL_acts_217 : decode cL_acts 217 = .ok (.iastore, 1) := by decide +kernel
theorem dL_acts_218 : decode cL_acts 218 = .ok (.aload_n 0, 1) := by decide +kernel
theorem dL_acts_219 : decode cL_acts 219 = .ok (.aload_n 1, 1) := by decide +kernel
theorem dL_acts_220 : decode cL_acts 220 = .ok (.bipush 6, 2) := by decide +kernel
theorem dL_acts_222 : decode cL_acts 222 = .ok (.iaload, 1) := by decide +kernel
theorem dL_acts_223 : decode cL_acts 223 = .ok (.invokevirtual 73, 3) := by decide +kernel
theorem dL_acts_226 : decode cL_acts 226 = .ok (.iload 9, 2) := by decide +kernel
theorem dL_acts_228 : decode cL_acts 228 = .ok (.if_icmp .ne 7, 3) := by decide +kernel
theorem dL_acts_231 : decode cL_acts 231 = .ok (.iconst 1, 1) := by decide +kernel
theorem dL_acts_232 : decode cL_acts 232 = .ok (.goto 4, 3) := by decide +kernel
theorem dL_acts_235 : decode cL_acts 235 = .ok (.iconst 0, 1) := by decide +kernel
theorem dL_acts_236 : decode cL_acts 236 = .ok (.ireturn, 1) := by decide +kernel
theorem dL_acts_237 : decode cL_acts 237 = .ok (.iload 7, 2) := by decide +kernel
theorem dL_acts_239 : decode cL_acts 239 = .ok (.iconst 5, 1) := by decide +kernel
theorem dL_acts_240 : decode cL_acts 240 = .ok (.if_icmp .ge 102, 3) := by decide +kernel
