theorem d_Mod_segment_0 : decode b_Mod_segment 0 = .ok (.iload_n 3, 1) := by decide +kernel
theorem d_Mod_segment_1 : decode b_Mod_segment 1 = .ok (.iconst 2, 1) := by decide +kernel
theorem d_Mod_segment_2 : decode b_Mod_segment 2 = .ok (.if_icmp .eq 23, 3) := by decide +kernel
theorem d_Mod_segment_5 : decode b_Mod_segment 5 = .ok (.iload_n 3, 1) := by decide +kernel
theorem d_Mod_segment_6 : decode b_Mod_segment 6 = .ok (.bipush 16, 2) := by decide +kernel
theorem d_Mod_segment_8 : decode b_Mod_segment 8 = .ok (.if_icmp .eq 17, 3) := by decide +kernel
theorem d_Mod_segment_11 : decode b_Mod_segment 11 = .ok (.iload_n 3, 1) := by decide +kernel
theorem d_Mod_segment_12 : decode b_Mod_segment 12 = .ok (.bipush 17, 2) := by decide +kernel
theorem d_Mod_segment_14 : decode b_Mod_segment 14 = .ok (.if_icmp .eq 11, 3) := by decide +kernel
theorem d_Mod_segment_17 : decode b_Mod_segment 17 = .ok (.iload_n 3, 1) := by decide +kernel
theorem d_Mod_segment_18 : decode b_Mod_segment 18 = .ok (.iconst 4, 1) := by decide +kernel
theorem d_Mod_segment_19 : decode b_Mod_segment 19 = .ok (.if_icmp .eq 6, 3) := by decide +kernel
theorem d_Mod_segment_22 : decode b_Mod_segment 22 = .ok (.bipush (-4), 2) := by decide +kernel
theorem d_Mod_segment_24 : decode b_Mod_segment 24 = .ok (.ireturn, 1) := by decide +kernel
theorem d_Mod_segment_25 : decode b_Mod_segment 25 = .ok (.aload_n 0, 1) := by decide +kernel
theorem d_Mod_segment_26 : decode b_Mod_segment 26 = .ok (.getfield 148, 3) := by decide +kernel
theorem d_Mod_segment_29 : decode b_Mod_segment 29 = .ok (.ifCond .ne 6, 3) := by decide +kernel
theorem d_Mod_segment_32 : decode b_Mod_segment 32 = .ok (.bipush (-2), 2) := by decide +kernel
theorem d_Mod_segment_34 : decode b_Mod_segment 34 = .ok (.ireturn, 1) := by decide +kernel
theorem d_Mod_segment_35 : decode b_Mod_segment 35 = .ok (.aload_n 0, 1) := by decide +kernel
theorem d_Mod_segment_36 : decode b_Mod_segment 36 = .ok (.getfield 81, 3) := by decide +kernel
theorem d_Mod_segment_39 : decode b_Mod_segment 39 = .ok (.iconst 3, 1) := by decide +kernel
theorem d_Mod_segment_40 : decode b_Mod_segment 40 = .ok (.iaload, 1) := by decide +kernel
theorem d_Mod_segment_41 : decode b_Mod_segment 41 = .ok (.istore 4, 2) := by decide +kernel
theorem d_Mod_segment_43 : decode b_Mod_segment 43 = .ok (.aload_n 0, 1) := by decide +kernel
theorem d_Mod_segment_44 : decode b_Mod_segment 44 = .ok (.iload 4, 2) := by decide +kernel
theorem d_Mod_segment_46 : decode b_Mod_segment 46 = .ok (.iload_n 1, 1) := by decide +kernel
theorem d_Mod_segment_47 : decode b_Mod_segment 47 = .ok (.invokevirtual 205, 3) := by decide +kernel
theorem d_Mod_segment_50 : decode b_Mod_segment 50 = .ok (.lstore 5, 2) := by decide +kernel
theorem d_Mod_segment_52 : decode b_Mod_segment 52 = .ok (.aload_n 0, 1) := by decide +kernel
theorem d_Mod_segment_53 : decode b_Mod_segment 53 = .ok (.lload 5, 2) := by decide +kernel
theorem d_Mod_segment_55 : decode b_Mod_segment 55 = .ok (.invokevirtual 209, 3) := by decide +kernel
theorem d_Mod_segment_58 : decode b_Mod_segment 58 = .ok (.istore 7, 2) := by decide +kernel
theorem d_Mod_segment_60 : decode b_Mod_segment 60 = .ok (.iload 7, 2) := by decide +kernel
theorem d_Mod_segment_62 : decode b_Mod_segment 62 = .ok (.ifCond .ge 6, 3) := by decide +kernel
theorem d_Mod_segment_65 : decode b_Mod_segment 65 = .ok (.bipush (-3), 2) := by decide +kernel
theorem d_Mod_segment_67 : decode b_Mod_segment 67 = .ok (.ireturn, 1) := by decide +kernel
theorem d_Mod_segment_68 : decode b_Mod_segment 68 = .ok (.aload_n 0, 1) := by decide +kernel
theorem d_Mod_segment_69 : decode b_Mod_segment 69 = .ok (.iload 7, 2) := by decide +kernel
theorem d_Mod_segment_71 : decode b_Mod_segment 71 = .ok (.invokevirtual 180, 3) := by decide +kernel
theorem d_Mod_segment_74 : decode b_Mod_segment 74 = .ok (.ifCond .ne 5, 3) := by decide +kernel
theorem d_Mod_segment_77 : decode b_Mod_segment 77 = .ok (.iconst (-1), 1) := by decide +kernel
theorem d_Mod_segment_78 : decode b_Mod_segment 78 = .ok (.ireturn, 1) := by decide +kernel
theorem d_Mod_segment_79 : decode b_Mod_segment 79 = .ok (.aload_n 0, 1) := by decide +kernel
theorem d_Mod_segment_80 : decode b_Mod_segment 80 = .ok (.iload 7, 2) := by decide +kernel
theorem d_Mod_segment_82 : decode b_Mod_segment 82 = .ok (.invokevirtual 189, 3) := by decide +kernel
theorem d_Mod_segment_85 : decode b_Mod_segment 85 = .ok (.aload_n 0, 1) := by decide +kernel
theorem d_Mod_segment_86 : decode b_Mod_segment 86 = .ok (.iload 7, 2) := by decide +kernel
theorem d_Mod_segment_88 : decode b_Mod_segment 88 = .ok (.iload 4, 2) := by decide +kernel
theorem d_Mod_segment_90 : decode b_Mod_segment 90 = .ok (.iload_n 1, 1) := by decide +kernel
theorem d_Mod_segment_91 : decode b_Mod_segment 91 = .ok (.invokevirtual 213, 3) := by decide +kernel
theorem d_Mod_segment_94 : decode b_Mod_segment 94 = .ok (.istore 8, 2) := by decide +kernel
theorem d_Mod_segment_96 : decode b_Mod_segment 96 = .ok (.iload 8, 2) := by decide +kernel
theorem d_Mod_segment_98 : decode b_Mod_segment 98 = .ok (.ifCond .ge 23, 3) := by decide +kernel
theorem d_Mod_segment_101 : decode b_Mod_segment 101 = .ok (.aload_n 0, 1) := by decide +kernel
theorem d_Mod_segment_102 : decode b_Mod_segment 102 = .ok (.getfield 20, 3) := by decide +kernel
theorem d_Mod_segment_105 : decode b_Mod_segment 105 = .ok (.lload 5, 2) := by decide +kernel
theorem d_Mod_segment_107 : decode b_Mod_segment 107 = .ok (.invokestatic 131, 3) := by decide +kernel
theorem d_Mod_segment_110 : decode b_Mod_segment 110 = .ok (.aload_n 0, 1) := by decide +kernel
theorem d_Mod_segment_111 : decode b_Mod_segment 111 = .ok (.getfield 107, 3) := by decide +kernel
theorem d_Mod_segment_114 : decode b_Mod_segment 114 = .ok (.i2l, 1) := by decide +kernel
theorem d_Mod_segment_115 : decode b_Mod_segment 115 = .ok (.lrem, 1) := by decide +kernel
theorem d_Mod_segment_116 : decode b_Mod_segment 116 = .ok (.l2i, 1) := by decide +kernel
theorem d_Mod_segment_117 : decode b_Mod_segment 117 = .ok (.iaload, 1) := by decide +kernel
theorem d_Mod_segment_118 : decode b_Mod_segment 118 = .ok (.goto 10, 3) := by decide +kernel
theorem d_Mod_segment_121 : decode b_Mod_segment 121 = .ok (.aload_n 0, 1) := by decide +kernel
theorem d_Mod_segment_122 : decode b_Mod_segment 122 = .ok (.getfield 51, 3) := by decide +kernel
theorem d_Mod_segment_125 : decode b_Mod_segment 125 = .ok (.iload 8, 2) := by decide +kernel
theorem d_Mod_segment_127 : decode b_Mod_segment 127 = .ok (.iaload, 1) := by decide +kernel
theorem d_Mod_segment_128 : decode b_Mod_segment 128 = .ok (.istore 9, 2) := by decide +kernel
theorem d_Mod_segment_130 : decode b_Mod_segment 130 = .ok (.aload_n 0, 1) := by decide +kernel
theorem d_Mod_segment_131 : decode b_Mod_segment 131 = .ok (.iload 7, 2) := by decide +kernel
theorem d_Mod_segment_133 : decode b_Mod_segment 133 = .ok (.iload 9, 2) := by decide +kernel
theorem d_Mod_segment_135 : decode b_Mod_segment 135 = .ok (.iload 8, 2) := by decide +kernel
theorem d_Mod_segment_137 : decode b_Mod_segment 137 = .ok (.iload_n 1, 1) := by decide +kernel
theorem d_Mod_segment_138 : decode b_Mod_segment 138 = .ok (.iload_n 3, 1) := by decide +kernel
theorem d_Mod_segment_139 : decode b_Mod_segment 139 = .ok (.invokevirtual 216, 3) := by decide +kernel
theorem d_Mod_segment_142 : decode b_Mod_segment 142 = .ok (.aload_n 0, 1) := by decide +kernel
theorem d_Mod_segment_143 : decode b_Mod_segment 143 = .ok (.iload 7, 2) := by decide +kernel
theorem d_Mod_segment_145 : decode b_Mod_segment 145 = .ok (.putfield 84, 3) := by decide +kernel
theorem d_Mod_segment_148 : decode b_Mod_segment 148 = .ok (.aload_n 0, 1) := by decide +kernel
theorem d_Mod_segment_149 : decode b_Mod_segment 149 = .ok (.iload 9, 2) := by decide +kernel
theorem d_Mod_segment_151 : decode b_Mod_segment 151 = .ok (.putfield 220, 3) := by decide +kernel
theorem d_Mod_segment_154 : decode b_Mod_segment 154 = .ok (.aload_n 0, 1) := by decide +kernel
theorem d_Mod_segment_155 : decode b_Mod_segment 155 = .ok (.aload_n 0, 1) := by decide +kernel
theorem d_Mod_segment_156 : decode b_Mod_segment 156 = .ok (.getfield 30, 3) := by decide +kernel
theorem d_Mod_segment_159 : decode b_Mod_segment 159 = .ok (.iload 7, 2) := by decide +kernel
theorem d_Mod_segment_161 : decode b_Mod_segment 161 = .ok (.iaload, 1) := by decide +kernel
theorem d_Mod_segment_162 : decode b_Mod_segment 162 = .ok (.putfield 223, 3) := by decide +kernel
theorem d_Mod_segment_165 : decode b_Mod_segment 165 = .ok (.aload_n 0, 1) := by decide +kernel
theorem d_Mod_segment_166 : decode b_Mod_segment 166 = .ok (.getfield 30, 3) := by decide +kernel
theorem d_Mod_segment_169 : decode b_Mod_segment 169 = .ok (.iload 7, 2) := by decide +kernel
theorem d_Mod_segment_171 : decode b_Mod_segment 171 = .ok (.aload_n 0, 1) := by decide +kernel
theorem d_Mod_segment_172 : decode b_Mod_segment 172 = .ok (.getfield 30, 3) := by decide +kernel
theorem d_Mod_segment_175 : decode b_Mod_segment 175 = .ok (.iload 7, 2) := by decide +kernel
theorem d_Mod_segment_177 : decode b_Mod_segment 177 = .ok (.iaload, 1) := by decide +kernel
theorem d_Mod_segment_178 : decode b_Mod_segment 178 = .ok (.iconst 1, 1) := by decide +kernel
theorem d_Mod_segment_179 : decode b_Mod_segment 179 = .ok (.iadd, 1) := by decide +kernel
theorem d_Mod_segment_180 : decode b_Mod_segment 180 = .ok (.ldc 139, 2) := by decide +kernel
theorem d_Mod_segment_182 : decode b_Mod_segment 182 = .ok (.irem, 1) := by decide +kernel
theorem d_Mod_segment_183 : decode b_Mod_segment 183 = .ok (.iastore, 1) := by decide +kernel
theorem d_Mod_segment_184 : decode b_Mod_segment 184 = .ok (.iconst 0, 1) := by decide +kernel
theorem d_Mod_segment_185 : decode b_Mod_segment 185 = .ok (.istore 10, 2) := by decide +kernel
theorem d_Mod_segment_187 : decode b_Mod_segment 187 = .ok (.iload 10, 2) := by decide +kernel
theorem d_Mod_segment_189 : decode b_Mod_segment 189 = .ok (.iconst 5, 1) := by decide +kernel
theorem d_Mod_segment_190 : decode b_Mod_segment 190 = .ok (.if_icmp .ge 23, 3) := by decide +kernel
theorem d_Mod_segment_193 : decode b_Mod_segment 193 = .ok (.aload_n 0, 1) := by decide +kernel
theorem d_Mod_segment_194 : decode b_Mod_segment 194 = .ok (.getfield 94, 3) := by decide +kernel
theorem d_Mod_segment_197 : decode b_Mod_segment 197 = .ok (.iload 10, 2) := by decide +kernel
theorem d_Mod_segment_199 : decode b_Mod_segment 199 = .ok (.aload_n 0, 1) := by decide +kernel
theorem d_Mod_segment_200 : decode b_Mod_segment 200 = .ok (.getfield 81, 3) := by decide +kernel
theorem d_Mod_segment_203 : decode b_Mod_segment 203 = .ok (.iload 10, 2) := by decide +kernel
theorem d_Mod_segment_205 : decode b_Mod_segment 205 = .ok (.iaload, 1) := by decide +kernel
theorem d_Mod_segment_206 : decode b_Mod_segment 206 = .ok (.iastore, 1) := by decide +kernel
theorem d_Mod_segment_207 : decode b_Mod_segment 207 = .ok (.iinc 10 1, 3) := by decide +kernel
theorem d_Mod_segment_210 : decode b_Mod_segment 210 = .ok (.goto (-23), 3) := by decide +kernel
theorem d_Mod_segment_213 : decode b_Mod_segment 213 = .ok (.aload_n 0, 1) := by decide +kernel
theorem d_Mod_segment_214 : decode b_Mod_segment 214 = .ok (.iconst 0, 1) := by decide +kernel
theorem d_Mod_segment_215 : decode b_Mod_segment 215 = .ok (.putfield 91, 3) := by decide +kernel
theorem d_Mod_segment_218 : decode b_Mod_segment 218 = .ok (.aload_n 0, 1) := by decide +kernel
theorem d_Mod_segment_219 : decode b_Mod_segment 219 = .ok (.aload_n 0, 1) := by decide +kernel
theorem d_Mod_segment_220 : decode b_Mod_segment 220 = .ok (.iload 7, 2) := by decide +kernel
theorem d_Mod_segment_222 : decode b_Mod_segment 222 = .ok (.iload 9, 2) := by decide +kernel
theorem d_Mod_segment_224 : decode b_Mod_segment 224 = .ok (.invokevirtual 195, 3) := by decide +kernel
theorem d_Mod_segment_227 : decode b_Mod_segment 227 = .ok (.ifCond .eq 15, 3) := by decide +kernel
theorem d_Mod_segment_230 : decode b_Mod_segment 230 = .ok (.aload_n 0, 1) := by decide +kernel
theorem d_Mod_segment_231 : decode b_Mod_segment 231 = .ok (.iload 9, 2) := by decide +kernel
theorem d_Mod_segment_233 : decode b_Mod_segment 233 = .ok (.iload_n 1, 1) := by decide +kernel
theorem d_Mod_segment_234 : decode b_Mod_segment 234 = .ok (.iload_n 2, 1) := by decide +kernel
theorem d_Mod_segment_235 : decode b_Mod_segment 235 = .ok (.iload_n 3, 1) := by decide +kernel
theorem d_Mod_segment_236 : decode b_Mod_segment 236 = .ok (.invokevirtual 226, 3) := by decide +kernel
theorem d_Mod_segment_239 : decode b_Mod_segment 239 = .ok (.goto 4, 3) := by decide +kernel
theorem d_Mod_segment_242 : decode b_Mod_segment 242 = .ok (.iconst 0, 1) := by decide +kernel
theorem d_Mod_segment_243 : decode b_Mod_segment 243 = .ok (.putfield 88, 3) := by decide +kernel
theorem d_Mod_segment_246 : decode b_Mod_segment 246 = .ok (.aload_n 0, 1) := by decide +kernel
theorem d_Mod_segment_247 : decode b_Mod_segment 247 = .ok (.getfield 88, 3) := by decide +kernel
theorem d_Mod_segment_250 : decode b_Mod_segment 250 = .ok (.ifCond .eq 33, 3) := by decide +kernel
theorem d_Mod_segment_253 : decode b_Mod_segment 253 = .ok (.aload_n 0, 1) := by decide +kernel
theorem d_Mod_segment_254 : decode b_Mod_segment 254 = .ok (.aload_n 0, 1) := by decide +kernel
theorem d_Mod_segment_255 : decode b_Mod_segment 255 = .ok (.getfield 63, 3) := by decide +kernel
theorem d_Mod_segment_258 : decode b_Mod_segment 258 = .ok (.iload 9, 2) := by decide +kernel
theorem d_Mod_segment_260 : decode b_Mod_segment 260 = .ok (.iaload, 1) := by decide +kernel
theorem d_Mod_segment_261 : decode b_Mod_segment 261 = .ok (.putfield 230, 3) := by decide +kernel
theorem d_Mod_segment_264 : decode b_Mod_segment 264 = .ok (.aload_n 0, 1) := by decide +kernel
theorem d_Mod_segment_265 : decode b_Mod_segment 265 = .ok (.getfield 63, 3) := by decide +kernel
theorem d_Mod_segment_268 : decode b_Mod_segment 268 = .ok (.iload 9, 2) := by decide +kernel
theorem d_Mod_segment_270 : decode b_Mod_segment 270 = .ok (.aload_n 0, 1) := by decide +kernel
theorem d_Mod_segment_271 : decode b_Mod_segment 271 = .ok (.getfield 63, 3) := by decide +kernel
theorem d_Mod_segment_274 : decode b_Mod_segment 274 = .ok (.iload 9, 2) := by decide +kernel
theorem d_Mod_segment_276 : decode b_Mod_segment 276 = .ok (.iaload, 1) := by decide +kernel
theorem d_Mod_segment_277 : decode b_Mod_segment 277 = .ok (.iconst 1, 1) := by decide +kernel
theorem d_Mod_segment_278 : decode b_Mod_segment 278 = .ok (.iadd, 1) := by decide +kernel
theorem d_Mod_segment_279 : decode b_Mod_segment 279 = .ok (.ldc 139, 2) := by decide +kernel
theorem d_Mod_segment_281 : decode b_Mod_segment 281 = .ok (.irem, 1) := by decide +kernel
theorem d_Mod_segment_282 : decode b_Mod_segment 282 = .ok (.iastore, 1) := by decide +kernel
theorem d_Mod_segment_283 : decode b_Mod_segment 283 = .ok (.iload 9, 2) := by decide +kernel
theorem d_Mod_segment_285 : decode b_Mod_segment 285 = .ok (.ireturn, 1) := by decide +kernel
