theorem d_Mod_init_0 : decode b_Mod_init 0 = .ok (.aload_n 0, 1) := by decide +kernel
theorem d_Mod_init_1 : decode b_Mod_init 1 = .ok (.invokespecial 1, 3) := by decide +kernel
theorem d_Mod_init_4 : decode b_Mod_init 4 = .ok (.aload_n 0, 1) := by decide +kernel
theorem d_Mod_init_5 : decode b_Mod_init 5 = .ok (.iconst 4, 1) := by decide +kernel
theorem d_Mod_init_6 : decode b_Mod_init 6 = .ok (.newarray .long, 2) := by decide +kernel
theorem d_Mod_init_8 : decode b_Mod_init 8 = .ok (.putfield 7, 3) := by decide +kernel
theorem d_Mod_init_11 : decode b_Mod_init 11 = .ok (.aload_n 0, 1) := by decide +kernel
theorem d_Mod_init_12 : decode b_Mod_init 12 = .ok (.bipush 8, 2) := by decide +kernel
theorem d_Mod_init_14 : decode b_Mod_init 14 = .ok (.newarray .int, 2) := by decide +kernel
theorem d_Mod_init_16 : decode b_Mod_init 16 = .ok (.putfield 13, 3) := by decide +kernel
theorem d_Mod_init_19 : decode b_Mod_init 19 = .ok (.aload_n 0, 1) := by decide +kernel
theorem d_Mod_init_20 : decode b_Mod_init 20 = .ok (.bipush 8, 2) := by decide +kernel
theorem d_Mod_init_22 : decode b_Mod_init 22 = .ok (.newarray .int, 2) := by decide +kernel
theorem d_Mod_init_24 : decode b_Mod_init 24 = .ok (.putfield 17, 3) := by decide +kernel
theorem d_Mod_init_27 : decode b_Mod_init 27 = .ok (.aload_n 0, 1) := by decide +kernel
theorem d_Mod_init_28 : decode b_Mod_init 28 = .ok (.bipush 101, 2) := by decide +kernel
theorem d_Mod_init_30 : decode b_Mod_init 30 = .ok (.newarray .int, 2) := by decide +kernel
theorem d_Mod_init_32 : decode b_Mod_init 32 = .ok (.putfield 20, 3) := by decide +kernel
theorem d_Mod_init_35 : decode b_Mod_init 35 = .ok (.aload_n 0, 1) := by decide +kernel
theorem d_Mod_init_36 : decode b_Mod_init 36 = .ok (.bipush 101, 2) := by decide +kernel
theorem d_Mod_init_38 : decode b_Mod_init 38 = .ok (.newarray .int, 2) := by decide +kernel
theorem d_Mod_init_40 : decode b_Mod_init 40 = .ok (.putfield 23, 3) := by decide +kernel
theorem d_Mod_init_43 : decode b_Mod_init 43 = .ok (.aload_n 0, 1) := by decide +kernel
theorem d_Mod_init_44 : decode b_Mod_init 44 = .ok (.iconst 4, 1) := by decide +kernel
theorem d_Mod_init_45 : decode b_Mod_init 45 = .ok (.newarray .boolean, 2) := by decide +kernel
theorem d_Mod_init_47 : decode b_Mod_init 47 = .ok (.putfield 26, 3) := by decide +kernel
theorem d_Mod_init_50 : decode b_Mod_init 50 = .ok (.aload_n 0, 1) := by decide +kernel
theorem d_Mod_init_51 : decode b_Mod_init 51 = .ok (.iconst 4, 1) := by decide +kernel
theorem d_Mod_init_52 : decode b_Mod_init 52 = .ok (.newarray .int, 2) := by decide +kernel
theorem d_Mod_init_54 : decode b_Mod_init 54 = .ok (.putfield 30, 3) := by decide +kernel
theorem d_Mod_init_57 : decode b_Mod_init 57 = .ok (.aload_n 0, 1) := by decide +kernel
theorem d_Mod_init_58 : decode b_Mod_init 58 = .ok (.iconst 4, 1) := by decide +kernel
theorem d_Mod_init_59 : decode b_Mod_init 59 = .ok (.newarray .int, 2) := by decide +kernel
theorem d_Mod_init_61 : decode b_Mod_init 61 = .ok (.putfield 33, 3) := by decide +kernel
theorem d_Mod_init_64 : decode b_Mod_init 64 = .ok (.aload_n 0, 1) := by decide +kernel
theorem d_Mod_init_65 : decode b_Mod_init 65 = .ok (.bipush 32, 2) := by decide +kernel
theorem d_Mod_init_67 : decode b_Mod_init 67 = .ok (.newarray .boolean, 2) := by decide +kernel
theorem d_Mod_init_69 : decode b_Mod_init 69 = .ok (.putfield 36, 3) := by decide +kernel
theorem d_Mod_init_72 : decode b_Mod_init 72 = .ok (.aload_n 0, 1) := by decide +kernel
theorem d_Mod_init_73 : decode b_Mod_init 73 = .ok (.bipush 32, 2) := by decide +kernel
theorem d_Mod_init_75 : decode b_Mod_init 75 = .ok (.newarray .int, 2) := by decide +kernel
theorem d_Mod_init_77 : decode b_Mod_init 77 = .ok (.putfield 39, 3) := by decide +kernel
theorem d_Mod_init_80 : decode b_Mod_init 80 = .ok (.aload_n 0, 1) := by decide +kernel
theorem d_Mod_init_81 : decode b_Mod_init 81 = .ok (.bipush 32, 2) := by decide +kernel
theorem d_Mod_init_83 : decode b_Mod_init 83 = .ok (.newarray .boolean, 2) := by decide +kernel
theorem d_Mod_init_85 : decode b_Mod_init 85 = .ok (.putfield 42, 3) := by decide +kernel
theorem d_Mod_init_88 : decode b_Mod_init 88 = .ok (.aload_n 0, 1) := by decide +kernel
theorem d_Mod_init_89 : decode b_Mod_init 89 = .ok (.bipush 32, 2) := by decide +kernel
theorem d_Mod_init_91 : decode b_Mod_init 91 = .ok (.newarray .int, 2) := by decide +kernel
theorem d_Mod_init_93 : decode b_Mod_init 93 = .ok (.putfield 45, 3) := by decide +kernel
theorem d_Mod_init_96 : decode b_Mod_init 96 = .ok (.aload_n 0, 1) := by decide +kernel
theorem d_Mod_init_97 : decode b_Mod_init 97 = .ok (.bipush 32, 2) := by decide +kernel
theorem d_Mod_init_99 : decode b_Mod_init 99 = .ok (.newarray .int, 2) := by decide +kernel
theorem d_Mod_init_101 : decode b_Mod_init 101 = .ok (.putfield 48, 3) := by decide +kernel
theorem d_Mod_init_104 : decode b_Mod_init 104 = .ok (.aload_n 0, 1) := by decide +kernel
theorem d_Mod_init_105 : decode b_Mod_init 105 = .ok (.bipush 32, 2) := by decide +kernel
theorem d_Mod_init_107 : decode b_Mod_init 107 = .ok (.newarray .int, 2) := by decide +kernel
theorem d_Mod_init_109 : decode b_Mod_init 109 = .ok (.putfield 51, 3) := by decide +kernel
theorem d_Mod_init_112 : decode b_Mod_init 112 = .ok (.aload_n 0, 1) := by decide +kernel
theorem d_Mod_init_113 : decode b_Mod_init 113 = .ok (.bipush 32, 2) := by decide +kernel
theorem d_Mod_init_115 : decode b_Mod_init 115 = .ok (.newarray .int, 2) := by decide +kernel
theorem d_Mod_init_117 : decode b_Mod_init 117 = .ok (.putfield 54, 3) := by decide +kernel
theorem d_Mod_init_120 : decode b_Mod_init 120 = .ok (.aload_n 0, 1) := by decide +kernel
theorem d_Mod_init_121 : decode b_Mod_init 121 = .ok (.bipush 32, 2) := by decide +kernel
theorem d_Mod_init_123 : decode b_Mod_init 123 = .ok (.newarray .int, 2) := by decide +kernel
theorem d_Mod_init_125 : decode b_Mod_init 125 = .ok (.putfield 57, 3) := by decide +kernel
theorem d_Mod_init_128 : decode b_Mod_init 128 = .ok (.aload_n 0, 1) := by decide +kernel
theorem d_Mod_init_129 : decode b_Mod_init 129 = .ok (.bipush 8, 2) := by decide +kernel
theorem d_Mod_init_131 : decode b_Mod_init 131 = .ok (.newarray .boolean, 2) := by decide +kernel
theorem d_Mod_init_133 : decode b_Mod_init 133 = .ok (.putfield 60, 3) := by decide +kernel
theorem d_Mod_init_136 : decode b_Mod_init 136 = .ok (.aload_n 0, 1) := by decide +kernel
theorem d_Mod_init_137 : decode b_Mod_init 137 = .ok (.bipush 8, 2) := by decide +kernel
theorem d_Mod_init_139 : decode b_Mod_init 139 = .ok (.newarray .int, 2) := by decide +kernel
theorem d_Mod_init_141 : decode b_Mod_init 141 = .ok (.putfield 63, 3) := by decide +kernel
theorem d_Mod_init_144 : decode b_Mod_init 144 = .ok (.aload_n 0, 1) := by decide +kernel
theorem d_Mod_init_145 : decode b_Mod_init 145 = .ok (.bipush 80, 2) := by decide +kernel
theorem d_Mod_init_147 : decode b_Mod_init 147 = .ok (.newarray .boolean, 2) := by decide +kernel
theorem d_Mod_init_149 : decode b_Mod_init 149 = .ok (.putfield 66, 3) := by decide +kernel
theorem d_Mod_init_152 : decode b_Mod_init 152 = .ok (.aload_n 0, 1) := by decide +kernel
theorem d_Mod_init_153 : decode b_Mod_init 153 = .ok (.bipush 80, 2) := by decide +kernel
theorem d_Mod_init_155 : decode b_Mod_init 155 = .ok (.newarray .int, 2) := by decide +kernel
theorem d_Mod_init_157 : decode b_Mod_init 157 = .ok (.putfield 69, 3) := by decide +kernel
theorem d_Mod_init_160 : decode b_Mod_init 160 = .ok (.aload_n 0, 1) := by decide +kernel
theorem d_Mod_init_161 : decode b_Mod_init 161 = .ok (.bipush 80, 2) := by decide +kernel
theorem d_Mod_init_163 : decode b_Mod_init 163 = .ok (.newarray .int, 2) := by decide +kernel
theorem d_Mod_init_165 : decode b_Mod_init 165 = .ok (.putfield 72, 3) := by decide +kernel
theorem d_Mod_init_168 : decode b_Mod_init 168 = .ok (.aload_n 0, 1) := by decide +kernel
theorem d_Mod_init_169 : decode b_Mod_init 169 = .ok (.bipush 80, 2) := by decide +kernel
theorem d_Mod_init_171 : decode b_Mod_init 171 = .ok (.newarray .int, 2) := by decide +kernel
theorem d_Mod_init_173 : decode b_Mod_init 173 = .ok (.putfield 75, 3) := by decide +kernel
theorem d_Mod_init_176 : decode b_Mod_init 176 = .ok (.aload_n 0, 1) := by decide +kernel
theorem d_Mod_init_177 : decode b_Mod_init 177 = .ok (.bipush 80, 2) := by decide +kernel
theorem d_Mod_init_179 : decode b_Mod_init 179 = .ok (.newarray .int, 2) := by decide +kernel
theorem d_Mod_init_181 : decode b_Mod_init 181 = .ok (.putfield 78, 3) := by decide +kernel
theorem d_Mod_init_184 : decode b_Mod_init 184 = .ok (.aload_n 0, 1) := by decide +kernel
theorem d_Mod_init_185 : decode b_Mod_init 185 = .ok (.iconst 5, 1) := by decide +kernel
theorem d_Mod_init_186 : decode b_Mod_init 186 = .ok (.newarray .int, 2) := by decide +kernel
theorem d_Mod_init_188 : decode b_Mod_init 188 = .ok (.putfield 81, 3) := by decide +kernel
theorem d_Mod_init_191 : decode b_Mod_init 191 = .ok (.aload_n 0, 1) := by decide +kernel
theorem d_Mod_init_192 : decode b_Mod_init 192 = .ok (.iconst (-1), 1) := by decide +kernel
theorem d_Mod_init_193 : decode b_Mod_init 193 = .ok (.putfield 84, 3) := by decide +kernel
theorem d_Mod_init_196 : decode b_Mod_init 196 = .ok (.aload_n 0, 1) := by decide +kernel
theorem d_Mod_init_197 : decode b_Mod_init 197 = .ok (.iconst (-1), 1) := by decide +kernel
theorem d_Mod_init_198 : decode b_Mod_init 198 = .ok (.putfield 88, 3) := by decide +kernel
theorem d_Mod_init_201 : decode b_Mod_init 201 = .ok (.aload_n 0, 1) := by decide +kernel
theorem d_Mod_init_202 : decode b_Mod_init 202 = .ok (.iconst (-1), 1) := by decide +kernel
theorem d_Mod_init_203 : decode b_Mod_init 203 = .ok (.putfield 91, 3) := by decide +kernel
theorem d_Mod_init_206 : decode b_Mod_init 206 = .ok (.aload_n 0, 1) := by decide +kernel
theorem d_Mod_init_207 : decode b_Mod_init 207 = .ok (.iconst 5, 1) := by decide +kernel
theorem d_Mod_init_208 : decode b_Mod_init 208 = .ok (.newarray .int, 2) := by decide +kernel
theorem d_Mod_init_210 : decode b_Mod_init 210 = .ok (.putfield 94, 3) := by decide +kernel
theorem d_Mod_init_213 : decode b_Mod_init 213 = .ok (.aload_n 0, 1) := by decide +kernel
theorem d_Mod_init_214 : decode b_Mod_init 214 = .ok (.iload_n 1, 1) := by decide +kernel
theorem d_Mod_init_215 : decode b_Mod_init 215 = .ok (.iconst 1, 1) := by decide +kernel
theorem d_Mod_init_216 : decode b_Mod_init 216 = .ok (.iconst 4, 1) := by decide +kernel
theorem d_Mod_init_217 : decode b_Mod_init 217 = .ok (.invokestatic 97, 3) := by decide +kernel
theorem d_Mod_init_220 : decode b_Mod_init 220 = .ok (.putfield 101, 3) := by decide +kernel
theorem d_Mod_init_223 : decode b_Mod_init 223 = .ok (.aload_n 0, 1) := by decide +kernel
theorem d_Mod_init_224 : decode b_Mod_init 224 = .ok (.iload_n 2, 1) := by decide +kernel
theorem d_Mod_init_225 : decode b_Mod_init 225 = .ok (.iconst 1, 1) := by decide +kernel
theorem d_Mod_init_226 : decode b_Mod_init 226 = .ok (.bipush 8, 2) := by decide +kernel
theorem d_Mod_init_228 : decode b_Mod_init 228 = .ok (.invokestatic 97, 3) := by decide +kernel
theorem d_Mod_init_231 : decode b_Mod_init 231 = .ok (.putfield 104, 3) := by decide +kernel
theorem d_Mod_init_234 : decode b_Mod_init 234 = .ok (.aload_n 0, 1) := by decide +kernel
theorem d_Mod_init_235 : decode b_Mod_init 235 = .ok (.iload_n 3, 1) := by decide +kernel
theorem d_Mod_init_236 : decode b_Mod_init 236 = .ok (.bipush 7, 2) := by decide +kernel
theorem d_Mod_init_238 : decode b_Mod_init 238 = .ok (.bipush 101, 2) := by decide +kernel
theorem d_Mod_init_240 : decode b_Mod_init 240 = .ok (.invokestatic 97, 3) := by decide +kernel
theorem d_Mod_init_243 : decode b_Mod_init 243 = .ok (.putfield 107, 3) := by decide +kernel
theorem d_Mod_init_246 : decode b_Mod_init 246 = .ok (.aload_n 0, 1) := by decide +kernel
theorem d_Mod_init_247 : decode b_Mod_init 247 = .ok (.getfield 107, 3) := by decide +kernel
theorem d_Mod_init_250 : decode b_Mod_init 250 = .ok (.invokestatic 110, 3) := by decide +kernel
theorem d_Mod_init_253 : decode b_Mod_init 253 = .ok (.ifCond .ne 25, 3) := by decide +kernel
theorem d_Mod_init_256 : decode b_Mod_init 256 = .ok (.aload_n 0, 1) := by decide +kernel
theorem d_Mod_init_257 : decode b_Mod_init 257 = .ok (.getfield 107, 3) := by decide +kernel
theorem d_Mod_init_260 : decode b_Mod_init 260 = .ok (.bipush 101, 2) := by decide +kernel
theorem d_Mod_init_262 : decode b_Mod_init 262 = .ok (.if_icmp .ge 16, 3) := by decide +kernel
theorem d_Mod_init_265 : decode b_Mod_init 265 = .ok (.aload_n 0, 1) := by decide +kernel
theorem d_Mod_init_266 : decode b_Mod_init 266 = .ok (.aload_n 0, 1) := by decide +kernel
theorem d_Mod_init_267 : decode b_Mod_init 267 = .ok (.getfield 107, 3) := by decide +kernel
theorem d_Mod_init_270 : decode b_Mod_init 270 = .ok (.iconst 1, 1) := by decide +kernel
theorem d_Mod_init_271 : decode b_Mod_init 271 = .ok (.iadd, 1) := by decide +kernel
theorem d_Mod_init_272 : decode b_Mod_init 272 = .ok (.putfield 107, 3) := by decide +kernel
theorem d_Mod_init_275 : decode b_Mod_init 275 = .ok (.goto (-29), 3) := by decide +kernel
theorem d_Mod_init_278 : decode b_Mod_init 278 = .ok (.aload_n 0, 1) := by decide +kernel
theorem d_Mod_init_279 : decode b_Mod_init 279 = .ok (.iload 4, 2) := by decide +kernel
theorem d_Mod_init_281 : decode b_Mod_init 281 = .ok (.i2l, 1) := by decide +kernel
theorem d_Mod_init_282 : decode b_Mod_init 282 = .ok (.putfield 114, 3) := by decide +kernel
theorem d_Mod_init_285 : decode b_Mod_init 285 = .ok (.aload_n 0, 1) := by decide +kernel
theorem d_Mod_init_286 : decode b_Mod_init 286 = .ok (.aload_n 0, 1) := by decide +kernel
theorem d_Mod_init_287 : decode b_Mod_init 287 = .ok (.getfield 114, 3) := by decide +kernel
theorem d_Mod_init_290 : decode b_Mod_init 290 = .ok (.ldc2_w 118, 3) := by decide +kernel
theorem d_Mod_init_293 : decode b_Mod_init 293 = .ok (.lxor, 1) := by decide +kernel
theorem d_Mod_init_294 : decode b_Mod_init 294 = .ok (.putfield 120, 3) := by decide +kernel
theorem d_Mod_init_297 : decode b_Mod_init 297 = .ok (.iconst 0, 1) := by decide +kernel
theorem d_Mod_init_298 : decode b_Mod_init 298 = .ok (.istore 5, 2) := by decide +kernel
theorem d_Mod_init_300 : decode b_Mod_init 300 = .ok (.iload 5, 2) := by decide +kernel
theorem d_Mod_init_302 : decode b_Mod_init 302 = .ok (.aload_n 0, 1) := by decide +kernel
theorem d_Mod_init_303 : decode b_Mod_init 303 = .ok (.getfield 101, 3) := by decide +kernel
theorem d_Mod_init_306 : decode b_Mod_init 306 = .ok (.if_icmp .ge 26, 3) := by decide +kernel
theorem d_Mod_init_309 : decode b_Mod_init 309 = .ok (.aload_n 0, 1) := by decide +kernel
theorem d_Mod_init_310 : decode b_Mod_init 310 = .ok (.getfield 26, 3) := by decide +kernel
theorem d_Mod_init_313 : decode b_Mod_init 313 = .ok (.iload 5, 2) := by decide +kernel
theorem d_Mod_init_315 : decode b_Mod_init 315 = .ok (.iconst 1, 1) := by decide +kernel
theorem d_Mod_init_316 : decode b_Mod_init 316 = .ok (.bastore, 1) := by decide +kernel
theorem d_Mod_init_317 : decode b_Mod_init 317 = .ok (.aload_n 0, 1) := by decide +kernel
theorem d_Mod_init_318 : decode b_Mod_init 318 = .ok (.getfield 30, 3) := by decide +kernel
theorem d_Mod_init_321 : decode b_Mod_init 321 = .ok (.iload 5, 2) := by decide +kernel
theorem d_Mod_init_323 : decode b_Mod_init 323 = .ok (.ldc 123, 2) := by decide +kernel
theorem d_Mod_init_325 : decode b_Mod_init 325 = .ok (.iastore, 1) := by decide +kernel
theorem d_Mod_init_326 : decode b_Mod_init 326 = .ok (.iinc 5 1, 3) := by decide +kernel
theorem d_Mod_init_329 : decode b_Mod_init 329 = .ok (.goto (-29), 3) := by decide +kernel
theorem d_Mod_init_332 : decode b_Mod_init 332 = .ok (.iconst 0, 1) := by decide +kernel
theorem d_Mod_init_333 : decode b_Mod_init 333 = .ok (.istore 5, 2) := by decide +kernel
theorem d_Mod_init_335 : decode b_Mod_init 335 = .ok (.iload 5, 2) := by decide +kernel
theorem d_Mod_init_337 : decode b_Mod_init 337 = .ok (.aload_n 0, 1) := by decide +kernel
theorem d_Mod_init_338 : decode b_Mod_init 338 = .ok (.getfield 104, 3) := by decide +kernel
theorem d_Mod_init_341 : decode b_Mod_init 341 = .ok (.if_icmp .ge 60, 3) := by decide +kernel
theorem d_Mod_init_344 : decode b_Mod_init 344 = .ok (.aload_n 0, 1) := by decide +kernel
theorem d_Mod_init_345 : decode b_Mod_init 345 = .ok (.iload 5, 2) := by decide +kernel
theorem d_Mod_init_347 : decode b_Mod_init 347 = .ok (.i2l, 1) := by decide +kernel
theorem d_Mod_init_348 : decode b_Mod_init 348 = .ok (.invokevirtual 124, 3) := by decide +kernel
theorem d_Mod_init_351 : decode b_Mod_init 351 = .ok (.lstore 6, 2) := by decide +kernel
theorem d_Mod_init_353 : decode b_Mod_init 353 = .ok (.aload_n 0, 1) := by decide +kernel
theorem d_Mod_init_354 : decode b_Mod_init 354 = .ok (.getfield 13, 3) := by decide +kernel
theorem d_Mod_init_357 : decode b_Mod_init 357 = .ok (.iload 5, 2) := by decide +kernel
theorem d_Mod_init_359 : decode b_Mod_init 359 = .ok (.lload 6, 2) := by decide +kernel
theorem d_Mod_init_361 : decode b_Mod_init 361 = .ok (.invokestatic 128, 3) := by decide +kernel
theorem d_Mod_init_364 : decode b_Mod_init 364 = .ok (.aload_n 0, 1) := by decide +kernel
theorem d_Mod_init_365 : decode b_Mod_init 365 = .ok (.getfield 107, 3) := by decide +kernel
theorem d_Mod_init_368 : decode b_Mod_init 368 = .ok (.i2l, 1) := by decide +kernel
theorem d_Mod_init_369 : decode b_Mod_init 369 = .ok (.lrem, 1) := by decide +kernel
theorem d_Mod_init_370 : decode b_Mod_init 370 = .ok (.l2i, 1) := by decide +kernel
theorem d_Mod_init_371 : decode b_Mod_init 371 = .ok (.iastore, 1) := by decide +kernel
theorem d_Mod_init_372 : decode b_Mod_init 372 = .ok (.aload_n 0, 1) := by decide +kernel
theorem d_Mod_init_373 : decode b_Mod_init 373 = .ok (.getfield 17, 3) := by decide +kernel
theorem d_Mod_init_376 : decode b_Mod_init 376 = .ok (.iload 5, 2) := by decide +kernel
theorem d_Mod_init_378 : decode b_Mod_init 378 = .ok (.iconst 1, 1) := by decide +kernel
theorem d_Mod_init_379 : decode b_Mod_init 379 = .ok (.lload 6, 2) := by decide +kernel
theorem d_Mod_init_381 : decode b_Mod_init 381 = .ok (.invokestatic 131, 3) := by decide +kernel
theorem d_Mod_init_384 : decode b_Mod_init 384 = .ok (.aload_n 0, 1) := by decide +kernel
theorem d_Mod_init_385 : decode b_Mod_init 385 = .ok (.getfield 107, 3) := by decide +kernel
theorem d_Mod_init_388 : decode b_Mod_init 388 = .ok (.iconst 1, 1) := by decide +kernel
theorem d_Mod_init_389 : decode b_Mod_init 389 = .ok (.isub, 1) := by decide +kernel
theorem d_Mod_init_390 : decode b_Mod_init 390 = .ok (.i2l, 1) := by decide +kernel
theorem d_Mod_init_391 : decode b_Mod_init 391 = .ok (.lrem, 1) := by decide +kernel
theorem d_Mod_init_392 : decode b_Mod_init 392 = .ok (.l2i, 1) := by decide +kernel
theorem d_Mod_init_393 : decode b_Mod_init 393 = .ok (.iadd, 1) := by decide +kernel
theorem d_Mod_init_394 : decode b_Mod_init 394 = .ok (.iastore, 1) := by decide +kernel
theorem d_Mod_init_395 : decode b_Mod_init 395 = .ok (.iinc 5 1, 3) := by decide +kernel
theorem d_Mod_init_398 : decode b_Mod_init 398 = .ok (.goto (-63), 3) := by decide +kernel
theorem d_Mod_init_401 : decode b_Mod_init 401 = .ok (.return_, 1) := by decide +kernel
