theorem d_Law_law_0 : decode code 0 = .ok (.new 7, 3) := by decide +kernel
theorem d_Law_law_3 : decode code 3 = .ok (.dup, 1) := by decide +kernel
theorem d_Law_law_4 : decode code 4 = .ok (.aload_n 0, 1) := by decide +kernel
theorem d_Law_law_5 : decode code 5 = .ok (.iconst 0, 1) := by decide +kernel
theorem d_Law_law_6 : decode code 6 = .ok (.invokestatic 9, 3) := by decide +kernel
theorem d_Law_law_9 : decode code 9 = .ok (.aload_n 0, 1) := by decide +kernel
theorem d_Law_law_10 : decode code 10 = .ok (.iconst 1, 1) := by decide +kernel
theorem d_Law_law_11 : decode code 11 = .ok (.invokestatic 9, 3) := by decide +kernel
theorem d_Law_law_14 : decode code 14 = .ok (.aload_n 0, 1) := by decide +kernel
theorem d_Law_law_15 : decode code 15 = .ok (.iconst 2, 1) := by decide +kernel
theorem d_Law_law_16 : decode code 16 = .ok (.invokestatic 9, 3) := by decide +kernel
theorem d_Law_law_19 : decode code 19 = .ok (.aload_n 0, 1) := by decide +kernel
theorem d_Law_law_20 : decode code 20 = .ok (.iconst 3, 1) := by decide +kernel
theorem d_Law_law_21 : decode code 21 = .ok (.invokestatic 9, 3) := by decide +kernel
theorem d_Law_law_24 : decode code 24 = .ok (.invokespecial 15, 3) := by decide +kernel
theorem d_Law_law_27 : decode code 27 = .ok (.astore_n 1, 1) := by decide +kernel
theorem d_Law_law_28 : decode code 28 = .ok (.new 18, 3) := by decide +kernel
theorem d_Law_law_31 : decode code 31 = .ok (.dup, 1) := by decide +kernel
theorem d_Law_law_32 : decode code 32 = .ok (.aload_n 0, 1) := by decide +kernel
theorem d_Law_law_33 : decode code 33 = .ok (.iconst 0, 1) := by decide +kernel
theorem d_Law_law_34 : decode code 34 = .ok (.invokestatic 9, 3) := by decide +kernel
theorem d_Law_law_37 : decode code 37 = .ok (.aload_n 0, 1) := by decide +kernel
theorem d_Law_law_38 : decode code 38 = .ok (.iconst 1, 1) := by decide +kernel
theorem d_Law_law_39 : decode code 39 = .ok (.invokestatic 9, 3) := by decide +kernel
theorem d_Law_law_42 : decode code 42 = .ok (.aload_n 0, 1) := by decide +kernel
theorem d_Law_law_43 : decode code 43 = .ok (.iconst 2, 1) := by decide +kernel
theorem d_Law_law_44 : decode code 44 = .ok (.invokestatic 9, 3) := by decide +kernel
theorem d_Law_law_47 : decode code 47 = .ok (.aload_n 0, 1) := by decide +kernel
theorem d_Law_law_48 : decode code 48 = .ok (.iconst 3, 1) := by decide +kernel
theorem d_Law_law_49 : decode code 49 = .ok (.invokestatic 9, 3) := by decide +kernel
theorem d_Law_law_52 : decode code 52 = .ok (.invokespecial 20, 3) := by decide +kernel
theorem d_Law_law_55 : decode code 55 = .ok (.astore_n 2, 1) := by decide +kernel
theorem d_Law_law_56 : decode code 56 = .ok (.iconst 4, 1) := by decide +kernel
theorem d_Law_law_57 : decode code 57 = .ok (.istore_n 3, 1) := by decide +kernel
theorem d_Law_law_58 : decode code 58 = .ok (.iload_n 3, 1) := by decide +kernel
theorem d_Law_law_59 : decode code 59 = .ok (.aload_n 0, 1) := by decide +kernel
theorem d_Law_law_60 : decode code 60 = .ok (.arraylength, 1) := by decide +kernel
theorem d_Law_law_61 : decode code 61 = .ok (.bipush 6, 2) := by decide +kernel
theorem d_Law_law_63 : decode code 63 = .ok (.isub, 1) := by decide +kernel
theorem d_Law_law_64 : decode code 64 = .ok (.if_icmp .gt 772, 3) := by decide +kernel
theorem d_Law_law_67 : decode code 67 = .ok (.aload_n 0, 1) := by decide +kernel
theorem d_Law_law_68 : decode code 68 = .ok (.iload_n 3, 1) := by decide +kernel
theorem d_Law_law_69 : decode code 69 = .ok (.iaload, 1) := by decide +kernel
theorem d_Law_law_70 : decode code 70 = .ok (.bipush 31, 2) := by decide +kernel
theorem d_Law_law_72 : decode code 72 = .ok (.iand, 1) := by decide +kernel
theorem d_Law_law_73 : decode code 73 = .ok (.tableswitch 757 0 18 #[91, 154, 217, 260, 273, 286, 299, 322, 356, 389, 422, 445, 494, 543, 602, 625, 658, 681, 724], 91) := by decide +kernel
theorem d_Law_law_164 : decode code 164 = .ok (.aload_n 1, 1) := by decide +kernel
theorem d_Law_law_165 : decode code 165 = .ok (.aload_n 0, 1) := by decide +kernel
theorem d_Law_law_166 : decode code 166 = .ok (.iload_n 3, 1) := by decide +kernel
theorem d_Law_law_167 : decode code 167 = .ok (.iconst 1, 1) := by decide +kernel
theorem d_Law_law_168 : decode code 168 = .ok (.iadd, 1) := by decide +kernel
theorem d_Law_law_169 : decode code 169 = .ok (.iaload, 1) := by decide +kernel
theorem d_Law_law_170 : decode code 170 = .ok (.aload_n 0, 1) := by decide +kernel
theorem d_Law_law_171 : decode code 171 = .ok (.iload_n 3, 1) := by decide +kernel
theorem d_Law_law_172 : decode code 172 = .ok (.iconst 2, 1) := by decide +kernel
theorem d_Law_law_173 : decode code 173 = .ok (.iadd, 1) := by decide +kernel
theorem d_Law_law_174 : decode code 174 = .ok (.iaload, 1) := by decide +kernel
theorem d_Law_law_175 : decode code 175 = .ok (.aload_n 0, 1) := by decide +kernel
theorem d_Law_law_176 : decode code 176 = .ok (.iload_n 3, 1) := by decide +kernel
theorem d_Law_law_177 : decode code 177 = .ok (.iconst 3, 1) := by decide +kernel
theorem d_Law_law_178 : decode code 178 = .ok (.iadd, 1) := by decide +kernel
theorem d_Law_law_179 : decode code 179 = .ok (.iaload, 1) := by decide +kernel
theorem d_Law_law_180 : decode code 180 = .ok (.aload_n 0, 1) := by decide +kernel
theorem d_Law_law_181 : decode code 181 = .ok (.iload_n 3, 1) := by decide +kernel
theorem d_Law_law_182 : decode code 182 = .ok (.iconst 4, 1) := by decide +kernel
theorem d_Law_law_183 : decode code 183 = .ok (.iadd, 1) := by decide +kernel
theorem d_Law_law_184 : decode code 184 = .ok (.iaload, 1) := by decide +kernel
theorem d_Law_law_185 : decode code 185 = .ok (.aload_n 0, 1) := by decide +kernel
theorem d_Law_law_186 : decode code 186 = .ok (.iload_n 3, 1) := by decide +kernel
theorem d_Law_law_187 : decode code 187 = .ok (.iconst 5, 1) := by decide +kernel
theorem d_Law_law_188 : decode code 188 = .ok (.iadd, 1) := by decide +kernel
theorem d_Law_law_189 : decode code 189 = .ok (.iaload, 1) := by decide +kernel
theorem d_Law_law_190 : decode code 190 = .ok (.invokevirtual 21, 3) := by decide +kernel
theorem d_Law_law_193 : decode code 193 = .ok (.aload_n 2, 1) := by decide +kernel
theorem d_Law_law_194 : decode code 194 = .ok (.aload_n 0, 1) := by decide +kernel
theorem d_Law_law_195 : decode code 195 = .ok (.iload_n 3, 1) := by decide +kernel
theorem d_Law_law_196 : decode code 196 = .ok (.iconst 1, 1) := by decide +kernel
theorem d_Law_law_197 : decode code 197 = .ok (.iadd, 1) := by decide +kernel
theorem d_Law_law_198 : decode code 198 = .ok (.iaload, 1) := by decide +kernel
theorem d_Law_law_199 : decode code 199 = .ok (.aload_n 0, 1) := by decide +kernel
theorem d_Law_law_200 : decode code 200 = .ok (.iload_n 3, 1) := by decide +kernel
theorem d_Law_law_201 : decode code 201 = .ok (.iconst 2, 1) := by decide +kernel
theorem d_Law_law_202 : decode code 202 = .ok (.iadd, 1) := by decide +kernel
theorem d_Law_law_203 : decode code 203 = .ok (.iaload, 1) := by decide +kernel
theorem d_Law_law_204 : decode code 204 = .ok (.aload_n 0, 1) := by decide +kernel
theorem d_Law_law_205 : decode code 205 = .ok (.iload_n 3, 1) := by decide +kernel
theorem d_Law_law_206 : decode code 206 = .ok (.iconst 3, 1) := by decide +kernel
theorem d_Law_law_207 : decode code 207 = .ok (.iadd, 1) := by decide +kernel
theorem d_Law_law_208 : decode code 208 = .ok (.iaload, 1) := by decide +kernel
theorem d_Law_law_209 : decode code 209 = .ok (.aload_n 0, 1) := by decide +kernel
theorem d_Law_law_210 : decode code 210 = .ok (.iload_n 3, 1) := by decide +kernel
theorem d_Law_law_211 : decode code 211 = .ok (.iconst 4, 1) := by decide +kernel
theorem d_Law_law_212 : decode code 212 = .ok (.iadd, 1) := by decide +kernel
theorem d_Law_law_213 : decode code 213 = .ok (.iaload, 1) := by decide +kernel
theorem d_Law_law_214 : decode code 214 = .ok (.aload_n 0, 1) := by decide +kernel
theorem d_Law_law_215 : decode code 215 = .ok (.iload_n 3, 1) := by decide +kernel
theorem d_Law_law_216 : decode code 216 = .ok (.iconst 5, 1) := by decide +kernel
theorem d_Law_law_217 : decode code 217 = .ok (.iadd, 1) := by decide +kernel
theorem d_Law_law_218 : decode code 218 = .ok (.iaload, 1) := by decide +kernel
theorem d_Law_law_219 : decode code 219 = .ok (.invokevirtual 25, 3) := by decide +kernel
theorem d_Law_law_222 : decode code 222 = .ok (.if_icmp .eq 608, 3) := by decide +kernel
theorem d_Law_law_225 : decode code 225 = .ok (.iconst 0, 1) := by decide +kernel
theorem d_Law_law_226 : decode code 226 = .ok (.ireturn, 1) := by decide +kernel
theorem d_Law_law_227 : decode code 227 = .ok (.aload_n 1, 1) := by decide +kernel
theorem d_Law_law_228 : decode code 228 = .ok (.aload_n 0, 1) := by decide +kernel
theorem d_Law_law_229 : decode code 229 = .ok (.iload_n 3, 1) := by decide +kernel
theorem d_Law_law_230 : decode code 230 = .ok (.iconst 1, 1) := by decide +kernel
theorem d_Law_law_231 : decode code 231 = .ok (.iadd, 1) := by decide +kernel
theorem d_Law_law_232 : decode code 232 = .ok (.iaload, 1) := by decide +kernel
theorem d_Law_law_233 : decode code 233 = .ok (.aload_n 0, 1) := by decide +kernel
theorem d_Law_law_234 : decode code 234 = .ok (.iload_n 3, 1) := by decide +kernel
theorem d_Law_law_235 : decode code 235 = .ok (.iconst 2, 1) := by decide +kernel
theorem d_Law_law_236 : decode code 236 = .ok (.iadd, 1) := by decide +kernel
theorem d_Law_law_237 : decode code 237 = .ok (.iaload, 1) := by decide +kernel
theorem d_Law_law_238 : decode code 238 = .ok (.aload_n 0, 1) := by decide +kernel
theorem d_Law_law_239 : decode code 239 = .ok (.iload_n 3, 1) := by decide +kernel
theorem d_Law_law_240 : decode code 240 = .ok (.iconst 3, 1) := by decide +kernel
theorem d_Law_law_241 : decode code 241 = .ok (.iadd, 1) := by decide +kernel
theorem d_Law_law_242 : decode code 242 = .ok (.iaload, 1) := by decide +kernel
theorem d_Law_law_243 : decode code 243 = .ok (.aload_n 0, 1) := by decide +kernel
theorem d_Law_law_244 : decode code 244 = .ok (.iload_n 3, 1) := by decide +kernel
theorem d_Law_law_245 : decode code 245 = .ok (.iconst 4, 1) := by decide +kernel
theorem d_Law_law_246 : decode code 246 = .ok (.iadd, 1) := by decide +kernel
theorem d_Law_law_247 : decode code 247 = .ok (.iaload, 1) := by decide +kernel
theorem d_Law_law_248 : decode code 248 = .ok (.aload_n 0, 1) := by decide +kernel
theorem d_Law_law_249 : decode code 249 = .ok (.iload_n 3, 1) := by decide +kernel
theorem d_Law_law_250 : decode code 250 = .ok (.iconst 5, 1) := by decide +kernel
theorem d_Law_law_251 : decode code 251 = .ok (.iadd, 1) := by decide +kernel
theorem d_Law_law_252 : decode code 252 = .ok (.iaload, 1) := by decide +kernel
theorem d_Law_law_253 : decode code 253 = .ok (.invokevirtual 26, 3) := by decide +kernel
theorem d_Law_law_256 : decode code 256 = .ok (.aload_n 2, 1) := by decide +kernel
theorem d_Law_law_257 : decode code 257 = .ok (.aload_n 0, 1) := by decide +kernel
theorem d_Law_law_258 : decode code 258 = .ok (.iload_n 3, 1) := by decide +kernel
theorem d_Law_law_259 : decode code 259 = .ok (.iconst 1, 1) := by decide +kernel
theorem d_Law_law_260 : decode code 260 = .ok (.iadd, 1) := by decide +kernel
theorem d_Law_law_261 : decode code 261 = .ok (.iaload, 1) := by decide +kernel
theorem d_Law_law_262 : decode code 262 = .ok (.aload_n 0, 1) := by decide +kernel
theorem d_Law_law_263 : decode code 263 = .ok (.iload_n 3, 1) := by decide +kernel
theorem d_Law_law_264 : decode code 264 = .ok (.iconst 2, 1) := by decide +kernel
theorem d_Law_law_265 : decode code 265 = .ok (.iadd, 1) := by decide +kernel
theorem d_Law_law_266 : decode code 266 = .ok (.iaload, 1) := by decide +kernel
theorem d_Law_law_267 : decode code 267 = .ok (.aload_n 0, 1) := by decide +kernel
theorem d_Law_law_268 : decode code 268 = .ok (.iload_n 3, 1) := by decide +kernel
theorem d_Law_law_269 : decode code 269 = .ok (.iconst 3, 1) := by decide +kernel
theorem d_Law_law_270 : decode code 270 = .ok (.iadd, 1) := by decide +kernel
theorem d_Law_law_271 : decode code 271 = .ok (.iaload, 1) := by decide +kernel
theorem d_Law_law_272 : decode code 272 = .ok (.aload_n 0, 1) := by decide +kernel
theorem d_Law_law_273 : decode code 273 = .ok (.iload_n 3, 1) := by decide +kernel
theorem d_Law_law_274 : decode code 274 = .ok (.iconst 4, 1) := by decide +kernel
theorem d_Law_law_275 : decode code 275 = .ok (.iadd, 1) := by decide +kernel
theorem d_Law_law_276 : decode code 276 = .ok (.iaload, 1) := by decide +kernel
theorem d_Law_law_277 : decode code 277 = .ok (.aload_n 0, 1) := by decide +kernel
theorem d_Law_law_278 : decode code 278 = .ok (.iload_n 3, 1) := by decide +kernel
theorem d_Law_law_279 : decode code 279 = .ok (.iconst 5, 1) := by decide +kernel
theorem d_Law_law_280 : decode code 280 = .ok (.iadd, 1) := by decide +kernel
theorem d_Law_law_281 : decode code 281 = .ok (.iaload, 1) := by decide +kernel
theorem d_Law_law_282 : decode code 282 = .ok (.invokevirtual 29, 3) := by decide +kernel
theorem d_Law_law_285 : decode code 285 = .ok (.if_icmp .eq 545, 3) := by decide +kernel
theorem d_Law_law_288 : decode code 288 = .ok (.iconst 0, 1) := by decide +kernel
theorem d_Law_law_289 : decode code 289 = .ok (.ireturn, 1) := by decide +kernel
theorem d_Law_law_290 : decode code 290 = .ok (.aload_n 1, 1) := by decide +kernel
theorem d_Law_law_291 : decode code 291 = .ok (.aload_n 0, 1) := by decide +kernel
theorem d_Law_law_292 : decode code 292 = .ok (.iload_n 3, 1) := by decide +kernel
theorem d_Law_law_293 : decode code 293 = .ok (.iconst 1, 1) := by decide +kernel
theorem d_Law_law_294 : decode code 294 = .ok (.iadd, 1) := by decide +kernel
theorem d_Law_law_295 : decode code 295 = .ok (.iaload, 1) := by decide +kernel
theorem d_Law_law_296 : decode code 296 = .ok (.aload_n 0, 1) := by decide +kernel
theorem d_Law_law_297 : decode code 297 = .ok (.iload_n 3, 1) := by decide +kernel
theorem d_Law_law_298 : decode code 298 = .ok (.iconst 2, 1) := by decide +kernel
theorem d_Law_law_299 : decode code 299 = .ok (.iadd, 1) := by decide +kernel
theorem d_Law_law_300 : decode code 300 = .ok (.iaload, 1) := by decide +kernel
theorem d_Law_law_301 : decode code 301 = .ok (.aload_n 0, 1) := by decide +kernel
theorem d_Law_law_302 : decode code 302 = .ok (.iload_n 3, 1) := by decide +kernel
theorem d_Law_law_303 : decode code 303 = .ok (.iconst 3, 1) := by decide +kernel
theorem d_Law_law_304 : decode code 304 = .ok (.iadd, 1) := by decide +kernel
theorem d_Law_law_305 : decode code 305 = .ok (.iaload, 1) := by decide +kernel
theorem d_Law_law_306 : decode code 306 = .ok (.invokevirtual 30, 3) := by decide +kernel
theorem d_Law_law_309 : decode code 309 = .ok (.aload_n 2, 1) := by decide +kernel
theorem d_Law_law_310 : decode code 310 = .ok (.aload_n 0, 1) := by decide +kernel
theorem d_Law_law_311 : decode code 311 = .ok (.iload_n 3, 1) := by decide +kernel
theorem d_Law_law_312 : decode code 312 = .ok (.iconst 1, 1) := by decide +kernel
theorem d_Law_law_313 : decode code 313 = .ok (.iadd, 1) := by decide +kernel
theorem d_Law_law_314 : decode code 314 = .ok (.iaload, 1) := by decide +kernel
theorem d_Law_law_315 : decode code 315 = .ok (.aload_n 0, 1) := by decide +kernel
theorem d_Law_law_316 : decode code 316 = .ok (.iload_n 3, 1) := by decide +kernel
theorem d_Law_law_317 : decode code 317 = .ok (.iconst 2, 1) := by decide +kernel
theorem d_Law_law_318 : decode code 318 = .ok (.iadd, 1) := by decide +kernel
theorem d_Law_law_319 : decode code 319 = .ok (.iaload, 1) := by decide +kernel
theorem d_Law_law_320 : decode code 320 = .ok (.aload_n 0, 1) := by decide +kernel
theorem d_Law_law_321 : decode code 321 = .ok (.iload_n 3, 1) := by decide +kernel
theorem d_Law_law_322 : decode code 322 = .ok (.iconst 3, 1) := by decide +kernel
theorem d_Law_law_323 : decode code 323 = .ok (.iadd, 1) := by decide +kernel
theorem d_Law_law_324 : decode code 324 = .ok (.iaload, 1) := by decide +kernel
theorem d_Law_law_325 : decode code 325 = .ok (.invokevirtual 34, 3) := by decide +kernel
theorem d_Law_law_328 : decode code 328 = .ok (.if_icmp .eq 502, 3) := by decide +kernel
theorem d_Law_law_331 : decode code 331 = .ok (.iconst 0, 1) := by decide +kernel
theorem d_Law_law_332 : decode code 332 = .ok (.ireturn, 1) := by decide +kernel
theorem d_Law_law_333 : decode code 333 = .ok (.aload_n 1, 1) := by decide +kernel
theorem d_Law_law_334 : decode code 334 = .ok (.invokevirtual 35, 3) := by decide +kernel
theorem d_Law_law_337 : decode code 337 = .ok (.aload_n 2, 1) := by decide +kernel
theorem d_Law_law_338 : decode code 338 = .ok (.invokevirtual 39, 3) := by decide +kernel
theorem d_Law_law_341 : decode code 341 = .ok (.if_icmp .eq 489, 3) := by decide +kernel
theorem d_Law_law_344 : decode code 344 = .ok (.iconst 0, 1) := by decide +kernel
theorem d_Law_law_345 : decode code 345 = .ok (.ireturn, 1) := by decide +kernel
theorem d_Law_law_346 : decode code 346 = .ok (.aload_n 1, 1) := by decide +kernel
theorem d_Law_law_347 : decode code 347 = .ok (.invokevirtual 40, 3) := by decide +kernel
theorem d_Law_law_350 : decode code 350 = .ok (.aload_n 2, 1) := by decide +kernel
theorem d_Law_law_351 : decode code 351 = .ok (.invokevirtual 43, 3) := by decide +kernel
theorem d_Law_law_354 : decode code 354 = .ok (.if_icmp .eq 476, 3) := by decide +kernel
theorem d_Law_law_357 : decode code 357 = .ok (.iconst 0, 1) := by decide +kernel
theorem d_Law_law_358 : decode code 358 = .ok (.ireturn, 1) := by decide +kernel
theorem d_Law_law_359 : decode code 359 = .ok (.aload_n 1, 1) := by decide +kernel
theorem d_Law_law_360 : decode code 360 = .ok (.invokevirtual 44, 3) := by decide +kernel
theorem d_Law_law_363 : decode code 363 = .ok (.aload_n 2, 1) := by decide +kernel
theorem d_Law_law_364 : decode code 364 = .ok (.invokevirtual 47, 3) := by decide +kernel
theorem d_Law_law_367 : decode code 367 = .ok (.if_icmp .eq 463, 3) := by decide +kernel
theorem d_Law_law_370 : decode code 370 = .ok (.iconst 0, 1) := by decide +kernel
theorem d_Law_law_371 : decode code 371 = .ok (.ireturn, 1) := by decide +kernel
theorem d_Law_law_372 : decode code 372 = .ok (.aload_n 1, 1) := by decide +kernel
theorem d_Law_law_373 : decode code 373 = .ok (.aload_n 0, 1) := by decide +kernel
theorem d_Law_law_374 : decode code 374 = .ok (.iload_n 3, 1) := by decide +kernel
theorem d_Law_law_375 : decode code 375 = .ok (.iconst 1, 1) := by decide +kernel
theorem d_Law_law_376 : decode code 376 = .ok (.iadd, 1) := by decide +kernel
theorem d_Law_law_377 : decode code 377 = .ok (.iaload, 1) := by decide +kernel
theorem d_Law_law_378 : decode code 378 = .ok (.invokevirtual 48, 3) := by decide +kernel
theorem d_Law_law_381 : decode code 381 = .ok (.aload_n 2, 1) := by decide +kernel
theorem d_Law_law_382 : decode code 382 = .ok (.aload_n 0, 1) := by decide +kernel
theorem d_Law_law_383 : decode code 383 = .ok (.iload_n 3, 1) := by decide +kernel
theorem d_Law_law_384 : decode code 384 = .ok (.iconst 1, 1) := by decide +kernel
theorem d_Law_law_385 : decode code 385 = .ok (.iadd, 1) := by decide +kernel
theorem d_Law_law_386 : decode code 386 = .ok (.iaload, 1) := by decide +kernel
theorem d_Law_law_387 : decode code 387 = .ok (.invokevirtual 52, 3) := by decide +kernel
theorem d_Law_law_390 : decode code 390 = .ok (.if_icmp .eq 440, 3) := by decide +kernel
theorem d_Law_law_393 : decode code 393 = .ok (.iconst 0, 1) := by decide +kernel
theorem d_Law_law_394 : decode code 394 = .ok (.ireturn, 1) := by decide +kernel
theorem d_Law_law_395 : decode code 395 = .ok (.aload_n 1, 1) := by decide +kernel
theorem d_Law_law_396 : decode code 396 = .ok (.aload_n 0, 1) := by decide +kernel
theorem d_Law_law_397 : decode code 397 = .ok (.iload_n 3, 1) := by decide +kernel
theorem d_Law_law_398 : decode code 398 = .ok (.iconst 1, 1) := by decide +kernel
theorem d_Law_law_399 : decode code 399 = .ok (.iadd, 1) := by decide +kernel
theorem d_Law_law_400 : decode code 400 = .ok (.iaload, 1) := by decide +kernel
theorem d_Law_law_401 : decode code 401 = .ok (.aload_n 0, 1) := by decide +kernel
theorem d_Law_law_402 : decode code 402 = .ok (.iload_n 3, 1) := by decide +kernel
theorem d_Law_law_403 : decode code 403 = .ok (.iconst 2, 1) := by decide +kernel
theorem d_Law_law_404 : decode code 404 = .ok (.iadd, 1) := by decide +kernel
theorem d_Law_law_405 : decode code 405 = .ok (.iaload, 1) := by decide +kernel
theorem d_Law_law_406 : decode code 406 = .ok (.invokevirtual 53, 3) := by decide +kernel
theorem d_Law_law_409 : decode code 409 = .ok (.aload_n 2, 1) := by decide +kernel
theorem d_Law_law_410 : decode code 410 = .ok (.aload_n 0, 1) := by decide +kernel
theorem d_Law_law_411 : decode code 411 = .ok (.iload_n 3, 1) := by decide +kernel
theorem d_Law_law_412 : decode code 412 = .ok (.iconst 1, 1) := by decide +kernel
theorem d_Law_law_413 : decode code 413 = .ok (.iadd, 1) := by decide +kernel
theorem d_Law_law_414 : decode code 414 = .ok (.iaload, 1) := by decide +kernel
theorem d_Law_law_415 : decode code 415 = .ok (.aload_n 0, 1) := by decide +kernel
theorem d_Law_law_416 : decode code 416 = .ok (.iload_n 3, 1) := by decide +kernel
theorem d_Law_law_417 : decode code 417 = .ok (.iconst 2, 1) := by decide +kernel
theorem d_Law_law_418 : decode code 418 = .ok (.iadd, 1) := by decide +kernel
theorem d_Law_law_419 : decode code 419 = .ok (.iaload, 1) := by decide +kernel
theorem d_Law_law_420 : decode code 420 = .ok (.invokevirtual 57, 3) := by decide +kernel
theorem d_Law_law_423 : decode code 423 = .ok (.lcmp, 1) := by decide +kernel
theorem d_Law_law_424 : decode code 424 = .ok (.ifCond .eq 406, 3) := by decide +kernel
theorem d_Law_law_427 : decode code 427 = .ok (.iconst 0, 1) := by decide +kernel
theorem d_Law_law_428 : decode code 428 = .ok (.ireturn, 1) := by decide +kernel
theorem d_Law_law_429 : decode code 429 = .ok (.aload_n 1, 1) := by decide +kernel
theorem d_Law_law_430 : decode code 430 = .ok (.aload_n 0, 1) := by decide +kernel
theorem d_Law_law_431 : decode code 431 = .ok (.iload_n 3, 1) := by decide +kernel
theorem d_Law_law_432 : decode code 432 = .ok (.iconst 1, 1) := by decide +kernel
theorem d_Law_law_433 : decode code 433 = .ok (.iadd, 1) := by decide +kernel
theorem d_Law_law_434 : decode code 434 = .ok (.iaload, 1) := by decide +kernel
theorem d_Law_law_435 : decode code 435 = .ok (.aload_n 0, 1) := by decide +kernel
theorem d_Law_law_436 : decode code 436 = .ok (.iload_n 3, 1) := by decide +kernel
theorem d_Law_law_437 : decode code 437 = .ok (.iconst 2, 1) := by decide +kernel
theorem d_Law_law_438 : decode code 438 = .ok (.iadd, 1) := by decide +kernel
theorem d_Law_law_439 : decode code 439 = .ok (.iaload, 1) := by decide +kernel
theorem d_Law_law_440 : decode code 440 = .ok (.invokevirtual 58, 3) := by decide +kernel
theorem d_Law_law_443 : decode code 443 = .ok (.aload_n 2, 1) := by decide +kernel
theorem d_Law_law_444 : decode code 444 = .ok (.aload_n 0, 1) := by decide +kernel
theorem d_Law_law_445 : decode code 445 = .ok (.iload_n 3, 1) := by decide +kernel
theorem d_Law_law_446 : decode code 446 = .ok (.iconst 1, 1) := by decide +kernel
theorem d_Law_law_447 : decode code 447 = .ok (.iadd, 1) := by decide +kernel
theorem d_Law_law_448 : decode code 448 = .ok (.iaload, 1) := by decide +kernel
theorem d_Law_law_449 : decode code 449 = .ok (.aload_n 0, 1) := by decide +kernel
theorem d_Law_law_450 : decode code 450 = .ok (.iload_n 3, 1) := by decide +kernel
theorem d_Law_law_451 : decode code 451 = .ok (.iconst 2, 1) := by decide +kernel
theorem d_Law_law_452 : decode code 452 = .ok (.iadd, 1) := by decide +kernel
theorem d_Law_law_453 : decode code 453 = .ok (.iaload, 1) := by decide +kernel
theorem d_Law_law_454 : decode code 454 = .ok (.invokevirtual 62, 3) := by decide +kernel
theorem d_Law_law_457 : decode code 457 = .ok (.if_icmp .eq 373, 3) := by decide +kernel
theorem d_Law_law_460 : decode code 460 = .ok (.iconst 0, 1) := by decide +kernel
theorem d_Law_law_461 : decode code 461 = .ok (.ireturn, 1) := by decide +kernel
theorem d_Law_law_462 : decode code 462 = .ok (.aload_n 1, 1) := by decide +kernel
theorem d_Law_law_463 : decode code 463 = .ok (.aload_n 0, 1) := by decide +kernel
theorem d_Law_law_464 : decode code 464 = .ok (.iload_n 3, 1) := by decide +kernel
theorem d_Law_law_465 : decode code 465 = .ok (.iconst 1, 1) := by decide +kernel
theorem d_Law_law_466 : decode code 466 = .ok (.iadd, 1) := by decide +kernel
theorem d_Law_law_467 : decode code 467 = .ok (.iaload, 1) := by decide +kernel
theorem d_Law_law_468 : decode code 468 = .ok (.aload_n 0, 1) := by decide +kernel
theorem d_Law_law_469 : decode code 469 = .ok (.iload_n 3, 1) := by decide +kernel
theorem d_Law_law_470 : decode code 470 = .ok (.iconst 2, 1) := by decide +kernel
theorem d_Law_law_471 : decode code 471 = .ok (.iadd, 1) := by decide +kernel
theorem d_Law_law_472 : decode code 472 = .ok (.iaload, 1) := by decide +kernel
theorem d_Law_law_473 : decode code 473 = .ok (.invokevirtual 63, 3) := by decide +kernel
theorem d_Law_law_476 : decode code 476 = .ok (.aload_n 2, 1) := by decide +kernel
theorem d_Law_law_477 : decode code 477 = .ok (.aload_n 0, 1) := by decide +kernel
theorem d_Law_law_478 : decode code 478 = .ok (.iload_n 3, 1) := by decide +kernel
theorem d_Law_law_479 : decode code 479 = .ok (.iconst 1, 1) := by decide +kernel
theorem d_Law_law_480 : decode code 480 = .ok (.iadd, 1) := by decide +kernel
theorem d_Law_law_481 : decode code 481 = .ok (.iaload, 1) := by decide +kernel
theorem d_Law_law_482 : decode code 482 = .ok (.aload_n 0, 1) := by decide +kernel
theorem d_Law_law_483 : decode code 483 = .ok (.iload_n 3, 1) := by decide +kernel
theorem d_Law_law_484 : decode code 484 = .ok (.iconst 2, 1) := by decide +kernel
theorem d_Law_law_485 : decode code 485 = .ok (.iadd, 1) := by decide +kernel
theorem d_Law_law_486 : decode code 486 = .ok (.iaload, 1) := by decide +kernel
theorem d_Law_law_487 : decode code 487 = .ok (.invokevirtual 66, 3) := by decide +kernel
theorem d_Law_law_490 : decode code 490 = .ok (.if_icmp .eq 340, 3) := by decide +kernel
theorem d_Law_law_493 : decode code 493 = .ok (.iconst 0, 1) := by decide +kernel
theorem d_Law_law_494 : decode code 494 = .ok (.ireturn, 1) := by decide +kernel
theorem d_Law_law_495 : decode code 495 = .ok (.aload_n 1, 1) := by decide +kernel
theorem d_Law_law_496 : decode code 496 = .ok (.aload_n 0, 1) := by decide +kernel
theorem d_Law_law_497 : decode code 497 = .ok (.iload_n 3, 1) := by decide +kernel
theorem d_Law_law_498 : decode code 498 = .ok (.iconst 1, 1) := by decide +kernel
theorem d_Law_law_499 : decode code 499 = .ok (.iadd, 1) := by decide +kernel
theorem d_Law_law_500 : decode code 500 = .ok (.iaload, 1) := by decide +kernel
theorem d_Law_law_501 : decode code 501 = .ok (.invokevirtual 67, 3) := by decide +kernel
theorem d_Law_law_504 : decode code 504 = .ok (.aload_n 2, 1) := by decide +kernel
theorem d_Law_law_505 : decode code 505 = .ok (.aload_n 0, 1) := by decide +kernel
theorem d_Law_law_506 : decode code 506 = .ok (.iload_n 3, 1) := by decide +kernel
theorem d_Law_law_507 : decode code 507 = .ok (.iconst 1, 1) := by decide +kernel
theorem d_Law_law_508 : decode code 508 = .ok (.iadd, 1) := by decide +kernel
theorem d_Law_law_509 : decode code 509 = .ok (.iaload, 1) := by decide +kernel
theorem d_Law_law_510 : decode code 510 = .ok (.invokevirtual 70, 3) := by decide +kernel
theorem d_Law_law_513 : decode code 513 = .ok (.if_icmp .eq 317, 3) := by decide +kernel
theorem d_Law_law_516 : decode code 516 = .ok (.iconst 0, 1) := by decide +kernel
theorem d_Law_law_517 : decode code 517 = .ok (.ireturn, 1) := by decide +kernel
theorem d_Law_law_518 : decode code 518 = .ok (.aload_n 1, 1) := by decide +kernel
theorem d_Law_law_519 : decode code 519 = .ok (.aload_n 0, 1) := by decide +kernel
theorem d_Law_law_520 : decode code 520 = .ok (.iload_n 3, 1) := by decide +kernel
theorem d_Law_law_521 : decode code 521 = .ok (.iconst 1, 1) := by decide +kernel
theorem d_Law_law_522 : decode code 522 = .ok (.iadd, 1) := by decide +kernel
theorem d_Law_law_523 : decode code 523 = .ok (.iaload, 1) := by decide +kernel
theorem d_Law_law_524 : decode code 524 = .ok (.aload_n 0, 1) := by decide +kernel
theorem d_Law_law_525 : decode code 525 = .ok (.iload_n 3, 1) := by decide +kernel
theorem d_Law_law_526 : decode code 526 = .ok (.iconst 2, 1) := by decide +kernel
theorem d_Law_law_527 : decode code 527 = .ok (.iadd, 1) := by decide +kernel
theorem d_Law_law_528 : decode code 528 = .ok (.iaload, 1) := by decide +kernel
theorem d_Law_law_529 : decode code 529 = .ok (.ifCond .eq 7, 3) := by decide +kernel
theorem d_Law_law_532 : decode code 532 = .ok (.iconst 1, 1) := by decide +kernel
theorem d_Law_law_533 : decode code 533 = .ok (.goto 4, 3) := by decide +kernel
theorem d_Law_law_536 : decode code 536 = .ok (.iconst 0, 1) := by decide +kernel
theorem d_Law_law_537 : decode code 537 = .ok (.invokevirtual 71, 3) := by decide +kernel
theorem d_Law_law_540 : decode code 540 = .ok (.aload_n 2, 1) := by decide +kernel
theorem d_Law_law_541 : decode code 541 = .ok (.aload_n 0, 1) := by decide +kernel
theorem d_Law_law_542 : decode code 542 = .ok (.iload_n 3, 1) := by decide +kernel
theorem d_Law_law_543 : decode code 543 = .ok (.iconst 1, 1) := by decide +kernel
theorem d_Law_law_544 : decode code 544 = .ok (.iadd, 1) := by decide +kernel
theorem d_Law_law_545 : decode code 545 = .ok (.iaload, 1) := by decide +kernel
theorem d_Law_law_546 : decode code 546 = .ok (.aload_n 0, 1) := by decide +kernel
theorem d_Law_law_547 : decode code 547 = .ok (.iload_n 3, 1) := by decide +kernel
theorem d_Law_law_548 : decode code 548 = .ok (.iconst 2, 1) := by decide +kernel
theorem d_Law_law_549 : decode code 549 = .ok (.iadd, 1) := by decide +kernel
theorem d_Law_law_550 : decode code 550 = .ok (.iaload, 1) := by decide +kernel
theorem d_Law_law_551 : decode code 551 = .ok (.ifCond .eq 7, 3) := by decide +kernel
theorem d_Law_law_554 : decode code 554 = .ok (.iconst 1, 1) := by decide +kernel
theorem d_Law_law_555 : decode code 555 = .ok (.goto 4, 3) := by decide +kernel
theorem d_Law_law_558 : decode code 558 = .ok (.iconst 0, 1) := by decide +kernel
theorem d_Law_law_559 : decode code 559 = .ok (.invokevirtual 75, 3) := by decide +kernel
theorem d_Law_law_562 : decode code 562 = .ok (.if_icmp .eq 268, 3) := by decide +kernel
theorem d_Law_law_565 : decode code 565 = .ok (.iconst 0, 1) := by decide +kernel
theorem d_Law_law_566 : decode code 566 = .ok (.ireturn, 1) := by decide +kernel
theorem d_Law_law_567 : decode code 567 = .ok (.aload_n 1, 1) := by decide +kernel
theorem d_Law_law_568 : decode code 568 = .ok (.aload_n 0, 1) := by decide +kernel
theorem d_Law_law_569 : decode code 569 = .ok (.iload_n 3, 1) := by decide +kernel
theorem d_Law_law_570 : decode code 570 = .ok (.iconst 1, 1) := by decide +kernel
theorem d_Law_law_571 : decode code 571 = .ok (.iadd, 1) := by decide +kernel
theorem d_Law_law_572 : decode code 572 = .ok (.iaload, 1) := by decide +kernel
theorem d_Law_law_573 : decode code 573 = .ok (.aload_n 0, 1) := by decide +kernel
theorem d_Law_law_574 : decode code 574 = .ok (.iload_n 3, 1) := by decide +kernel
theorem d_Law_law_575 : decode code 575 = .ok (.iconst 2, 1) := by decide +kernel
theorem d_Law_law_576 : decode code 576 = .ok (.iadd, 1) := by decide +kernel
theorem d_Law_law_577 : decode code 577 = .ok (.iaload, 1) := by decide +kernel
theorem d_Law_law_578 : decode code 578 = .ok (.ifCond .eq 7, 3) := by decide +kernel
theorem d_Law_law_581 : decode code 581 = .ok (.iconst 1, 1) := by decide +kernel
theorem d_Law_law_582 : decode code 582 = .ok (.goto 4, 3) := by decide +kernel
theorem d_Law_law_585 : decode code 585 = .ok (.iconst 0, 1) := by decide +kernel
theorem d_Law_law_586 : decode code 586 = .ok (.invokevirtual 76, 3) := by decide +kernel
theorem d_Law_law_589 : decode code 589 = .ok (.aload_n 2, 1) := by decide +kernel
theorem d_Law_law_590 : decode code 590 = .ok (.aload_n 0, 1) := by decide +kernel
theorem d_Law_law_591 : decode code 591 = .ok (.iload_n 3, 1) := by decide +kernel
theorem d_Law_law_592 : decode code 592 = .ok (.iconst 1, 1) := by decide +kernel
theorem d_Law_law_593 : decode code 593 = .ok (.iadd, 1) := by decide +kernel
theorem d_Law_law_594 : decode code 594 = .ok (.iaload, 1) := by decide +kernel
theorem d_Law_law_595 : decode code 595 = .ok (.aload_n 0, 1) := by decide +kernel
theorem d_Law_law_596 : decode code 596 = .ok (.iload_n 3, 1) := by decide +kernel
theorem d_Law_law_597 : decode code 597 = .ok (.iconst 2, 1) := by decide +kernel
theorem d_Law_law_598 : decode code 598 = .ok (.iadd, 1) := by decide +kernel
theorem d_Law_law_599 : decode code 599 = .ok (.iaload, 1) := by decide +kernel
theorem d_Law_law_600 : decode code 600 = .ok (.ifCond .eq 7, 3) := by decide +kernel
theorem d_Law_law_603 : decode code 603 = .ok (.iconst 1, 1) := by decide +kernel
theorem d_Law_law_604 : decode code 604 = .ok (.goto 4, 3) := by decide +kernel
theorem d_Law_law_607 : decode code 607 = .ok (.iconst 0, 1) := by decide +kernel
theorem d_Law_law_608 : decode code 608 = .ok (.invokevirtual 79, 3) := by decide +kernel
theorem d_Law_law_611 : decode code 611 = .ok (.if_icmp .eq 219, 3) := by decide +kernel
theorem d_Law_law_614 : decode code 614 = .ok (.iconst 0, 1) := by decide +kernel
theorem d_Law_law_615 : decode code 615 = .ok (.ireturn, 1) := by decide +kernel
theorem d_Law_law_616 : decode code 616 = .ok (.aload_n 1, 1) := by decide +kernel
theorem d_Law_law_617 : decode code 617 = .ok (.aload_n 0, 1) := by decide +kernel
theorem d_Law_law_618 : decode code 618 = .ok (.iload_n 3, 1) := by decide +kernel
theorem d_Law_law_619 : decode code 619 = .ok (.iconst 1, 1) := by decide +kernel
theorem d_Law_law_620 : decode code 620 = .ok (.iadd, 1) := by decide +kernel
theorem d_Law_law_621 : decode code 621 = .ok (.iaload, 1) := by decide +kernel
theorem d_Law_law_622 : decode code 622 = .ok (.aload_n 0, 1) := by decide +kernel
theorem d_Law_law_623 : decode code 623 = .ok (.iload_n 3, 1) := by decide +kernel
theorem d_Law_law_624 : decode code 624 = .ok (.iconst 2, 1) := by decide +kernel
theorem d_Law_law_625 : decode code 625 = .ok (.iadd, 1) := by decide +kernel
theorem d_Law_law_626 : decode code 626 = .ok (.iaload, 1) := by decide +kernel
theorem d_Law_law_627 : decode code 627 = .ok (.aload_n 0, 1) := by decide +kernel
theorem d_Law_law_628 : decode code 628 = .ok (.iload_n 3, 1) := by decide +kernel
theorem d_Law_law_629 : decode code 629 = .ok (.iconst 3, 1) := by decide +kernel
theorem d_Law_law_630 : decode code 630 = .ok (.iadd, 1) := by decide +kernel
theorem d_Law_law_631 : decode code 631 = .ok (.iaload, 1) := by decide +kernel
theorem d_Law_law_632 : decode code 632 = .ok (.ifCond .eq 7, 3) := by decide +kernel
theorem d_Law_law_635 : decode code 635 = .ok (.iconst 1, 1) := by decide +kernel
theorem d_Law_law_636 : decode code 636 = .ok (.goto 4, 3) := by decide +kernel
theorem d_Law_law_639 : decode code 639 = .ok (.iconst 0, 1) := by decide +kernel
theorem d_Law_law_640 : decode code 640 = .ok (.invokevirtual 80, 3) := by decide +kernel
theorem d_Law_law_643 : decode code 643 = .ok (.aload_n 2, 1) := by decide +kernel
theorem d_Law_law_644 : decode code 644 = .ok (.aload_n 0, 1) := by decide +kernel
theorem d_Law_law_645 : decode code 645 = .ok (.iload_n 3, 1) := by decide +kernel
theorem d_Law_law_646 : decode code 646 = .ok (.iconst 1, 1) := by decide +kernel
theorem d_Law_law_647 : decode code 647 = .ok (.iadd, 1) := by decide +kernel
theorem d_Law_law_648 : decode code 648 = .ok (.iaload, 1) := by decide +kernel
theorem d_Law_law_649 : decode code 649 = .ok (.aload_n 0, 1) := by decide +kernel
theorem d_Law_law_650 : decode code 650 = .ok (.iload_n 3, 1) := by decide +kernel
theorem d_Law_law_651 : decode code 651 = .ok (.iconst 2, 1) := by decide +kernel
theorem d_Law_law_652 : decode code 652 = .ok (.iadd, 1) := by decide +kernel
theorem d_Law_law_653 : decode code 653 = .ok (.iaload, 1) := by decide +kernel
theorem d_Law_law_654 : decode code 654 = .ok (.aload_n 0, 1) := by decide +kernel
theorem d_Law_law_655 : decode code 655 = .ok (.iload_n 3, 1) := by decide +kernel
theorem d_Law_law_656 : decode code 656 = .ok (.iconst 3, 1) := by decide +kernel
theorem d_Law_law_657 : decode code 657 = .ok (.iadd, 1) := by decide +kernel
theorem d_Law_law_658 : decode code 658 = .ok (.iaload, 1) := by decide +kernel
theorem d_Law_law_659 : decode code 659 = .ok (.ifCond .eq 7, 3) := by decide +kernel
theorem d_Law_law_662 : decode code 662 = .ok (.iconst 1, 1) := by decide +kernel
theorem d_Law_law_663 : decode code 663 = .ok (.goto 4, 3) := by decide +kernel
theorem d_Law_law_666 : decode code 666 = .ok (.iconst 0, 1) := by decide +kernel
theorem d_Law_law_667 : decode code 667 = .ok (.invokevirtual 84, 3) := by decide +kernel
theorem d_Law_law_670 : decode code 670 = .ok (.if_icmp .eq 160, 3) := by decide +kernel
theorem d_Law_law_673 : decode code 673 = .ok (.iconst 0, 1) := by decide +kernel
theorem d_Law_law_674 : decode code 674 = .ok (.ireturn, 1) := by decide +kernel
theorem d_Law_law_675 : decode code 675 = .ok (.aload_n 1, 1) := by decide +kernel
theorem d_Law_law_676 : decode code 676 = .ok (.aload_n 0, 1) := by decide +kernel
theorem d_Law_law_677 : decode code 677 = .ok (.iload_n 3, 1) := by decide +kernel
theorem d_Law_law_678 : decode code 678 = .ok (.iconst 1, 1) := by decide +kernel
theorem d_Law_law_679 : decode code 679 = .ok (.iadd, 1) := by decide +kernel
theorem d_Law_law_680 : decode code 680 = .ok (.iaload, 1) := by decide +kernel
theorem d_Law_law_681 : decode code 681 = .ok (.invokevirtual 85, 3) := by decide +kernel
theorem d_Law_law_684 : decode code 684 = .ok (.aload_n 2, 1) := by decide +kernel
theorem d_Law_law_685 : decode code 685 = .ok (.aload_n 0, 1) := by decide +kernel
theorem d_Law_law_686 : decode code 686 = .ok (.iload_n 3, 1) := by decide +kernel
theorem d_Law_law_687 : decode code 687 = .ok (.iconst 1, 1) := by decide +kernel
theorem d_Law_law_688 : decode code 688 = .ok (.iadd, 1) := by decide +kernel
theorem d_Law_law_689 : decode code 689 = .ok (.iaload, 1) := by decide +kernel
theorem d_Law_law_690 : decode code 690 = .ok (.invokevirtual 88, 3) := by decide +kernel
theorem d_Law_law_693 : decode code 693 = .ok (.if_icmp .eq 137, 3) := by decide +kernel
theorem d_Law_law_696 : decode code 696 = .ok (.iconst 0, 1) := by decide +kernel
theorem d_Law_law_697 : decode code 697 = .ok (.ireturn, 1) := by decide +kernel
theorem d_Law_law_698 : decode code 698 = .ok (.aload_n 1, 1) := by decide +kernel
theorem d_Law_law_699 : decode code 699 = .ok (.aload_n 0, 1) := by decide +kernel
theorem d_Law_law_700 : decode code 700 = .ok (.iload_n 3, 1) := by decide +kernel
theorem d_Law_law_701 : decode code 701 = .ok (.iconst 1, 1) := by decide +kernel
theorem d_Law_law_702 : decode code 702 = .ok (.iadd, 1) := by decide +kernel
theorem d_Law_law_703 : decode code 703 = .ok (.iaload, 1) := by decide +kernel
theorem d_Law_law_704 : decode code 704 = .ok (.aload_n 0, 1) := by decide +kernel
theorem d_Law_law_705 : decode code 705 = .ok (.iload_n 3, 1) := by decide +kernel
theorem d_Law_law_706 : decode code 706 = .ok (.iconst 2, 1) := by decide +kernel
theorem d_Law_law_707 : decode code 707 = .ok (.iadd, 1) := by decide +kernel
theorem d_Law_law_708 : decode code 708 = .ok (.iaload, 1) := by decide +kernel
theorem d_Law_law_709 : decode code 709 = .ok (.invokevirtual 89, 3) := by decide +kernel
theorem d_Law_law_712 : decode code 712 = .ok (.aload_n 2, 1) := by decide +kernel
theorem d_Law_law_713 : decode code 713 = .ok (.aload_n 0, 1) := by decide +kernel
theorem d_Law_law_714 : decode code 714 = .ok (.iload_n 3, 1) := by decide +kernel
theorem d_Law_law_715 : decode code 715 = .ok (.iconst 1, 1) := by decide +kernel
theorem d_Law_law_716 : decode code 716 = .ok (.iadd, 1) := by decide +kernel
theorem d_Law_law_717 : decode code 717 = .ok (.iaload, 1) := by decide +kernel
theorem d_Law_law_718 : decode code 718 = .ok (.aload_n 0, 1) := by decide +kernel
theorem d_Law_law_719 : decode code 719 = .ok (.iload_n 3, 1) := by decide +kernel
theorem d_Law_law_720 : decode code 720 = .ok (.iconst 2, 1) := by decide +kernel
theorem d_Law_law_721 : decode code 721 = .ok (.iadd, 1) := by decide +kernel
theorem d_Law_law_722 : decode code 722 = .ok (.iaload, 1) := by decide +kernel
theorem d_Law_law_723 : decode code 723 = .ok (.invokevirtual 92, 3) := by decide +kernel
theorem d_Law_law_726 : decode code 726 = .ok (.if_icmp .eq 104, 3) := by decide +kernel
theorem d_Law_law_729 : decode code 729 = .ok (.iconst 0, 1) := by decide +kernel
theorem d_Law_law_730 : decode code 730 = .ok (.ireturn, 1) := by decide +kernel
theorem d_Law_law_731 : decode code 731 = .ok (.aload_n 1, 1) := by decide +kernel
theorem d_Law_law_732 : decode code 732 = .ok (.aload_n 0, 1) := by decide +kernel
theorem d_Law_law_733 : decode code 733 = .ok (.iload_n 3, 1) := by decide +kernel
theorem d_Law_law_734 : decode code 734 = .ok (.iconst 1, 1) := by decide +kernel
theorem d_Law_law_735 : decode code 735 = .ok (.iadd, 1) := by decide +kernel
theorem d_Law_law_736 : decode code 736 = .ok (.iaload, 1) := by decide +kernel
theorem d_Law_law_737 : decode code 737 = .ok (.invokevirtual 93, 3) := by decide +kernel
theorem d_Law_law_740 : decode code 740 = .ok (.aload_n 2, 1) := by decide +kernel
theorem d_Law_law_741 : decode code 741 = .ok (.aload_n 0, 1) := by decide +kernel
theorem d_Law_law_742 : decode code 742 = .ok (.iload_n 3, 1) := by decide +kernel
theorem d_Law_law_743 : decode code 743 = .ok (.iconst 1, 1) := by decide +kernel
theorem d_Law_law_744 : decode code 744 = .ok (.iadd, 1) := by decide +kernel
theorem d_Law_law_745 : decode code 745 = .ok (.iaload, 1) := by decide +kernel
theorem d_Law_law_746 : decode code 746 = .ok (.invokevirtual 97, 3) := by decide +kernel
theorem d_Law_law_749 : decode code 749 = .ok (.if_icmp .eq 81, 3) := by decide +kernel
theorem d_Law_law_752 : decode code 752 = .ok (.iconst 0, 1) := by decide +kernel
theorem d_Law_law_753 : decode code 753 = .ok (.ireturn, 1) := by decide +kernel
theorem d_Law_law_754 : decode code 754 = .ok (.aload_n 1, 1) := by decide +kernel
theorem d_Law_law_755 : decode code 755 = .ok (.aload_n 0, 1) := by decide +kernel
theorem d_Law_law_756 : decode code 756 = .ok (.iload_n 3, 1) := by decide +kernel
theorem d_Law_law_757 : decode code 757 = .ok (.iconst 1, 1) := by decide +kernel
theorem d_Law_law_758 : decode code 758 = .ok (.iadd, 1) := by decide +kernel
theorem d_Law_law_759 : decode code 759 = .ok (.iaload, 1) := by decide +kernel
theorem d_Law_law_760 : decode code 760 = .ok (.aload_n 0, 1) := by decide +kernel
theorem d_Law_law_761 : decode code 761 = .ok (.iload_n 3, 1) := by decide +kernel
theorem d_Law_law_762 : decode code 762 = .ok (.iconst 2, 1) := by decide +kernel
theorem d_Law_law_763 : decode code 763 = .ok (.iadd, 1) := by decide +kernel
theorem d_Law_law_764 : decode code 764 = .ok (.iaload, 1) := by decide +kernel
theorem d_Law_law_765 : decode code 765 = .ok (.aload_n 0, 1) := by decide +kernel
theorem d_Law_law_766 : decode code 766 = .ok (.iload_n 3, 1) := by decide +kernel
theorem d_Law_law_767 : decode code 767 = .ok (.iconst 3, 1) := by decide +kernel
theorem d_Law_law_768 : decode code 768 = .ok (.iadd, 1) := by decide +kernel
theorem d_Law_law_769 : decode code 769 = .ok (.iaload, 1) := by decide +kernel
theorem d_Law_law_770 : decode code 770 = .ok (.invokevirtual 98, 3) := by decide +kernel
theorem d_Law_law_773 : decode code 773 = .ok (.aload_n 2, 1) := by decide +kernel
theorem d_Law_law_774 : decode code 774 = .ok (.aload_n 0, 1) := by decide +kernel
theorem d_Law_law_775 : decode code 775 = .ok (.iload_n 3, 1) := by decide +kernel
theorem d_Law_law_776 : decode code 776 = .ok (.iconst 1, 1) := by decide +kernel
theorem d_Law_law_777 : decode code 777 = .ok (.iadd, 1) := by decide +kernel
theorem d_Law_law_778 : decode code 778 = .ok (.iaload, 1) := by decide +kernel
theorem d_Law_law_779 : decode code 779 = .ok (.aload_n 0, 1) := by decide +kernel
theorem d_Law_law_780 : decode code 780 = .ok (.iload_n 3, 1) := by decide +kernel
theorem d_Law_law_781 : decode code 781 = .ok (.iconst 2, 1) := by decide +kernel
theorem d_Law_law_782 : decode code 782 = .ok (.iadd, 1) := by decide +kernel
theorem d_Law_law_783 : decode code 783 = .ok (.iaload, 1) := by decide +kernel
theorem d_Law_law_784 : decode code 784 = .ok (.aload_n 0, 1) := by decide +kernel
theorem d_Law_law_785 : decode code 785 = .ok (.iload_n 3, 1) := by decide +kernel
theorem d_Law_law_786 : decode code 786 = .ok (.iconst 3, 1) := by decide +kernel
theorem d_Law_law_787 : decode code 787 = .ok (.iadd, 1) := by decide +kernel
theorem d_Law_law_788 : decode code 788 = .ok (.iaload, 1) := by decide +kernel
theorem d_Law_law_789 : decode code 789 = .ok (.invokevirtual 101, 3) := by decide +kernel
theorem d_Law_law_792 : decode code 792 = .ok (.if_icmp .eq 38, 3) := by decide +kernel
theorem d_Law_law_795 : decode code 795 = .ok (.iconst 0, 1) := by decide +kernel
theorem d_Law_law_796 : decode code 796 = .ok (.ireturn, 1) := by decide +kernel
theorem d_Law_law_797 : decode code 797 = .ok (.aload_n 1, 1) := by decide +kernel
theorem d_Law_law_798 : decode code 798 = .ok (.aload_n 0, 1) := by decide +kernel
theorem d_Law_law_799 : decode code 799 = .ok (.iload_n 3, 1) := by decide +kernel
theorem d_Law_law_800 : decode code 800 = .ok (.iconst 1, 1) := by decide +kernel
theorem d_Law_law_801 : decode code 801 = .ok (.iadd, 1) := by decide +kernel
theorem d_Law_law_802 : decode code 802 = .ok (.iaload, 1) := by decide +kernel
theorem d_Law_law_803 : decode code 803 = .ok (.aload_n 0, 1) := by decide +kernel
theorem d_Law_law_804 : decode code 804 = .ok (.iload_n 3, 1) := by decide +kernel
theorem d_Law_law_805 : decode code 805 = .ok (.iconst 2, 1) := by decide +kernel
theorem d_Law_law_806 : decode code 806 = .ok (.iadd, 1) := by decide +kernel
theorem d_Law_law_807 : decode code 807 = .ok (.iaload, 1) := by decide +kernel
theorem d_Law_law_808 : decode code 808 = .ok (.invokevirtual 102, 3) := by decide +kernel
theorem d_Law_law_811 : decode code 811 = .ok (.aload_n 2, 1) := by decide +kernel
theorem d_Law_law_812 : decode code 812 = .ok (.aload_n 0, 1) := by decide +kernel
theorem d_Law_law_813 : decode code 813 = .ok (.iload_n 3, 1) := by decide +kernel
theorem d_Law_law_814 : decode code 814 = .ok (.iconst 1, 1) := by decide +kernel
theorem d_Law_law_815 : decode code 815 = .ok (.iadd, 1) := by decide +kernel
theorem d_Law_law_816 : decode code 816 = .ok (.iaload, 1) := by decide +kernel
theorem d_Law_law_817 : decode code 817 = .ok (.aload_n 0, 1) := by decide +kernel
theorem d_Law_law_818 : decode code 818 = .ok (.iload_n 3, 1) := by decide +kernel
theorem d_Law_law_819 : decode code 819 = .ok (.iconst 2, 1) := by decide +kernel
theorem d_Law_law_820 : decode code 820 = .ok (.iadd, 1) := by decide +kernel
theorem d_Law_law_821 : decode code 821 = .ok (.iaload, 1) := by decide +kernel
theorem d_Law_law_822 : decode code 822 = .ok (.invokevirtual 105, 3) := by decide +kernel
theorem d_Law_law_825 : decode code 825 = .ok (.if_icmp .eq 5, 3) := by decide +kernel
theorem d_Law_law_828 : decode code 828 = .ok (.iconst 0, 1) := by decide +kernel
theorem d_Law_law_829 : decode code 829 = .ok (.ireturn, 1) := by decide +kernel
theorem d_Law_law_830 : decode code 830 = .ok (.iinc 3 6, 3) := by decide +kernel
theorem d_Law_law_833 : decode code 833 = .ok (.goto (-775), 3) := by decide +kernel
theorem d_Law_law_836 : decode code 836 = .ok (.iconst 1, 1) := by decide +kernel
theorem d_Law_law_837 : decode code 837 = .ok (.ireturn, 1) := by decide +kernel
theorem d_Law_cell_0 : decode b_Law_cell 0 = .ok (.iload_n 1, 1) := by decide +kernel
theorem d_Law_cell_1 : decode b_Law_cell 1 = .ok (.aload_n 0, 1) := by decide +kernel
theorem d_Law_cell_2 : decode b_Law_cell 2 = .ok (.arraylength, 1) := by decide +kernel
theorem d_Law_cell_3 : decode b_Law_cell 3 = .ok (.if_icmp .ge 9, 3) := by decide +kernel
theorem d_Law_cell_6 : decode b_Law_cell 6 = .ok (.aload_n 0, 1) := by decide +kernel
theorem d_Law_cell_7 : decode b_Law_cell 7 = .ok (.iload_n 1, 1) := by decide +kernel
theorem d_Law_cell_8 : decode b_Law_cell 8 = .ok (.iaload, 1) := by decide +kernel
theorem d_Law_cell_9 : decode b_Law_cell 9 = .ok (.goto 4, 3) := by decide +kernel
theorem d_Law_cell_12 : decode b_Law_cell 12 = .ok (.iconst 0, 1) := by decide +kernel
theorem d_Law_cell_13 : decode b_Law_cell 13 = .ok (.ireturn, 1) := by decide +kernel
