/-! ===== the law's own instructions, further ===== -/
theorem dL_areTunesSo_47 : decode cL_areTunesSo 47 = .ok (.aload_n 0, 1) := by decide +kernel
theorem dL_areTunesSo_48 : decode cL_areTunesSo 48 = .ok (.iload 6, 2) := by decide +kernel
theorem dL_areTunesSo_50 : decode cL_areTunesSo 50 = .ok (.invokestatic 98, 3) := by decide +kernel
theorem dL_areTunesSo_53 : decode cL_areTunesSo 53 = .ok (.istore 7, 2) := by decide +kernel
theorem dL_areTunesSo_55 : decode cL_areTunesSo 55 = .ok (.aload_n 0, 1) := by decide +kernel
theorem dL_areTunesSo_56 : decode cL_areTunesSo 56 = .ok (.iload 6, 2) := by decide +kernel
theorem dL_areTunesSo_58 : decode cL_areTunesSo 58 = .ok (.invokevirtual 101, 3) := by decide +kernel
theorem dL_areTunesSo_61 : decode cL_areTunesSo 61 = .ok (.istore 8, 2) := by decide +kernel
theorem dL_areTunesSo_63 : decode cL_areTunesSo 63 = .ok (.aload_n 0, 1) := by decide +kernel
theorem dL_areTunesSo_64 : decode cL_areTunesSo 64 = .ok (.iload 6, 2) := by decide +kernel
theorem dL_areTunesSo_66 : decode cL_areTunesSo 66 = .ok (.iload_n 1, 1) := by decide +kernel
theorem dL_areTunesSo_67 : decode cL_areTunesSo 67 = .ok (.invokevirtual 107, 3) := by decide +kernel
theorem dL_areTunesSo_70 : decode cL_areTunesSo 70 = .ok (.istore 9, 2) := by decide +kernel
theorem dL_areTunesSo_72 : decode cL_areTunesSo 72 = .ok (.iload_n 2, 1) := by decide +kernel
theorem dL_areTunesSo_73 : decode cL_areTunesSo 73 = .ok (.iload 8, 2) := by decide +kernel
theorem dL_areTunesSo_75 : decode cL_areTunesSo 75 = .ok (.iload 6, 2) := by decide +kernel
theorem dL_areTunesSo_77 : decode cL_areTunesSo 77 = .ok (.if_icmp .ne 7, 3) := by decide +kernel
theorem dL_areTunesSo_80 : decode cL_areTunesSo 80 = .ok (.iconst 1, 1) := by decide +kernel
theorem dL_areTunesSo_81 : decode cL_areTunesSo 81 = .ok (.goto 4, 3) := by decide +kernel
theorem dL_areTunesSo_84 : decode cL_areTunesSo 84 = .ok (.iconst 0, 1) := by decide +kernel
theorem dL_areTunesSo_85 : decode cL_areTunesSo 85 = .ok (.iadd, 1) := by decide +kernel
theorem dL_areTunesSo_86 : decode cL_areTunesSo 86 = .ok (.istore_n 2, 1) := by decide +kernel
theorem dL_areTunesSo_87 : decode cL_areTunesSo 87 = .ok (.iload_n 3, 1) := by decide +kernel
theorem dL_areTunesSo_88 : decode cL_areTunesSo 88 = .ok (.iload 7, 2) := by decide +kernel
theorem dL_areTunesSo_90 : decode cL_areTunesSo 90 = .ok (.ifCond .lt 7, 3) := by decide +kernel
theorem dL_areTunesSo_93 : decode cL_areTunesSo 93 = .ok (.iconst 1, 1) := by decide +kernel
theorem dL_areTunesSo_94 : decode cL_areTunesSo 94 = .ok (.goto 4, 3) := by decide +kernel
theorem dL_areTunesSo_97 : decode cL_areTunesSo 97 = .ok (.iconst 0, 1) := by decide +kernel
theorem dL_areTunesSo_98 : decode cL_areTunesSo 98 = .ok (.iadd, 1) := by decide +kernel
theorem dL_areTunesSo_99 : decode cL_areTunesSo 99 = .ok (.istore_n 3, 1) := by decide +kernel
theorem dL_areTunesSo_100 : decode cL_areTunesSo 100 = .ok (.iload 7, 2) := by decide +kernel
theorem dL_areTunesSo_102 : decode cL_areTunesSo 102 = .ok (.iconst (-1), 1) := by decide +kernel
theorem dL_areTunesSo_103 : decode cL_areTunesSo 103 = .ok (.if_icmp .ge 10, 3) := by decide +kernel
theorem dL_areTunesSo_106 : decode cL_areTunesSo 106 = .ok (.iload 7, 2) := by decide +kernel
theorem dL_areTunesSo_108 : decode cL_areTunesSo 108 = .ok (.ldc 42, 2) := by decide +kernel
theorem dL_areTunesSo_110 : decode cL_areTunesSo 110 = .ok (.if_icmp .ne 7, 3) := by decide +kernel
theorem dL_areTunesSo_113 : decode cL_areTunesSo 113 = .ok (.iconst 1, 1) := by decide +kernel
theorem dL_areTunesSo_114 : decode cL_areTunesSo 114 = .ok (.goto 4, 3) := by decide +kernel
theorem dL_areTunesSo_117 : decode cL_areTunesSo 117 = .ok (.iconst 0, 1) := by decide +kernel
theorem dL_areTunesSo_118 : decode cL_areTunesSo 118 = .ok (.istore 5, 2) := by decide +kernel
theorem dL_areTunesSo_120 : decode cL_areTunesSo 120 = .ok (.iload 5, 2) := by decide +kernel
theorem dL_areTunesSo_122 : decode cL_areTunesSo 122 = .ok (.ifCond .eq 165, 3) := by decide +kernel
theorem dL_areTunesSo_125 : decode cL_areTunesSo 125 = .ok (.iload 8, 2) := by decide +kernel
theorem dL_areTunesSo_127 : decode cL_areTunesSo 127 = .ok (.iload 6, 2) := by decide +kernel
theorem dL_areTunesSo_129 : decode cL_areTunesSo 129 = .ok (.if_icmp .gt 158, 3) := by decide +kernel
theorem dL_areTunesSo_132 : decode cL_areTunesSo 132 = .ok (.aload_n 0, 1) := by decide +kernel
theorem dL_areTunesSo_133 : decode cL_areTunesSo 133 = .ok (.iload 8, 2) := by decide +kernel
theorem dL_areTunesSo_135 : decode cL_areTunesSo 135 = .ok (.invokevirtual 101, 3) := by decide +kernel
theorem dL_areTunesSo_138 : decode cL_areTunesSo 138 = .ok (.iload 8, 2) := by decide +kernel
theorem dL_areTunesSo_140 : decode cL_areTunesSo 140 = .ok (.if_icmp .ne 147, 3) := by decide +kernel
theorem dL_areTunesSo_143 : decode cL_areTunesSo 143 = .ok (.iload 9, 2) := by decide +kernel
theorem dL_areTunesSo_145 : decode cL_areTunesSo 145 = .ok (.ifCond .lt 142, 3) := by decide +kernel
theorem dL_areTunesSo_148 : decode cL_areTunesSo 148 = .ok (.iload 9, 2) := by decide +kernel
theorem dL_areTunesSo_150 : decode cL_areTunesSo 150 = .ok (.aload_n 0, 1) := by decide +kernel
theorem dL_areTunesSo_151 : decode cL_areTunesSo 151 = .ok (.iload 6, 2) := by decide +kernel
theorem dL_areTunesSo_153 : decode cL_areTunesSo 153 = .ok (.invokevirtual 95, 3) := by decide +kernel
theorem dL_areTunesSo_156 : decode cL_areTunesSo 156 = .ok (.if_icmp .ge 131, 3) := by decide +kernel
theorem dL_areTunesSo_159 : decode cL_areTunesSo 159 = .ok (.iload 9, 2) := by decide +kernel
theorem dL_areTunesSo_161 : decode cL_areTunesSo 161 = .ok (.aload_n 0, 1) := by decide +kernel
theorem dL_areTunesSo_162 : decode cL_areTunesSo 162 = .ok (.iload_n 1, 1) := by decide +kernel
theorem dL_areTunesSo_163 : decode cL_areTunesSo 163 = .ok (.invokevirtual 95, 3) := by decide +kernel
theorem dL_areTunesSo_166 : decode cL_areTunesSo 166 = .ok (.if_icmp .ge 121, 3) := by decide +kernel
theorem dL_areTunesSo_169 : decode cL_areTunesSo 169 = .ok (.aload_n 0, 1) := by decide +kernel
theorem dL_areTunesSo_170 : decode cL_areTunesSo 170 = .ok (.iload_n 1, 1) := by decide +kernel
theorem dL_areTunesSo_171 : decode cL_areTunesSo 171 = .ok (.iload 6, 2) := by decide +kernel
theorem dL_areTunesSo_173 : decode cL_areTunesSo 173 = .ok (.invokevirtual 107, 3) := by decide +kernel
theorem dL_areTunesSo_176 : decode cL_areTunesSo 176 = .ok (.iload 9, 2) := by decide +kernel
theorem dL_areTunesSo_178 : decode cL_areTunesSo 178 = .ok (.if_icmp .ne 109, 3) := by decide +kernel
theorem dL_areTunesSo_181 : decode cL_areTunesSo 181 = .ok (.aload_n 0, 1) := by decide +kernel
theorem dL_areTunesSo_182 : decode cL_areTunesSo 182 = .ok (.iload 6, 2) := by decide +kernel
theorem dL_areTunesSo_184 : decode cL_areTunesSo 184 = .ok (.iload 6, 2) := by decide +kernel
theorem dL_areTunesSo_186 : decode cL_areTunesSo 186 = .ok (.invokevirtual 107, 3) := by decide +kernel
theorem dL_areTunesSo_189 : decode cL_areTunesSo 189 = .ok (.aload_n 0, 1) := by decide +kernel
theorem dL_areTunesSo_190 : decode cL_areTunesSo 190 = .ok (.iload 6, 2) := by decide +kernel
theorem dL_areTunesSo_192 : decode cL_areTunesSo 192 = .ok (.invokevirtual 95, 3) := by decide +kernel
theorem dL_areTunesSo_195 : decode cL_areTunesSo 195 = .ok (.iconst 1, 1) := by decide +kernel
theorem dL_areTunesSo_196 : decode cL_areTunesSo 196 = .ok (.isub, 1) := by decide +kernel
theorem dL_areTunesSo_197 : decode cL_areTunesSo 197 = .ok (.if_icmp .ne 90, 3) := by decide +kernel
theorem dL_areTunesSo_200 : decode cL_areTunesSo 200 = .ok (.aload_n 0, 1) := by decide +kernel
theorem dL_areTunesSo_201 : decode cL_areTunesSo 201 = .ok (.iload 6, 2) := by decide +kernel
theorem dL_areTunesSo_203 : decode cL_areTunesSo 203 = .ok (.invokevirtual 95, 3) := by decide +kernel
theorem dL_areTunesSo_206 : decode cL_areTunesSo 206 = .ok (.bipush 24, 2) := by decide +kernel
theorem dL_areTunesSo_208 : decode cL_areTunesSo 208 = .ok (.if_icmp .gt 79, 3) := by decide +kernel
theorem dL_areTunesSo_211 : decode cL_areTunesSo 211 = .ok (.iload 7, 2) := by decide +kernel
theorem dL_areTunesSo_213 : decode cL_areTunesSo 213 = .ok (.iconst (-1), 1) := by decide +kernel
theorem dL_areTunesSo_214 : decode cL_areTunesSo 214 = .ok (.if_icmp .ne 11, 3) := by decide +kernel
theorem dL_areTunesSo_217 : decode cL_areTunesSo 217 = .ok (.aload_n 0, 1) := by decide +kernel
theorem dL_areTunesSo_218 : decode cL_areTunesSo 218 = .ok (.invokevirtual 83, 3) := by decide +kernel
theorem dL_areTunesSo_221 : decode cL_areTunesSo 221 = .ok (.iconst 1, 1) := by decide +kernel
theorem dL_areTunesSo_222 : decode cL_areTunesSo 222 = .ok (.if_icmp .eq 65, 3) := by decide +kernel
theorem dL_areTunesSo_225 : decode cL_areTunesSo 225 = .ok (.aload_n 0, 1) := by decide +kernel
theorem dL_areTunesSo_226 : decode cL_areTunesSo 226 = .ok (.invokevirtual 83, 3) := by decide +kernel
theorem dL_areTunesSo_229 : decode cL_areTunesSo 229 = .ok (.ifCond .gt 8, 3) := by decide +kernel
theorem dL_areTunesSo_232 : decode cL_areTunesSo 232 = .ok (.iload 7, 2) := by decide +kernel
theorem dL_areTunesSo_234 : decode cL_areTunesSo 234 = .ok (.ifCond .ge 53, 3) := by decide +kernel
theorem dL_areTunesSo_237 : decode cL_areTunesSo 237 = .ok (.aload_n 0, 1) := by decide +kernel
theorem dL_areTunesSo_238 : decode cL_areTunesSo 238 = .ok (.invokevirtual 89, 3) := by decide +kernel
theorem dL_areTunesSo_241 : decode cL_areTunesSo 241 = .ok (.iload 6, 2) := by decide +kernel
theorem dL_areTunesSo_243 : decode cL_areTunesSo 243 = .ok (.ishr, 1) := by decide +kernel
theorem dL_areTunesSo_244 : decode cL_areTunesSo 244 = .ok (.iconst 1, 1) := by decide +kernel
theorem dL_areTunesSo_245 : decode cL_areTunesSo 245 = .ok (.iand, 1) := by decide +kernel
theorem dL_areTunesSo_246 : decode cL_areTunesSo 246 = .ok (.ifCond .eq 10, 3) := by decide +kernel
theorem dL_areTunesSo_249 : decode cL_areTunesSo 249 = .ok (.iload 7, 2) := by decide +kernel
theorem dL_areTunesSo_251 : decode cL_areTunesSo 251 = .ok (.ldc 42, 2) := by decide +kernel
theorem dL_areTunesSo_253 : decode cL_areTunesSo 253 = .ok (.if_icmp .eq 34, 3) := by decide +kernel
theorem dL_areTunesSo_256 : decode cL_areTunesSo 256 = .ok (.iload 7, 2) := by decide +kernel
theorem dL_areTunesSo_258 : decode cL_areTunesSo 258 = .ok (.ifCond .lt 25, 3) := by decide +kernel
theorem dL_areTunesSo_261 : decode cL_areTunesSo 261 = .ok (.aload_n 0, 1) := by decide +kernel
theorem dL_areTunesSo_262 : decode cL_areTunesSo 262 = .ok (.iload 6, 2) := by decide +kernel
theorem dL_areTunesSo_264 : decode cL_areTunesSo 264 = .ok (.invokevirtual 95, 3) := by decide +kernel
theorem dL_areTunesSo_267 : decode cL_areTunesSo 267 = .ok (.iconst 2, 1) := by decide +kernel
theorem dL_areTunesSo_268 : decode cL_areTunesSo 268 = .ok (.aload_n 0, 1) := by decide +kernel
theorem dL_areTunesSo_269 : decode cL_areTunesSo 269 = .ok (.iload 6, 2) := by decide +kernel
theorem dL_areTunesSo_271 : decode cL_areTunesSo 271 = .ok (.invokevirtual 95, 3) := by decide +kernel
theorem dL_areTunesSo_274 : decode cL_areTunesSo 274 = .ok (.imul, 1) := by decide +kernel
theorem dL_areTunesSo_275 : decode cL_areTunesSo 275 = .ok (.iadd, 1) := by decide +kernel
theorem dL_areTunesSo_276 : decode cL_areTunesSo 276 = .ok (.aload_n 0, 1) := by decide +kernel
theorem dL_areTunesSo_277 : decode cL_areTunesSo 277 = .ok (.invokevirtual 83, 3) := by decide +kernel
theorem dL_areTunesSo_280 : decode cL_areTunesSo 280 = .ok (.if_icmp .lt 7, 3) := by decide +kernel
theorem dL_areTunesSo_283 : decode cL_areTunesSo 283 = .ok (.iconst 1, 1) := by decide +kernel
theorem dL_areTunesSo_284 : decode cL_areTunesSo 284 = .ok (.goto 4, 3) := by decide +kernel
theorem dL_areTunesSo_287 : decode cL_areTunesSo 287 = .ok (.iconst 0, 1) := by decide +kernel
theorem dL_areTunesSo_288 : decode cL_areTunesSo 288 = .ok (.istore 5, 2) := by decide +kernel
theorem dL_areTunesSo_290 : decode cL_areTunesSo 290 = .ok (.iinc 6 1, 3) := by decide +kernel
theorem dL_areTunesSo_293 : decode cL_areTunesSo 293 = .ok (.goto (-260), 3) := by decide +kernel
theorem dL_areTunesSo_296 : decode cL_areTunesSo 296 = .ok (.iconst 0, 1) := by decide +kernel
theorem dL_areTunesSo_297 : decode cL_areTunesSo 297 = .ok (.istore 6, 2) := by decide +kernel
theorem dL_areTunesSo_299 : decode cL_areTunesSo 299 = .ok (.iload 6, 2) := by decide +kernel
theorem dL_areTunesSo_301 : decode cL_areTunesSo 301 = .ok (.iload_n 3, 1) := by decide +kernel
theorem dL_areTunesSo_302 : decode cL_areTunesSo 302 = .ok (.if_icmp .ge 27, 3) := by decide +kernel
theorem dL_areTunesSo_305 : decode cL_areTunesSo 305 = .ok (.iload 5, 2) := by decide +kernel
theorem dL_areTunesSo_307 : decode cL_areTunesSo 307 = .ok (.ifCond .eq 22, 3) := by decide +kernel
theorem dL_areTunesSo_310 : decode cL_areTunesSo 310 = .ok (.iload 4, 2) := by decide +kernel
theorem dL_areTunesSo_312 : decode cL_areTunesSo 312 = .ok (.iconst 1, 1) := by decide +kernel
theorem dL_areTunesSo_313 : decode cL_areTunesSo 313 = .ok (.aload_n 0, 1) := by decide +kernel
theorem dL_areTunesSo_314 : decode cL_areTunesSo 314 = .ok (.iload 6, 2) := by decide +kernel
theorem dL_areTunesSo_316 : decode cL_areTunesSo 316 = .ok (.invokevirtual 110, 3) := by decide +kernel
theorem dL_areTunesSo_319 : decode cL_areTunesSo 319 = .ok (.ishl, 1) := by decide +kernel
theorem dL_areTunesSo_320 : decode cL_areTunesSo 320 = .ok (.ior, 1) := by decide +kernel
theorem dL_areTunesSo_321 : decode cL_areTunesSo 321 = .ok (.istore 4, 2) := by decide +kernel
theorem dL_areTunesSo_323 : decode cL_areTunesSo 323 = .ok (.iinc 6 1, 3) := by decide +kernel
theorem dL_areTunesSo_326 : decode cL_areTunesSo 326 = .ok (.goto (-27), 3) := by decide +kernel
theorem dL_areTunesSo_329 : decode cL_areTunesSo 329 = .ok (.iconst 0, 1) := by decide +kernel
theorem dL_areTunesSo_330 : decode cL_areTunesSo 330 = .ok (.istore 6, 2) := by decide +kernel
theorem dL_areTunesSo_332 : decode cL_areTunesSo 332 = .ok (.iload 6, 2) := by decide +kernel
theorem dL_areTunesSo_334 : decode cL_areTunesSo 334 = .ok (.aload_n 0, 1) := by decide +kernel
theorem dL_areTunesSo_335 : decode cL_areTunesSo 335 = .ok (.invokevirtual 68, 3) := by decide +kernel
theorem dL_areTunesSo_338 : decode cL_areTunesSo 338 = .ok (.if_icmp .ge 45, 3) := by decide +kernel
theorem dL_areTunesSo_341 : decode cL_areTunesSo 341 = .ok (.iload 5, 2) := by decide +kernel
theorem dL_areTunesSo_343 : decode cL_areTunesSo 343 = .ok (.ifCond .eq 40, 3) := by decide +kernel
theorem dL_areTunesSo_346 : decode cL_areTunesSo 346 = .ok (.iload 4, 2) := by decide +kernel
theorem dL_areTunesSo_348 : decode cL_areTunesSo 348 = .ok (.iload 6, 2) := by decide +kernel
theorem dL_areTunesSo_350 : decode cL_areTunesSo 350 = .ok (.ishr, 1) := by decide +kernel
theorem dL_areTunesSo_351 : decode cL_areTunesSo 351 = .ok (.iconst 1, 1) := by decide +kernel
theorem dL_areTunesSo_352 : decode cL_areTunesSo 352 = .ok (.iand, 1) := by decide +kernel
theorem dL_areTunesSo_353 : decode cL_areTunesSo 353 = .ok (.aload_n 0, 1) := by decide +kernel
theorem dL_areTunesSo_354 : decode cL_areTunesSo 354 = .ok (.iload 6, 2) := by decide +kernel
theorem dL_areTunesSo_356 : decode cL_areTunesSo 356 = .ok (.invokestatic 98, 3) := by decide +kernel
theorem dL_areTunesSo_359 : decode cL_areTunesSo 359 = .ok (.ifCond .lt 7, 3) := by decide +kernel
theorem dL_areTunesSo_362 : decode cL_areTunesSo 362 = .ok (.iconst 1, 1) := by decide +kernel
theorem dL_areTunesSo_363 : decode cL_areTunesSo 363 = .ok (.goto 4, 3) := by decide +kernel
theorem dL_areTunesSo_366 : decode cL_areTunesSo 366 = .ok (.iconst 0, 1) := by decide +kernel
theorem dL_areTunesSo_367 : decode cL_areTunesSo 367 = .ok (.if_icmp .ne 7, 3) := by decide +kernel
theorem dL_areTunesSo_370 : decode cL_areTunesSo 370 = .ok (.iconst 1, 1) := by decide +kernel
theorem dL_areTunesSo_371 : decode cL_areTunesSo 371 = .ok (.goto 4, 3) := by decide +kernel
theorem dL_areTunesSo_374 : decode cL_areTunesSo 374 = .ok (.iconst 0, 1) := by decide +kernel
theorem dL_areTunesSo_375 : decode cL_areTunesSo 375 = .ok (.istore 5, 2) := by decide +kernel
theorem dL_areTunesSo_377 : decode cL_areTunesSo 377 = .ok (.iinc 6 1, 3) := by decide +kernel
theorem dL_areTunesSo_380 : decode cL_areTunesSo 380 = .ok (.goto (-48), 3) := by decide +kernel
theorem dL_areTunesSo_383 : decode cL_areTunesSo 383 = .ok (.iload 5, 2) := by decide +kernel
theorem dL_areTunesSo_385 : decode cL_areTunesSo 385 = .ok (.ifCond .eq 23, 3) := by decide +kernel
theorem dL_areTunesSo_388 : decode cL_areTunesSo 388 = .ok (.aload_n 0, 1) := by decide +kernel
theorem dL_areTunesSo_389 : decode cL_areTunesSo 389 = .ok (.invokevirtual 92, 3) := by decide +kernel
theorem dL_areTunesSo_392 : decode cL_areTunesSo 392 = .ok (.iload_n 2, 1) := by decide +kernel
theorem dL_areTunesSo_393 : decode cL_areTunesSo 393 = .ok (.if_icmp .ne 15, 3) := by decide +kernel
theorem dL_areTunesSo_396 : decode cL_areTunesSo 396 = .ok (.aload_n 0, 1) := by decide +kernel
theorem dL_areTunesSo_397 : decode cL_areTunesSo 397 = .ok (.invokevirtual 86, 3) := by decide +kernel
theorem dL_areTunesSo_400 : decode cL_areTunesSo 400 = .ok (.iload_n 3, 1) := by decide +kernel
theorem dL_areTunesSo_401 : decode cL_areTunesSo 401 = .ok (.if_icmp .ne 7, 3) := by decide +kernel
theorem dL_areTunesSo_404 : decode cL_areTunesSo 404 = .ok (.iconst 1, 1) := by decide +kernel
theorem dL_areTunesSo_405 : decode cL_areTunesSo 405 = .ok (.goto 4, 3) := by decide +kernel
theorem dL_areTunesSo_408 : decode cL_areTunesSo 408 = .ok (.iconst 0, 1) := by decide +kernel
theorem dL_areTunesSo_409 : decode cL_areTunesSo 409 = .ok (.ireturn, 1) := by decide +kernel
theorem dL_isHummedSo_0 : decode cL_isHummedSo 0 = .ok (.aload_n 0, 1) := by decide +kernel
theorem dL_isHummedSo_1 : decode cL_isHummedSo 1 = .ok (.iload_n 2, 1) := by decide +kernel
theorem dL_isHummedSo_2 : decode cL_isHummedSo 2 = .ok (.invokestatic 98, 3) := by decide +kernel
theorem dL_isHummedSo_5 : decode cL_isHummedSo 5 = .ok (.ldc 42, 2) := by decide +kernel
theorem dL_isHummedSo_7 : decode cL_isHummedSo 7 = .ok (.if_icmp .ne 19, 3) := by decide +kernel
theorem dL_isHummedSo_10 : decode cL_isHummedSo 10 = .ok (.aload_n 1, 1) := by decide +kernel
theorem dL_isHummedSo_11 : decode cL_isHummedSo 11 = .ok (.iload_n 2, 1) := by decide +kernel
theorem dL_isHummedSo_12 : decode cL_isHummedSo 12 = .ok (.invokestatic 98, 3) := by decide +kernel
theorem dL_isHummedSo_15 : decode cL_isHummedSo 15 = .ok (.ldc 42, 2) := by decide +kernel
theorem dL_isHummedSo_17 : decode cL_isHummedSo 17 = .ok (.if_icmp .ne 7, 3) := by decide +kernel
theorem dL_isHummedSo_20 : decode cL_isHummedSo 20 = .ok (.iconst 1, 1) := by decide +kernel
theorem dL_isHummedSo_21 : decode cL_isHummedSo 21 = .ok (.goto 4, 3) := by decide +kernel
theorem dL_isHummedSo_24 : decode cL_isHummedSo 24 = .ok (.iconst 0, 1) := by decide +kernel
theorem dL_isHummedSo_25 : decode cL_isHummedSo 25 = .ok (.ireturn, 1) := by decide +kernel
theorem dL_isHummedSo_26 : decode cL_isHummedSo 26 = .ok (.bipush 30, 2) := by decide +kernel
theorem dL_isHummedSo_28 : decode cL_isHummedSo 28 = .ok (.istore_n 3, 1) := by decide +kernel
theorem dL_isHummedSo_29 : decode cL_isHummedSo 29 = .ok (.aload_n 0, 1) := by decide +kernel
theorem dL_isHummedSo_30 : decode cL_isHummedSo 30 = .ok (.iload_n 2, 1) := by decide +kernel
theorem dL_isHummedSo_31 : decode cL_isHummedSo 31 = .ok (.invokevirtual 95, 3) := by decide +kernel
theorem dL_isHummedSo_34 : decode cL_isHummedSo 34 = .ok (.bipush 12, 2) := by decide +kernel
theorem dL_isHummedSo_36 : decode cL_isHummedSo 36 = .ok (.if_icmp .ge 11, 3) := by decide +kernel
theorem dL_isHummedSo_39 : decode cL_isHummedSo 39 = .ok (.aload_n 0, 1) := by decide +kernel
theorem dL_isHummedSo_40 : decode cL_isHummedSo 40 = .ok (.iload_n 2, 1) := by decide +kernel
theorem dL_isHummedSo_41 : decode cL_isHummedSo 41 = .ok (.invokevirtual 95, 3) := by decide +kernel
theorem dL_isHummedSo_44 : decode cL_isHummedSo 44 = .ok (.goto 5, 3) := by decide +kernel
theorem dL_isHummedSo_47 : decode cL_isHummedSo 47 = .ok (.bipush 12, 2) := by decide +kernel
theorem dL_isHummedSo_49 : decode cL_isHummedSo 49 = .ok (.istore 4, 2) := by decide +kernel
theorem dL_isHummedSo_51 : decode cL_isHummedSo 51 = .ok (.aload_n 0, 1) := by decide +kernel
theorem dL_isHummedSo_52 : decode cL_isHummedSo 52 = .ok (.invokevirtual 80, 3) := by decide +kernel
theorem dL_isHummedSo_55 : decode cL_isHummedSo 55 = .ok (.pop, 1) := by decide +kernel
theorem dL_isHummedSo_56 : decode cL_isHummedSo 56 = .ok (.aload_n 1, 1) := by decide +kernel
theorem dL_isHummedSo_57 : decode cL_isHummedSo 57 = .ok (.invokevirtual 80, 3) := by decide +kernel
theorem dL_isHummedSo_60 : decode cL_isHummedSo 60 = .ok (.pop, 1) := by decide +kernel
theorem dL_isHummedSo_61 : decode cL_isHummedSo 61 = .ok (.aload_n 0, 1) := by decide +kernel
theorem dL_isHummedSo_62 : decode cL_isHummedSo 62 = .ok (.iload_n 3, 1) := by decide +kernel
theorem dL_isHummedSo_63 : decode cL_isHummedSo 63 = .ok (.invokevirtual 28, 3) := by decide +kernel
theorem dL_isHummedSo_66 : decode cL_isHummedSo 66 = .ok (.iconst 1, 1) := by decide +kernel
theorem dL_isHummedSo_67 : decode cL_isHummedSo 67 = .ok (.if_icmp .ne 16, 3) := by decide +kernel
theorem dL_isHummedSo_70 : decode cL_isHummedSo 70 = .ok (.aload_n 1, 1) := by decide +kernel
theorem dL_isHummedSo_71 : decode cL_isHummedSo 71 = .ok (.iload_n 3, 1) := by decide +kernel
theorem dL_isHummedSo_72 : decode cL_isHummedSo 72 = .ok (.invokevirtual 28, 3) := by decide +kernel
theorem dL_isHummedSo_75 : decode cL_isHummedSo 75 = .ok (.iconst 1, 1) := by decide +kernel
theorem dL_isHummedSo_76 : decode cL_isHummedSo 76 = .ok (.if_icmp .ne 7, 3) := by decide +kernel
theorem dL_isHummedSo_79 : decode cL_isHummedSo 79 = .ok (.iconst 1, 1) := by decide +kernel
theorem dL_isHummedSo_80 : decode cL_isHummedSo 80 = .ok (.goto 4, 3) := by decide +kernel
theorem dL_isHummedSo_83 : decode cL_isHummedSo 83 = .ok (.iconst 0, 1) := by decide +kernel
theorem dL_isHummedSo_84 : decode cL_isHummedSo 84 = .ok (.istore 5, 2) := by decide +kernel
theorem dL_isHummedSo_86 : decode cL_isHummedSo 86 = .ok (.iconst 1, 1) := by decide +kernel
theorem dL_isHummedSo_87 : decode cL_isHummedSo 87 = .ok (.istore 6, 2) := by decide +kernel
theorem dL_isHummedSo_89 : decode cL_isHummedSo 89 = .ok (.iconst 1, 1) := by decide +kernel
theorem dL_isHummedSo_90 : decode cL_isHummedSo 90 = .ok (.istore 7, 2) := by decide +kernel
theorem dL_isHummedSo_92 : decode cL_isHummedSo 92 = .ok (.iload 7, 2) := by decide +kernel
theorem dL_isHummedSo_94 : decode cL_isHummedSo 94 = .ok (.iload 4, 2) := by decide +kernel
theorem dL_isHummedSo_96 : decode cL_isHummedSo 96 = .ok (.if_icmp .ge 77, 3) := by decide +kernel
theorem dL_isHummedSo_99 : decode cL_isHummedSo 99 = .ok (.iload 5, 2) := by decide +kernel
theorem dL_isHummedSo_101 : decode cL_isHummedSo 101 = .ok (.ifCond .eq 72, 3) := by decide +kernel
theorem dL_isHummedSo_104 : decode cL_isHummedSo 104 = .ok (.iload 6, 2) := by decide +kernel
theorem dL_isHummedSo_106 : decode cL_isHummedSo 106 = .ok (.iload 7, 2) := by decide +kernel
theorem dL_isHummedSo_108 : decode cL_isHummedSo 108 = .ok (.if_icmp .ne 65, 3) := by decide +kernel
theorem dL_isHummedSo_111 : decode cL_isHummedSo 111 = .ok (.iload_n 3, 1) := by decide +kernel
theorem dL_isHummedSo_112 : decode cL_isHummedSo 112 = .ok (.aload_n 0, 1) := by decide +kernel
theorem dL_isHummedSo_113 : decode cL_isHummedSo 113 = .ok (.iload_n 2, 1) := by decide +kernel
theorem dL_isHummedSo_114 : decode cL_isHummedSo 114 = .ok (.iload 7, 2) := by decide +kernel
theorem dL_isHummedSo_116 : decode cL_isHummedSo 116 = .ok (.iconst 1, 1) := by decide +kernel
theorem dL_isHummedSo_117 : decode cL_isHummedSo 117 = .ok (.isub, 1) := by decide +kernel
theorem dL_isHummedSo_118 : decode cL_isHummedSo 118 = .ok (.invokevirtual 104, 3) := by decide +kernel
theorem dL_isHummedSo_121 : decode cL_isHummedSo 121 = .ok (.iadd, 1) := by decide +kernel
theorem dL_isHummedSo_122 : decode cL_isHummedSo 122 = .ok (.istore_n 3, 1) := by decide +kernel
theorem dL_isHummedSo_123 : decode cL_isHummedSo 123 = .ok (.iload_n 3, 1) := by decide +kernel
theorem dL_isHummedSo_124 : decode cL_isHummedSo 124 = .ok (.ifCond .lt 43, 3) := by decide +kernel
theorem dL_isHummedSo_127 : decode cL_isHummedSo 127 = .ok (.iload_n 3, 1) := by decide +kernel
theorem dL_isHummedSo_128 : decode cL_isHummedSo 128 = .ok (.bipush 60, 2) := by decide +kernel
theorem dL_isHummedSo_130 : decode cL_isHummedSo 130 = .ok (.if_icmp .gt 37, 3) := by decide +kernel
theorem dL_isHummedSo_133 : decode cL_isHummedSo 133 = .ok (.aload_n 0, 1) := by decide +kernel
theorem dL_isHummedSo_134 : decode cL_isHummedSo 134 = .ok (.iload_n 3, 1) := by decide +kernel
theorem dL_isHummedSo_135 : decode cL_isHummedSo 135 = .ok (.invokevirtual 28, 3) := by decide +kernel
theorem dL_isHummedSo_138 : decode cL_isHummedSo 138 = .ok (.iload 7, 2) := by decide +kernel
theorem dL_isHummedSo_140 : decode cL_isHummedSo 140 = .ok (.iconst 1, 1) := by decide +kernel
theorem dL_isHummedSo_141 : decode cL_isHummedSo 141 = .ok (.iadd, 1) := by decide +kernel
theorem dL_isHummedSo_142 : decode cL_isHummedSo 142 = .ok (.if_icmp .ne 19, 3) := by decide +kernel
theorem dL_isHummedSo_145 : decode cL_isHummedSo 145 = .ok (.aload_n 1, 1) := by decide +kernel
theorem dL_isHummedSo_146 : decode cL_isHummedSo 146 = .ok (.iload_n 3, 1) := by decide +kernel
theorem dL_isHummedSo_147 : decode cL_isHummedSo 147 = .ok (.invokevirtual 28, 3) := by decide +kernel
theorem dL_isHummedSo_150 : decode cL_isHummedSo 150 = .ok (.iload 7, 2) := by decide +kernel
theorem dL_isHummedSo_152 : decode cL_isHummedSo 152 = .ok (.iconst 1, 1) := by decide +kernel
theorem dL_isHummedSo_153 : decode cL_isHummedSo 153 = .ok (.iadd, 1) := by decide +kernel
theorem dL_isHummedSo_154 : decode cL_isHummedSo 154 = .ok (.if_icmp .ne 7, 3) := by decide +kernel
theorem dL_isHummedSo_157 : decode cL_isHummedSo 157 = .ok (.iconst 1, 1) := by decide +kernel
theorem dL_isHummedSo_158 : decode cL_isHummedSo 158 = .ok (.goto 4, 3) := by decide +kernel
theorem dL_isHummedSo_161 : decode cL_isHummedSo 161 = .ok (.iconst 0, 1) := by decide +kernel
theorem dL_isHummedSo_162 : decode cL_isHummedSo 162 = .ok (.istore 5, 2) := by decide +kernel
theorem dL_isHummedSo_164 : decode cL_isHummedSo 164 = .ok (.iinc 6 1, 3) := by decide +kernel
theorem dL_isHummedSo_167 : decode cL_isHummedSo 167 = .ok (.iinc 7 1, 3) := by decide +kernel
theorem dL_isHummedSo_170 : decode cL_isHummedSo 170 = .ok (.goto (-78), 3) := by decide +kernel
theorem dL_isHummedSo_173 : decode cL_isHummedSo 173 = .ok (.iload 5, 2) := by decide +kernel
theorem dL_isHummedSo_175 : decode cL_isHummedSo 175 = .ok (.ifCond .eq 54, 3) := by decide +kernel
theorem dL_isHummedSo_178 : decode cL_isHummedSo 178 = .ok (.aload_n 0, 1) := by decide +kernel
theorem dL_isHummedSo_179 : decode cL_isHummedSo 179 = .ok (.iload_n 2, 1) := by decide +kernel
theorem dL_isHummedSo_180 : decode cL_isHummedSo 180 = .ok (.invokevirtual 62, 3) := by decide +kernel
theorem dL_isHummedSo_183 : decode cL_isHummedSo 183 = .ok (.ifCond .ne 46, 3) := by decide +kernel
theorem dL_isHummedSo_186 : decode cL_isHummedSo 186 = .ok (.aload_n 1, 1) := by decide +kernel
theorem dL_isHummedSo_187 : decode cL_isHummedSo 187 = .ok (.iload_n 2, 1) := by decide +kernel
theorem dL_isHummedSo_188 : decode cL_isHummedSo 188 = .ok (.invokevirtual 62, 3) := by decide +kernel
theorem dL_isHummedSo_191 : decode cL_isHummedSo 191 = .ok (.ifCond .ne 38, 3) := by decide +kernel
theorem dL_isHummedSo_194 : decode cL_isHummedSo 194 = .ok (.aload_n 0, 1) := by decide +kernel
theorem dL_isHummedSo_195 : decode cL_isHummedSo 195 = .ok (.invokevirtual 89, 3) := by decide +kernel
theorem dL_isHummedSo_198 : decode cL_isHummedSo 198 = .ok (.iload_n 2, 1) := by decide +kernel
theorem dL_isHummedSo_199 : decode cL_isHummedSo 199 = .ok (.ishr, 1) := by decide +kernel
theorem dL_isHummedSo_200 : decode cL_isHummedSo 200 = .ok (.iconst 1, 1) := by decide +kernel
theorem dL_isHummedSo_201 : decode cL_isHummedSo 201 = .ok (.iand, 1) := by decide +kernel
theorem dL_isHummedSo_202 : decode cL_isHummedSo 202 = .ok (.iconst 1, 1) := by decide +kernel
theorem dL_isHummedSo_203 : decode cL_isHummedSo 203 = .ok (.if_icmp .ne 26, 3) := by decide +kernel
theorem dL_isHummedSo_206 : decode cL_isHummedSo 206 = .ok (.aload_n 0, 1) := by decide +kernel
theorem dL_isHummedSo_207 : decode cL_isHummedSo 207 = .ok (.invokevirtual 86, 3) := by decide +kernel
theorem dL_isHummedSo_210 : decode cL_isHummedSo 210 = .ok (.ifCond .le 19, 3) := by decide +kernel
theorem dL_isHummedSo_213 : decode cL_isHummedSo 213 = .ok (.aload_n 0, 1) := by decide +kernel
theorem dL_isHummedSo_214 : decode cL_isHummedSo 214 = .ok (.aload_n 0, 1) := by decide +kernel
theorem dL_isHummedSo_215 : decode cL_isHummedSo 215 = .ok (.iconst 0, 1) := by decide +kernel
theorem dL_isHummedSo_216 : decode cL_isHummedSo 216 = .ok (.invokevirtual 110, 3) := by decide +kernel
theorem dL_isHummedSo_219 : decode cL_isHummedSo 219 = .ok (.invokestatic 98, 3) := by decide +kernel
theorem dL_isHummedSo_222 : decode cL_isHummedSo 222 = .ok (.ifCond .ne 7, 3) := by decide +kernel
theorem dL_isHummedSo_225 : decode cL_isHummedSo 225 = .ok (.iconst 1, 1) := by decide +kernel
theorem dL_isHummedSo_226 : decode cL_isHummedSo 226 = .ok (.goto 4, 3) := by decide +kernel
theorem dL_isHummedSo_229 : decode cL_isHummedSo 229 = .ok (.iconst 0, 1) := by decide +kernel
theorem dL_isHummedSo_230 : decode cL_isHummedSo 230 = .ok (.istore 5, 2) := by decide +kernel
theorem dL_isHummedSo_232 : decode cL_isHummedSo 232 = .ok (.iload 6, 2) := by decide +kernel
theorem dL_isHummedSo_234 : decode cL_isHummedSo 234 = .ok (.iconst 1, 1) := by decide +kernel
theorem dL_isHummedSo_235 : decode cL_isHummedSo 235 = .ok (.isub, 1) := by decide +kernel
theorem dL_isHummedSo_236 : decode cL_isHummedSo 236 = .ok (.iconst 4, 1) := by decide +kernel
theorem dL_isHummedSo_237 : decode cL_isHummedSo 237 = .ok (.if_icmp .ge 10, 3) := by decide +kernel
theorem dL_isHummedSo_240 : decode cL_isHummedSo 240 = .ok (.iload 6, 2) := by decide +kernel
theorem dL_isHummedSo_242 : decode cL_isHummedSo 242 = .ok (.iconst 1, 1) := by decide +kernel
theorem dL_isHummedSo_243 : decode cL_isHummedSo 243 = .ok (.isub, 1) := by decide +kernel
theorem dL_isHummedSo_244 : decode cL_isHummedSo 244 = .ok (.goto 4, 3) := by decide +kernel
theorem dL_isHummedSo_247 : decode cL_isHummedSo 247 = .ok (.iconst 4, 1) := by decide +kernel
theorem dL_isHummedSo_248 : decode cL_isHummedSo 248 = .ok (.istore 7, 2) := by decide +kernel
theorem dL_isHummedSo_250 : decode cL_isHummedSo 250 = .ok (.iload 5, 2) := by decide +kernel
theorem dL_isHummedSo_252 : decode cL_isHummedSo 252 = .ok (.ifCond .eq 36, 3) := by decide +kernel
theorem dL_isHummedSo_255 : decode cL_isHummedSo 255 = .ok (.iload 7, 2) := by decide +kernel
theorem dL_isHummedSo_257 : decode cL_isHummedSo 257 = .ok (.ifCond .eq 27, 3) := by decide +kernel
theorem dL_isHummedSo_260 : decode cL_isHummedSo 260 = .ok (.aload_n 0, 1) := by decide +kernel
theorem dL_isHummedSo_261 : decode cL_isHummedSo 261 = .ok (.iload 7, 2) := by decide +kernel
theorem dL_isHummedSo_263 : decode cL_isHummedSo 263 = .ok (.invokevirtual 37, 3) := by decide +kernel
theorem dL_isHummedSo_266 : decode cL_isHummedSo 266 = .ok (.ifCond .le 22, 3) := by decide +kernel
theorem dL_isHummedSo_269 : decode cL_isHummedSo 269 = .ok (.aload_n 0, 1) := by decide +kernel
theorem dL_isHummedSo_270 : decode cL_isHummedSo 270 = .ok (.iload 7, 2) := by decide +kernel
theorem dL_isHummedSo_272 : decode cL_isHummedSo 272 = .ok (.invokevirtual 37, 3) := by decide +kernel
theorem dL_isHummedSo_275 : decode cL_isHummedSo 275 = .ok (.aload_n 1, 1) := by decide +kernel
theorem dL_isHummedSo_276 : decode cL_isHummedSo 276 = .ok (.iload 7, 2) := by decide +kernel
theorem dL_isHummedSo_278 : decode cL_isHummedSo 278 = .ok (.invokevirtual 37, 3) := by decide +kernel
theorem dL_isHummedSo_281 : decode cL_isHummedSo 281 = .ok (.if_icmp .ne 7, 3) := by decide +kernel
theorem dL_isHummedSo_284 : decode cL_isHummedSo 284 = .ok (.iconst 1, 1) := by decide +kernel
theorem dL_isHummedSo_285 : decode cL_isHummedSo 285 = .ok (.goto 4, 3) := by decide +kernel
theorem dL_isHummedSo_288 : decode cL_isHummedSo 288 = .ok (.iconst 0, 1) := by decide +kernel
theorem dL_isHummedSo_289 : decode cL_isHummedSo 289 = .ok (.ireturn, 1) := by decide +kernel
theorem dL_law_0 : decode cL_law 0 = .ok (.new 9, 3) := by decide +kernel
theorem dL_law_3 : decode cL_law 3 = .ok (.dup, 1) := by decide +kernel
theorem dL_law_4 : decode cL_law 4 = .ok (.invokespecial 113, 3) := by decide +kernel
theorem dL_law_7 : decode cL_law 7 = .ok (.astore_n 1, 1) := by decide +kernel
theorem dL_law_8 : decode cL_law 8 = .ok (.new 9, 3) := by decide +kernel
theorem dL_law_11 : decode cL_law 11 = .ok (.dup, 1) := by decide +kernel
theorem dL_law_12 : decode cL_law 12 = .ok (.invokespecial 113, 3) := by decide +kernel
theorem dL_law_15 : decode cL_law 15 = .ok (.astore_n 2, 1) := by decide +kernel
theorem dL_law_16 : decode cL_law 16 = .ok (.iconst 1, 1) := by decide +kernel
theorem dL_law_17 : decode cL_law 17 = .ok (.istore_n 3, 1) := by decide +kernel
theorem dL_law_18 : decode cL_law 18 = .ok (.iconst 0, 1) := by decide +kernel
theorem dL_law_19 : decode cL_law 19 = .ok (.istore 4, 2) := by decide +kernel
theorem dL_law_21 : decode cL_law 21 = .ok (.iload 4, 2) := by decide +kernel
theorem dL_law_23 : decode cL_law 23 = .ok (.iconst 3, 1) := by decide +kernel
theorem dL_law_24 : decode cL_law 24 = .ok (.if_icmp .ge 99, 3) := by decide +kernel
theorem dL_law_27 : decode cL_law 27 = .ok (.iload_n 3, 1) := by decide +kernel
theorem dL_law_28 : decode cL_law 28 = .ok (.ifCond .eq 87, 3) := by decide +kernel
theorem dL_law_31 : decode cL_law 31 = .ok (.aload_n 1, 1) := by decide +kernel
theorem dL_law_32 : decode cL_law 32 = .ok (.iconst 0, 1) := by decide +kernel
theorem dL_law_33 : decode cL_law 33 = .ok (.bipush 25, 2) := by decide +kernel
theorem dL_law_35 : decode cL_law 35 = .ok (.aload_n 0, 1) := by decide +kernel
theorem dL_law_36 : decode cL_law 36 = .ok (.iload 4, 2) := by decide +kernel
theorem dL_law_38 : decode cL_law 38 = .ok (.invokestatic 114, 3) := by decide +kernel
theorem dL_law_41 : decode cL_law 41 = .ok (.bipush 9, 2) := by decide +kernel
theorem dL_law_43 : decode cL_law 43 = .ok (.invokestatic 65, 3) := by decide +kernel
theorem dL_law_46 : decode cL_law 46 = .ok (.iadd, 1) := by decide +kernel
theorem dL_law_47 : decode cL_law 47 = .ok (.iconst 1, 1) := by decide +kernel
theorem dL_law_48 : decode cL_law 48 = .ok (.aload_n 0, 1) := by decide +kernel
theorem dL_law_49 : decode cL_law 49 = .ok (.iload 4, 2) := by decide +kernel
theorem dL_law_51 : decode cL_law 51 = .ok (.invokestatic 114, 3) := by decide +kernel
theorem dL_law_54 : decode cL_law 54 = .ok (.iconst 4, 1) := by decide +kernel
theorem dL_law_55 : decode cL_law 55 = .ok (.ishr, 1) := by decide +kernel
theorem dL_law_56 : decode cL_law 56 = .ok (.bipush 8, 2) := by decide +kernel
theorem dL_law_58 : decode cL_law 58 = .ok (.invokestatic 65, 3) := by decide +kernel
theorem dL_law_61 : decode cL_law 61 = .ok (.iadd, 1) := by decide +kernel
theorem dL_law_62 : decode cL_law 62 = .ok (.iconst 0, 1) := by decide +kernel
theorem dL_law_63 : decode cL_law 63 = .ok (.invokestatic 72, 3) := by decide +kernel
theorem dL_law_66 : decode cL_law 66 = .ok (.iload 4, 2) := by decide +kernel
theorem dL_law_68 : decode cL_law 68 = .ok (.if_icmp .ne 47, 3) := by decide +kernel
theorem dL_law_71 : decode cL_law 71 = .ok (.aload_n 2, 1) := by decide +kernel
theorem dL_law_72 : decode cL_law 72 = .ok (.iconst 0, 1) := by decide +kernel
theorem dL_law_73 : decode cL_law 73 = .ok (.bipush 25, 2) := by decide +kernel
theorem dL_law_75 : decode cL_law 75 = .ok (.aload_n 0, 1) := by decide +kernel
theorem dL_law_76 : decode cL_law 76 = .ok (.iload 4, 2) := by decide +kernel
theorem dL_law_78 : decode cL_law 78 = .ok (.invokestatic 114, 3) := by decide +kernel
theorem dL_law_81 : decode cL_law 81 = .ok (.bipush 9, 2) := by decide +kernel
theorem dL_law_83 : decode cL_law 83 = .ok (.invokestatic 65, 3) := by decide +kernel
theorem dL_law_86 : decode cL_law 86 = .ok (.iadd, 1) := by decide +kernel
theorem dL_law_87 : decode cL_law 87 = .ok (.iconst 1, 1) := by decide +kernel
theorem dL_law_88 : decode cL_law 88 = .ok (.aload_n 0, 1) := by decide +kernel
theorem dL_law_89 : decode cL_law 89 = .ok (.iload 4, 2) := by decide +kernel
theorem dL_law_91 : decode cL_law 91 = .ok (.invokestatic 114, 3) := by decide +kernel
theorem dL_law_94 : decode cL_law 94 = .ok (.iconst 4, 1) := by decide +kernel
theorem dL_law_95 : decode cL_law 95 = .ok (.ishr, 1) := by decide +kernel
theorem dL_law_96 : decode cL_law 96 = .ok (.bipush 8, 2) := by decide +kernel
theorem dL_law_98 : decode cL_law 98 = .ok (.invokestatic 65, 3) := by decide +kernel
theorem dL_law_101 : decode cL_law 101 = .ok (.iadd, 1) := by decide +kernel
theorem dL_law_102 : decode cL_law 102 = .ok (.iconst 0, 1) := by decide +kernel
theorem dL_law_103 : decode cL_law 103 = .ok (.invokestatic 72, 3) := by decide +kernel
theorem dL_law_106 : decode cL_law 106 = .ok (.iload 4, 2) := by decide +kernel
theorem dL_law_108 : decode cL_law 108 = .ok (.if_icmp .ne 7, 3) := by decide +kernel
theorem dL_law_111 : decode cL_law 111 = .ok (.iconst 1, 1) := by decide +kernel
theorem dL_law_112 : decode cL_law 112 = .ok (.goto 4, 3) := by decide +kernel
theorem dL_law_115 : decode cL_law 115 = .ok (.iconst 0, 1) := by decide +kernel
theorem dL_law_116 : decode cL_law 116 = .ok (.istore_n 3, 1) := by decide +kernel
theorem dL_law_117 : decode cL_law 117 = .ok (.iinc 4 1, 3) := by decide +kernel
theorem dL_law_120 : decode cL_law 120 = .ok (.goto (-99), 3) := by decide +kernel
theorem dL_law_123 : decode cL_law 123 = .ok (.iconst 3, 1) := by decide +kernel
theorem dL_law_124 : decode cL_law 124 = .ok (.istore 4, 2) := by decide +kernel
theorem dL_law_126 : decode cL_law 126 = .ok (.iload 4, 2) := by decide +kernel
theorem dL_law_128 : decode cL_law 128 = .ok (.bipush 80, 2) := by decide +kernel
theorem dL_law_130 : decode cL_law 130 = .ok (.if_icmp .ge 135, 3) := by decide +kernel
theorem dL_law_133 : decode cL_law 133 = .ok (.iload_n 3, 1) := by decide +kernel
theorem dL_law_134 : decode cL_law 134 = .ok (.ifCond .eq 131, 3) := by decide +kernel
theorem dL_law_137 : decode cL_law 137 = .ok (.aload_n 0, 1) := by decide +kernel
theorem dL_law_138 : decode cL_law 138 = .ok (.iload 4, 2) := by decide +kernel
theorem dL_law_140 : decode cL_law 140 = .ok (.invokestatic 114, 3) := by decide +kernel
theorem dL_law_143 : decode cL_law 143 = .ok (.istore 5, 2) := by decide +kernel
theorem dL_law_145 : decode cL_law 145 = .ok (.aload_n 1, 1) := by decide +kernel
theorem dL_law_146 : decode cL_law 146 = .ok (.iload 5, 2) := by decide +kernel
theorem dL_law_148 : decode cL_law 148 = .ok (.invokestatic 118, 3) := by decide +kernel
theorem dL_law_151 : decode cL_law 151 = .ok (.istore 6, 2) := by decide +kernel
theorem dL_law_153 : decode cL_law 153 = .ok (.iload 6, 2) := by decide +kernel
theorem dL_law_155 : decode cL_law 155 = .ok (.ldc 42, 2) := by decide +kernel
theorem dL_law_157 : decode cL_law 157 = .ok (.if_icmp .eq 14, 3) := by decide +kernel
theorem dL_law_160 : decode cL_law 160 = .ok (.aload_n 2, 1) := by decide +kernel
theorem dL_law_161 : decode cL_law 161 = .ok (.iload 5, 2) := by decide +kernel
theorem dL_law_163 : decode cL_law 163 = .ok (.invokestatic 118, 3) := by decide +kernel
theorem dL_law_166 : decode cL_law 166 = .ok (.iload 6, 2) := by decide +kernel
theorem dL_law_168 : decode cL_law 168 = .ok (.if_icmp .ne 50, 3) := by decide +kernel
theorem dL_law_171 : decode cL_law 171 = .ok (.iload 4, 2) := by decide +kernel
theorem dL_law_173 : decode cL_law 173 = .ok (.bipush 6, 2) := by decide +kernel
theorem dL_law_175 : decode cL_law 175 = .ok (.irem, 1) := by decide +kernel
theorem dL_law_176 : decode cL_law 176 = .ok (.iconst 3, 1) := by decide +kernel
theorem dL_law_177 : decode cL_law 177 = .ok (.if_icmp .ne 11, 3) := by decide +kernel
theorem dL_law_180 : decode cL_law 180 = .ok (.aload_n 1, 1) := by decide +kernel
theorem dL_law_181 : decode cL_law 181 = .ok (.aload_n 2, 1) := by decide +kernel
theorem dL_law_182 : decode cL_law 182 = .ok (.invokestatic 121, 3) := by decide +kernel
theorem dL_law_185 : decode cL_law 185 = .ok (.ifCond .eq 33, 3) := by decide +kernel
theorem dL_law_188 : decode cL_law 188 = .ok (.iload 4, 2) := by decide +kernel
theorem dL_law_190 : decode cL_law 190 = .ok (.iconst 4, 1) := by decide +kernel
theorem dL_law_191 : decode cL_law 191 = .ok (.irem, 1) := by decide +kernel
theorem dL_law_192 : decode cL_law 192 = .ok (.iconst 1, 1) := by decide +kernel
theorem dL_law_193 : decode cL_law 193 = .ok (.if_icmp .ne 21, 3) := by decide +kernel
theorem dL_law_196 : decode cL_law 196 = .ok (.aload_n 1, 1) := by decide +kernel
theorem dL_law_197 : decode cL_law 197 = .ok (.iload 5, 2) := by decide +kernel
theorem dL_law_199 : decode cL_law 199 = .ok (.iconst 5, 1) := by decide +kernel
theorem dL_law_200 : decode cL_law 200 = .ok (.ishr, 1) := by decide +kernel
theorem dL_law_201 : decode cL_law 201 = .ok (.aload_n 1, 1) := by decide +kernel
theorem dL_law_202 : decode cL_law 202 = .ok (.invokevirtual 68, 3) := by decide +kernel
theorem dL_law_205 : decode cL_law 205 = .ok (.invokestatic 65, 3) := by decide +kernel
theorem dL_law_208 : decode cL_law 208 = .ok (.invokestatic 125, 3) := by decide +kernel
theorem dL_law_211 : decode cL_law 211 = .ok (.ifCond .eq 7, 3) := by decide +kernel
theorem dL_law_214 : decode cL_law 214 = .ok (.iconst 1, 1) := by decide +kernel
theorem dL_law_215 : decode cL_law 215 = .ok (.goto 4, 3) := by decide +kernel
theorem dL_law_218 : decode cL_law 218 = .ok (.iconst 0, 1) := by decide +kernel
theorem dL_law_219 : decode cL_law 219 = .ok (.istore_n 3, 1) := by decide +kernel
theorem dL_law_220 : decode cL_law 220 = .ok (.iload 4, 2) := by decide +kernel
theorem dL_law_222 : decode cL_law 222 = .ok (.bipush 9, 2) := by decide +kernel
theorem dL_law_224 : decode cL_law 224 = .ok (.irem, 1) := by decide +kernel
theorem dL_law_225 : decode cL_law 225 = .ok (.bipush 7, 2) := by decide +kernel
theorem dL_law_227 : decode cL_law 227 = .ok (.if_icmp .ne 32, 3) := by decide +kernel
theorem dL_law_230 : decode cL_law 230 = .ok (.iload_n 3, 1) := by decide +kernel
theorem dL_law_231 : decode cL_law 231 = .ok (.ifCond .eq 26, 3) := by decide +kernel
theorem dL_law_234 : decode cL_law 234 = .ok (.aload_n 1, 1) := by decide +kernel
theorem dL_law_235 : decode cL_law 235 = .ok (.aload_n 2, 1) := by decide +kernel
theorem dL_law_236 : decode cL_law 236 = .ok (.iload 5, 2) := by decide +kernel
theorem dL_law_238 : decode cL_law 238 = .ok (.iconst 3, 1) := by decide +kernel
theorem dL_law_239 : decode cL_law 239 = .ok (.ishr, 1) := by decide +kernel
theorem dL_law_240 : decode cL_law 240 = .ok (.aload_n 1, 1) := by decide +kernel
theorem dL_law_241 : decode cL_law 241 = .ok (.invokevirtual 68, 3) := by decide +kernel
theorem dL_law_244 : decode cL_law 244 = .ok (.invokestatic 65, 3) := by decide +kernel
theorem dL_law_247 : decode cL_law 247 = .ok (.invokestatic 129, 3) := by decide +kernel
theorem dL_law_250 : decode cL_law 250 = .ok (.ifCond .eq 7, 3) := by decide +kernel
theorem dL_law_253 : decode cL_law 253 = .ok (.iconst 1, 1) := by decide +kernel
theorem dL_law_254 : decode cL_law 254 = .ok (.goto 4, 3) := by decide +kernel
theorem dL_law_257 : decode cL_law 257 = .ok (.iconst 0, 1) := by decide +kernel
theorem dL_law_258 : decode cL_law 258 = .ok (.istore_n 3, 1) := by decide +kernel
theorem dL_law_259 : decode cL_law 259 = .ok (.iinc 4 1, 3) := by decide +kernel
theorem dL_law_262 : decode cL_law 262 = .ok (.goto (-136), 3) := by decide +kernel
theorem dL_law_265 : decode cL_law 265 = .ok (.iload_n 3, 1) := by decide +kernel
theorem dL_law_266 : decode cL_law 266 = .ok (.ifCond .eq 23, 3) := by decide +kernel
theorem dL_law_269 : decode cL_law 269 = .ok (.aload_n 1, 1) := by decide +kernel
theorem dL_law_270 : decode cL_law 270 = .ok (.aload_n 2, 1) := by decide +kernel
theorem dL_law_271 : decode cL_law 271 = .ok (.invokestatic 121, 3) := by decide +kernel
theorem dL_law_274 : decode cL_law 274 = .ok (.ifCond .eq 15, 3) := by decide +kernel
theorem dL_law_277 : decode cL_law 277 = .ok (.aload_n 1, 1) := by decide +kernel
theorem dL_law_278 : decode cL_law 278 = .ok (.iconst 0, 1) := by decide +kernel
theorem dL_law_279 : decode cL_law 279 = .ok (.invokestatic 125, 3) := by decide +kernel
theorem dL_law_282 : decode cL_law 282 = .ok (.ifCond .eq 7, 3) := by decide +kernel
theorem dL_law_285 : decode cL_law 285 = .ok (.iconst 1, 1) := by decide +kernel
theorem dL_law_286 : decode cL_law 286 = .ok (.goto 4, 3) := by decide +kernel
theorem dL_law_289 : decode cL_law 289 = .ok (.iconst 0, 1) := by decide +kernel
theorem dL_law_290 : decode cL_law 290 = .ok (.ireturn, 1) := by decide +kernel
