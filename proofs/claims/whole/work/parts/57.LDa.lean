theorem d_LW_law_0 : decode b_LW_law 0 = .ok (.new 8, 3) := by decide +kernel
theorem d_LW_law_3 : decode b_LW_law 3 = .ok (.dup, 1) := by decide +kernel
theorem d_LW_law_4 : decode b_LW_law 4 = .ok (.invokespecial 45, 3) := by decide +kernel
theorem d_LW_law_7 : decode b_LW_law 7 = .ok (.astore_n 1, 1) := by decide +kernel
theorem d_LW_law_8 : decode b_LW_law 8 = .ok (.new 46, 3) := by decide +kernel
theorem d_LW_law_11 : decode b_LW_law 11 = .ok (.dup, 1) := by decide +kernel
theorem d_LW_law_12 : decode b_LW_law 12 = .ok (.invokespecial 48, 3) := by decide +kernel
theorem d_LW_law_15 : decode b_LW_law 15 = .ok (.astore_n 2, 1) := by decide +kernel
theorem d_LW_law_16 : decode b_LW_law 16 = .ok (.iconst 1, 1) := by decide +kernel
theorem d_LW_law_17 : decode b_LW_law 17 = .ok (.newarray .long, 2) := by decide +kernel
theorem d_LW_law_19 : decode b_LW_law 19 = .ok (.astore_n 3, 1) := by decide +kernel
theorem d_LW_law_20 : decode b_LW_law 20 = .ok (.iconst 0, 1) := by decide +kernel
theorem d_LW_law_21 : decode b_LW_law 21 = .ok (.istore 4, 2) := by decide +kernel
theorem d_LW_law_23 : decode b_LW_law 23 = .ok (.iload 4, 2) := by decide +kernel
theorem d_LW_law_25 : decode b_LW_law 25 = .ok (.aload_n 0, 1) := by decide +kernel
theorem d_LW_law_26 : decode b_LW_law 26 = .ok (.arraylength, 1) := by decide +kernel
theorem d_LW_law_27 : decode b_LW_law 27 = .ok (.iconst 4, 1) := by decide +kernel
theorem d_LW_law_28 : decode b_LW_law 28 = .ok (.isub, 1) := by decide +kernel
theorem d_LW_law_29 : decode b_LW_law 29 = .ok (.if_icmp .gt 753, 3) := by decide +kernel
theorem d_LW_law_32 : decode b_LW_law 32 = .ok (.aload_n 0, 1) := by decide +kernel
theorem d_LW_law_33 : decode b_LW_law 33 = .ok (.iload 4, 2) := by decide +kernel
theorem d_LW_law_35 : decode b_LW_law 35 = .ok (.iaload, 1) := by decide +kernel
theorem d_LW_law_36 : decode b_LW_law 36 = .ok (.bipush 15, 2) := by decide +kernel
theorem d_LW_law_38 : decode b_LW_law 38 = .ok (.iand, 1) := by decide +kernel
theorem d_LW_law_39 : decode b_LW_law 39 = .ok (.tableswitch 737 0 10 #[57, 157, 170, 183, 251, 264, 355, 434, 506, 578, 650], 57) := by decide +kernel
theorem d_LW_law_96 : decode b_LW_law 96 = .ok (.aload_n 1, 1) := by decide +kernel
theorem d_LW_law_97 : decode b_LW_law 97 = .ok (.aload_n 0, 1) := by decide +kernel
theorem d_LW_law_98 : decode b_LW_law 98 = .ok (.iload 4, 2) := by decide +kernel
theorem d_LW_law_100 : decode b_LW_law 100 = .ok (.iconst 1, 1) := by decide +kernel
theorem d_LW_law_101 : decode b_LW_law 101 = .ok (.iadd, 1) := by decide +kernel
theorem d_LW_law_102 : decode b_LW_law 102 = .ok (.iaload, 1) := by decide +kernel
theorem d_LW_law_103 : decode b_LW_law 103 = .ok (.aload_n 0, 1) := by decide +kernel
theorem d_LW_law_104 : decode b_LW_law 104 = .ok (.iload 4, 2) := by decide +kernel
theorem d_LW_law_106 : decode b_LW_law 106 = .ok (.iconst 2, 1) := by decide +kernel
theorem d_LW_law_107 : decode b_LW_law 107 = .ok (.iadd, 1) := by decide +kernel
theorem d_LW_law_108 : decode b_LW_law 108 = .ok (.iaload, 1) := by decide +kernel
theorem d_LW_law_109 : decode b_LW_law 109 = .ok (.i2l, 1) := by decide +kernel
theorem d_LW_law_110 : decode b_LW_law 110 = .ok (.bipush 32, 2) := by decide +kernel
theorem d_LW_law_112 : decode b_LW_law 112 = .ok (.lshl, 1) := by decide +kernel
theorem d_LW_law_113 : decode b_LW_law 113 = .ok (.aload_n 0, 1) := by decide +kernel
theorem d_LW_law_114 : decode b_LW_law 114 = .ok (.iload 4, 2) := by decide +kernel
theorem d_LW_law_116 : decode b_LW_law 116 = .ok (.iconst 3, 1) := by decide +kernel
theorem d_LW_law_117 : decode b_LW_law 117 = .ok (.iadd, 1) := by decide +kernel
theorem d_LW_law_118 : decode b_LW_law 118 = .ok (.iaload, 1) := by decide +kernel
theorem d_LW_law_119 : decode b_LW_law 119 = .ok (.i2l, 1) := by decide +kernel
theorem d_LW_law_120 : decode b_LW_law 120 = .ok (.ldc2_w 49, 3) := by decide +kernel
theorem d_LW_law_123 : decode b_LW_law 123 = .ok (.land, 1) := by decide +kernel
theorem d_LW_law_124 : decode b_LW_law 124 = .ok (.lor, 1) := by decide +kernel
theorem d_LW_law_125 : decode b_LW_law 125 = .ok (.aload_n 3, 1) := by decide +kernel
theorem d_LW_law_126 : decode b_LW_law 126 = .ok (.invokestatic 51, 3) := by decide +kernel
theorem d_LW_law_129 : decode b_LW_law 129 = .ok (.istore 5, 2) := by decide +kernel
theorem d_LW_law_131 : decode b_LW_law 131 = .ok (.aload_n 2, 1) := by decide +kernel
theorem d_LW_law_132 : decode b_LW_law 132 = .ok (.aload_n 0, 1) := by decide +kernel
theorem d_LW_law_133 : decode b_LW_law 133 = .ok (.iload 4, 2) := by decide +kernel
theorem d_LW_law_135 : decode b_LW_law 135 = .ok (.iconst 1, 1) := by decide +kernel
theorem d_LW_law_136 : decode b_LW_law 136 = .ok (.iadd, 1) := by decide +kernel
theorem d_LW_law_137 : decode b_LW_law 137 = .ok (.iaload, 1) := by decide +kernel
theorem d_LW_law_138 : decode b_LW_law 138 = .ok (.aload_n 0, 1) := by decide +kernel
theorem d_LW_law_139 : decode b_LW_law 139 = .ok (.iload 4, 2) := by decide +kernel
theorem d_LW_law_141 : decode b_LW_law 141 = .ok (.iconst 2, 1) := by decide +kernel
theorem d_LW_law_142 : decode b_LW_law 142 = .ok (.iadd, 1) := by decide +kernel
theorem d_LW_law_143 : decode b_LW_law 143 = .ok (.iaload, 1) := by decide +kernel
theorem d_LW_law_144 : decode b_LW_law 144 = .ok (.i2l, 1) := by decide +kernel
theorem d_LW_law_145 : decode b_LW_law 145 = .ok (.bipush 32, 2) := by decide +kernel
theorem d_LW_law_147 : decode b_LW_law 147 = .ok (.lshl, 1) := by decide +kernel
theorem d_LW_law_148 : decode b_LW_law 148 = .ok (.aload_n 0, 1) := by decide +kernel
theorem d_LW_law_149 : decode b_LW_law 149 = .ok (.iload 4, 2) := by decide +kernel
theorem d_LW_law_151 : decode b_LW_law 151 = .ok (.iconst 3, 1) := by decide +kernel
theorem d_LW_law_152 : decode b_LW_law 152 = .ok (.iadd, 1) := by decide +kernel
theorem d_LW_law_153 : decode b_LW_law 153 = .ok (.iaload, 1) := by decide +kernel
theorem d_LW_law_154 : decode b_LW_law 154 = .ok (.i2l, 1) := by decide +kernel
theorem d_LW_law_155 : decode b_LW_law 155 = .ok (.ldc2_w 49, 3) := by decide +kernel
theorem d_LW_law_158 : decode b_LW_law 158 = .ok (.land, 1) := by decide +kernel
theorem d_LW_law_159 : decode b_LW_law 159 = .ok (.lor, 1) := by decide +kernel
theorem d_LW_law_160 : decode b_LW_law 160 = .ok (.invokevirtual 56, 3) := by decide +kernel
theorem d_LW_law_163 : decode b_LW_law 163 = .ok (.istore 6, 2) := by decide +kernel
theorem d_LW_law_165 : decode b_LW_law 165 = .ok (.aload_n 2, 1) := by decide +kernel
theorem d_LW_law_166 : decode b_LW_law 166 = .ok (.invokevirtual 57, 3) := by decide +kernel
theorem d_LW_law_169 : decode b_LW_law 169 = .ok (.iload 5, 2) := by decide +kernel
theorem d_LW_law_171 : decode b_LW_law 171 = .ok (.if_icmp .eq 5, 3) := by decide +kernel
theorem d_LW_law_174 : decode b_LW_law 174 = .ok (.iconst 0, 1) := by decide +kernel
theorem d_LW_law_175 : decode b_LW_law 175 = .ok (.ireturn, 1) := by decide +kernel
theorem d_LW_law_176 : decode b_LW_law 176 = .ok (.iload 5, 2) := by decide +kernel
theorem d_LW_law_178 : decode b_LW_law 178 = .ok (.ifCond .ne 15, 3) := by decide +kernel
theorem d_LW_law_181 : decode b_LW_law 181 = .ok (.aload_n 3, 1) := by decide +kernel
theorem d_LW_law_182 : decode b_LW_law 182 = .ok (.iconst 0, 1) := by decide +kernel
theorem d_LW_law_183 : decode b_LW_law 183 = .ok (.laload, 1) := by decide +kernel
theorem d_LW_law_184 : decode b_LW_law 184 = .ok (.iload 6, 2) := by decide +kernel
theorem d_LW_law_186 : decode b_LW_law 186 = .ok (.i2l, 1) := by decide +kernel
theorem d_LW_law_187 : decode b_LW_law 187 = .ok (.lcmp, 1) := by decide +kernel
theorem d_LW_law_188 : decode b_LW_law 188 = .ok (.ifCond .eq 5, 3) := by decide +kernel
theorem d_LW_law_191 : decode b_LW_law 191 = .ok (.iconst 0, 1) := by decide +kernel
theorem d_LW_law_192 : decode b_LW_law 192 = .ok (.ireturn, 1) := by decide +kernel
theorem d_LW_law_193 : decode b_LW_law 193 = .ok (.goto 583, 3) := by decide +kernel
theorem d_LW_law_196 : decode b_LW_law 196 = .ok (.aload_n 1, 1) := by decide +kernel
theorem d_LW_law_197 : decode b_LW_law 197 = .ok (.invokevirtual 61, 3) := by decide +kernel
theorem d_LW_law_200 : decode b_LW_law 200 = .ok (.aload_n 2, 1) := by decide +kernel
theorem d_LW_law_201 : decode b_LW_law 201 = .ok (.invokevirtual 64, 3) := by decide +kernel
theorem d_LW_law_204 : decode b_LW_law 204 = .ok (.if_icmp .eq 572, 3) := by decide +kernel
theorem d_LW_law_207 : decode b_LW_law 207 = .ok (.iconst 0, 1) := by decide +kernel
theorem d_LW_law_208 : decode b_LW_law 208 = .ok (.ireturn, 1) := by decide +kernel
theorem d_LW_law_209 : decode b_LW_law 209 = .ok (.aload_n 1, 1) := by decide +kernel
theorem d_LW_law_210 : decode b_LW_law 210 = .ok (.invokevirtual 65, 3) := by decide +kernel
theorem d_LW_law_213 : decode b_LW_law 213 = .ok (.aload_n 2, 1) := by decide +kernel
theorem d_LW_law_214 : decode b_LW_law 214 = .ok (.invokevirtual 68, 3) := by decide +kernel
theorem d_LW_law_217 : decode b_LW_law 217 = .ok (.if_icmp .eq 559, 3) := by decide +kernel
theorem d_LW_law_220 : decode b_LW_law 220 = .ok (.iconst 0, 1) := by decide +kernel
theorem d_LW_law_221 : decode b_LW_law 221 = .ok (.ireturn, 1) := by decide +kernel
theorem d_LW_law_222 : decode b_LW_law 222 = .ok (.aload_n 1, 1) := by decide +kernel
theorem d_LW_law_223 : decode b_LW_law 223 = .ok (.aload_n 0, 1) := by decide +kernel
theorem d_LW_law_224 : decode b_LW_law 224 = .ok (.iload 4, 2) := by decide +kernel
theorem d_LW_law_226 : decode b_LW_law 226 = .ok (.iconst 1, 1) := by decide +kernel
theorem d_LW_law_227 : decode b_LW_law 227 = .ok (.iadd, 1) := by decide +kernel
theorem d_LW_law_228 : decode b_LW_law 228 = .ok (.iaload, 1) := by decide +kernel
theorem d_LW_law_229 : decode b_LW_law 229 = .ok (.aload_n 0, 1) := by decide +kernel
theorem d_LW_law_230 : decode b_LW_law 230 = .ok (.iload 4, 2) := by decide +kernel
theorem d_LW_law_232 : decode b_LW_law 232 = .ok (.iconst 2, 1) := by decide +kernel
theorem d_LW_law_233 : decode b_LW_law 233 = .ok (.iadd, 1) := by decide +kernel
theorem d_LW_law_234 : decode b_LW_law 234 = .ok (.iaload, 1) := by decide +kernel
theorem d_LW_law_235 : decode b_LW_law 235 = .ok (.aload_n 3, 1) := by decide +kernel
theorem d_LW_law_236 : decode b_LW_law 236 = .ok (.invokestatic 69, 3) := by decide +kernel
theorem d_LW_law_239 : decode b_LW_law 239 = .ok (.istore 5, 2) := by decide +kernel
theorem d_LW_law_241 : decode b_LW_law 241 = .ok (.aload_n 2, 1) := by decide +kernel
theorem d_LW_law_242 : decode b_LW_law 242 = .ok (.aload_n 0, 1) := by decide +kernel
theorem d_LW_law_243 : decode b_LW_law 243 = .ok (.iload 4, 2) := by decide +kernel
theorem d_LW_law_245 : decode b_LW_law 245 = .ok (.iconst 1, 1) := by decide +kernel
theorem d_LW_law_246 : decode b_LW_law 246 = .ok (.iadd, 1) := by decide +kernel
theorem d_LW_law_247 : decode b_LW_law 247 = .ok (.iaload, 1) := by decide +kernel
theorem d_LW_law_248 : decode b_LW_law 248 = .ok (.aload_n 0, 1) := by decide +kernel
theorem d_LW_law_249 : decode b_LW_law 249 = .ok (.iload 4, 2) := by decide +kernel
theorem d_LW_law_251 : decode b_LW_law 251 = .ok (.iconst 2, 1) := by decide +kernel
theorem d_LW_law_252 : decode b_LW_law 252 = .ok (.iadd, 1) := by decide +kernel
theorem d_LW_law_253 : decode b_LW_law 253 = .ok (.iaload, 1) := by decide +kernel
theorem d_LW_law_254 : decode b_LW_law 254 = .ok (.invokevirtual 72, 3) := by decide +kernel
theorem d_LW_law_257 : decode b_LW_law 257 = .ok (.istore 6, 2) := by decide +kernel
theorem d_LW_law_259 : decode b_LW_law 259 = .ok (.aload_n 2, 1) := by decide +kernel
theorem d_LW_law_260 : decode b_LW_law 260 = .ok (.invokevirtual 57, 3) := by decide +kernel
theorem d_LW_law_263 : decode b_LW_law 263 = .ok (.iload 5, 2) := by decide +kernel
theorem d_LW_law_265 : decode b_LW_law 265 = .ok (.if_icmp .eq 5, 3) := by decide +kernel
theorem d_LW_law_268 : decode b_LW_law 268 = .ok (.iconst 0, 1) := by decide +kernel
theorem d_LW_law_269 : decode b_LW_law 269 = .ok (.ireturn, 1) := by decide +kernel
theorem d_LW_law_270 : decode b_LW_law 270 = .ok (.iload 5, 2) := by decide +kernel
theorem d_LW_law_272 : decode b_LW_law 272 = .ok (.ifCond .ne 15, 3) := by decide +kernel
theorem d_LW_law_275 : decode b_LW_law 275 = .ok (.aload_n 3, 1) := by decide +kernel
theorem d_LW_law_276 : decode b_LW_law 276 = .ok (.iconst 0, 1) := by decide +kernel
theorem d_LW_law_277 : decode b_LW_law 277 = .ok (.laload, 1) := by decide +kernel
theorem d_LW_law_278 : decode b_LW_law 278 = .ok (.iload 6, 2) := by decide +kernel
theorem d_LW_law_280 : decode b_LW_law 280 = .ok (.i2l, 1) := by decide +kernel
theorem d_LW_law_281 : decode b_LW_law 281 = .ok (.lcmp, 1) := by decide +kernel
theorem d_LW_law_282 : decode b_LW_law 282 = .ok (.ifCond .eq 5, 3) := by decide +kernel
theorem d_LW_law_285 : decode b_LW_law 285 = .ok (.iconst 0, 1) := by decide +kernel
theorem d_LW_law_286 : decode b_LW_law 286 = .ok (.ireturn, 1) := by decide +kernel
theorem d_LW_law_287 : decode b_LW_law 287 = .ok (.goto 489, 3) := by decide +kernel
theorem d_LW_law_290 : decode b_LW_law 290 = .ok (.aload_n 1, 1) := by decide +kernel
theorem d_LW_law_291 : decode b_LW_law 291 = .ok (.invokevirtual 73, 3) := by decide +kernel
theorem d_LW_law_294 : decode b_LW_law 294 = .ok (.aload_n 2, 1) := by decide +kernel
theorem d_LW_law_295 : decode b_LW_law 295 = .ok (.invokevirtual 76, 3) := by decide +kernel
theorem d_LW_law_298 : decode b_LW_law 298 = .ok (.if_icmp .eq 478, 3) := by decide +kernel
theorem d_LW_law_301 : decode b_LW_law 301 = .ok (.iconst 0, 1) := by decide +kernel
theorem d_LW_law_302 : decode b_LW_law 302 = .ok (.ireturn, 1) := by decide +kernel
theorem d_LW_law_303 : decode b_LW_law 303 = .ok (.aload_n 1, 1) := by decide +kernel
theorem d_LW_law_304 : decode b_LW_law 304 = .ok (.aload_n 0, 1) := by decide +kernel
theorem d_LW_law_305 : decode b_LW_law 305 = .ok (.iload 4, 2) := by decide +kernel
theorem d_LW_law_307 : decode b_LW_law 307 = .ok (.iconst 1, 1) := by decide +kernel
theorem d_LW_law_308 : decode b_LW_law 308 = .ok (.iadd, 1) := by decide +kernel
theorem d_LW_law_309 : decode b_LW_law 309 = .ok (.iaload, 1) := by decide +kernel
theorem d_LW_law_310 : decode b_LW_law 310 = .ok (.aload_n 0, 1) := by decide +kernel
theorem d_LW_law_311 : decode b_LW_law 311 = .ok (.iload 4, 2) := by decide +kernel
theorem d_LW_law_313 : decode b_LW_law 313 = .ok (.iconst 2, 1) := by decide +kernel
theorem d_LW_law_314 : decode b_LW_law 314 = .ok (.iadd, 1) := by decide +kernel
theorem d_LW_law_315 : decode b_LW_law 315 = .ok (.iaload, 1) := by decide +kernel
theorem d_LW_law_316 : decode b_LW_law 316 = .ok (.ifCond .eq 7, 3) := by decide +kernel
theorem d_LW_law_319 : decode b_LW_law 319 = .ok (.iconst 1, 1) := by decide +kernel
theorem d_LW_law_320 : decode b_LW_law 320 = .ok (.goto 4, 3) := by decide +kernel
theorem d_LW_law_323 : decode b_LW_law 323 = .ok (.iconst 0, 1) := by decide +kernel
theorem d_LW_law_324 : decode b_LW_law 324 = .ok (.aload_n 3, 1) := by decide +kernel
theorem d_LW_law_325 : decode b_LW_law 325 = .ok (.invokestatic 77, 3) := by decide +kernel
theorem d_LW_law_328 : decode b_LW_law 328 = .ok (.istore 5, 2) := by decide +kernel
theorem d_LW_law_330 : decode b_LW_law 330 = .ok (.aload_n 2, 1) := by decide +kernel
theorem d_LW_law_331 : decode b_LW_law 331 = .ok (.aload_n 0, 1) := by decide +kernel
theorem d_LW_law_332 : decode b_LW_law 332 = .ok (.iload 4, 2) := by decide +kernel
theorem d_LW_law_334 : decode b_LW_law 334 = .ok (.iconst 1, 1) := by decide +kernel
theorem d_LW_law_335 : decode b_LW_law 335 = .ok (.iadd, 1) := by decide +kernel
theorem d_LW_law_336 : decode b_LW_law 336 = .ok (.iaload, 1) := by decide +kernel
theorem d_LW_law_337 : decode b_LW_law 337 = .ok (.aload_n 0, 1) := by decide +kernel
theorem d_LW_law_338 : decode b_LW_law 338 = .ok (.iload 4, 2) := by decide +kernel
theorem d_LW_law_340 : decode b_LW_law 340 = .ok (.iconst 2, 1) := by decide +kernel
theorem d_LW_law_341 : decode b_LW_law 341 = .ok (.iadd, 1) := by decide +kernel
theorem d_LW_law_342 : decode b_LW_law 342 = .ok (.iaload, 1) := by decide +kernel
theorem d_LW_law_343 : decode b_LW_law 343 = .ok (.ifCond .eq 7, 3) := by decide +kernel
theorem d_LW_law_346 : decode b_LW_law 346 = .ok (.iconst 1, 1) := by decide +kernel
theorem d_LW_law_347 : decode b_LW_law 347 = .ok (.goto 4, 3) := by decide +kernel
theorem d_LW_law_350 : decode b_LW_law 350 = .ok (.iconst 0, 1) := by decide +kernel
theorem d_LW_law_351 : decode b_LW_law 351 = .ok (.invokevirtual 80, 3) := by decide +kernel
theorem d_LW_law_354 : decode b_LW_law 354 = .ok (.istore 6, 2) := by decide +kernel
theorem d_LW_law_356 : decode b_LW_law 356 = .ok (.aload_n 2, 1) := by decide +kernel
theorem d_LW_law_357 : decode b_LW_law 357 = .ok (.invokevirtual 57, 3) := by decide +kernel
theorem d_LW_law_360 : decode b_LW_law 360 = .ok (.iload 5, 2) := by decide +kernel
theorem d_LW_law_362 : decode b_LW_law 362 = .ok (.if_icmp .eq 5, 3) := by decide +kernel
theorem d_LW_law_365 : decode b_LW_law 365 = .ok (.iconst 0, 1) := by decide +kernel
theorem d_LW_law_366 : decode b_LW_law 366 = .ok (.ireturn, 1) := by decide +kernel
theorem d_LW_law_367 : decode b_LW_law 367 = .ok (.iload 5, 2) := by decide +kernel
theorem d_LW_law_369 : decode b_LW_law 369 = .ok (.ifCond .ne 22, 3) := by decide +kernel
theorem d_LW_law_372 : decode b_LW_law 372 = .ok (.aload_n 3, 1) := by decide +kernel
theorem d_LW_law_373 : decode b_LW_law 373 = .ok (.iconst 0, 1) := by decide +kernel
theorem d_LW_law_374 : decode b_LW_law 374 = .ok (.laload, 1) := by decide +kernel
theorem d_LW_law_375 : decode b_LW_law 375 = .ok (.iload 6, 2) := by decide +kernel
theorem d_LW_law_377 : decode b_LW_law 377 = .ok (.ifCond .eq 7, 3) := by decide +kernel
theorem d_LW_law_380 : decode b_LW_law 380 = .ok (.lconst 1, 1) := by decide +kernel
theorem d_LW_law_381 : decode b_LW_law 381 = .ok (.goto 4, 3) := by decide +kernel
theorem d_LW_law_384 : decode b_LW_law 384 = .ok (.lconst 0, 1) := by decide +kernel
theorem d_LW_law_385 : decode b_LW_law 385 = .ok (.lcmp, 1) := by decide +kernel
theorem d_LW_law_386 : decode b_LW_law 386 = .ok (.ifCond .eq 5, 3) := by decide +kernel
theorem d_LW_law_389 : decode b_LW_law 389 = .ok (.iconst 0, 1) := by decide +kernel
theorem d_LW_law_390 : decode b_LW_law 390 = .ok (.ireturn, 1) := by decide +kernel
theorem d_LW_law_391 : decode b_LW_law 391 = .ok (.goto 385, 3) := by decide +kernel
theorem d_LW_law_394 : decode b_LW_law 394 = .ok (.aload_n 1, 1) := by decide +kernel
theorem d_LW_law_395 : decode b_LW_law 395 = .ok (.aload_n 0, 1) := by decide +kernel
theorem d_LW_law_396 : decode b_LW_law 396 = .ok (.iload 4, 2) := by decide +kernel
theorem d_LW_law_398 : decode b_LW_law 398 = .ok (.iconst 1, 1) := by decide +kernel
theorem d_LW_law_399 : decode b_LW_law 399 = .ok (.iadd, 1) := by decide +kernel
theorem d_LW_law_400 : decode b_LW_law 400 = .ok (.iaload, 1) := by decide +kernel
theorem d_LW_law_401 : decode b_LW_law 401 = .ok (.ifCond .eq 7, 3) := by decide +kernel
theorem d_LW_law_404 : decode b_LW_law 404 = .ok (.iconst 1, 1) := by decide +kernel
theorem d_LW_law_405 : decode b_LW_law 405 = .ok (.goto 4, 3) := by decide +kernel
theorem d_LW_law_408 : decode b_LW_law 408 = .ok (.iconst 0, 1) := by decide +kernel
