theorem zd_L_law_0 : decode zc_L_law 0 = .ok (.new 8, 3) := by decide +kernel
theorem zd_L_law_3 : decode zc_L_law 3 = .ok (.dup, 1) := by decide +kernel
theorem zd_L_law_4 : decode zc_L_law 4 = .ok (.aload_n 0, 1) := by decide +kernel
theorem zd_L_law_5 : decode zc_L_law 5 = .ok (.iconst 0, 1) := by decide +kernel
theorem zd_L_law_6 : decode zc_L_law 6 = .ok (.invokestatic 50, 3) := by decide +kernel
theorem zd_L_law_9 : decode zc_L_law 9 = .ok (.invokespecial 56, 3) := by decide +kernel
theorem zd_L_law_12 : decode zc_L_law 12 = .ok (.astore_n 1, 1) := by decide +kernel
theorem zd_L_law_13 : decode zc_L_law 13 = .ok (.new 59, 3) := by decide +kernel
theorem zd_L_law_16 : decode zc_L_law 16 = .ok (.dup, 1) := by decide +kernel
theorem zd_L_law_17 : decode zc_L_law 17 = .ok (.aload_n 0, 1) := by decide +kernel
theorem zd_L_law_18 : decode zc_L_law 18 = .ok (.iconst 0, 1) := by decide +kernel
theorem zd_L_law_19 : decode zc_L_law 19 = .ok (.invokestatic 50, 3) := by decide +kernel
theorem zd_L_law_22 : decode zc_L_law 22 = .ok (.invokespecial 61, 3) := by decide +kernel
theorem zd_L_law_25 : decode zc_L_law 25 = .ok (.astore_n 2, 1) := by decide +kernel
theorem zd_L_law_26 : decode zc_L_law 26 = .ok (.iconst 1, 1) := by decide +kernel
theorem zd_L_law_27 : decode zc_L_law 27 = .ok (.newarray .long, 2) := by decide +kernel
theorem zd_L_law_29 : decode zc_L_law 29 = .ok (.astore_n 3, 1) := by decide +kernel
theorem zd_L_law_30 : decode zc_L_law 30 = .ok (.iconst 1, 1) := by decide +kernel
theorem zd_L_law_31 : decode zc_L_law 31 = .ok (.istore 4, 2) := by decide +kernel
theorem zd_L_law_33 : decode zc_L_law 33 = .ok (.iload 4, 2) := by decide +kernel
theorem zd_L_law_35 : decode zc_L_law 35 = .ok (.aload_n 0, 1) := by decide +kernel
theorem zd_L_law_36 : decode zc_L_law 36 = .ok (.arraylength, 1) := by decide +kernel
theorem zd_L_law_37 : decode zc_L_law 37 = .ok (.bipush 6, 2) := by decide +kernel
theorem zd_L_law_39 : decode zc_L_law 39 = .ok (.isub, 1) := by decide +kernel
theorem zd_L_law_40 : decode zc_L_law 40 = .ok (.if_icmp .gt 800, 3) := by decide +kernel
theorem zd_L_law_43 : decode zc_L_law 43 = .ok (.aload_n 0, 1) := by decide +kernel
theorem zd_L_law_44 : decode zc_L_law 44 = .ok (.iload 4, 2) := by decide +kernel
theorem zd_L_law_46 : decode zc_L_law 46 = .ok (.iaload, 1) := by decide +kernel
theorem zd_L_law_47 : decode zc_L_law 47 = .ok (.bipush 15, 2) := by decide +kernel
theorem zd_L_law_49 : decode zc_L_law 49 = .ok (.iand, 1) := by decide +kernel
theorem zd_L_law_50 : decode zc_L_law 50 = .ok (.tableswitch 784 0 10 #[58, 205, 280, 392, 435, 491, 547, 603, 659, 715, 771], 58) := by decide +kernel
theorem zd_L_law_108 : decode zc_L_law 108 = .ok (.aload_n 1, 1) := by decide +kernel
theorem zd_L_law_109 : decode zc_L_law 109 = .ok (.aload_n 0, 1) := by decide +kernel
theorem zd_L_law_110 : decode zc_L_law 110 = .ok (.iload 4, 2) := by decide +kernel
theorem zd_L_law_112 : decode zc_L_law 112 = .ok (.iconst 1, 1) := by decide +kernel
theorem zd_L_law_113 : decode zc_L_law 113 = .ok (.iadd, 1) := by decide +kernel
theorem zd_L_law_114 : decode zc_L_law 114 = .ok (.iaload, 1) := by decide +kernel
theorem zd_L_law_115 : decode zc_L_law 115 = .ok (.aload_n 0, 1) := by decide +kernel
theorem zd_L_law_116 : decode zc_L_law 116 = .ok (.iload 4, 2) := by decide +kernel
theorem zd_L_law_118 : decode zc_L_law 118 = .ok (.iconst 2, 1) := by decide +kernel
theorem zd_L_law_119 : decode zc_L_law 119 = .ok (.iadd, 1) := by decide +kernel
theorem zd_L_law_120 : decode zc_L_law 120 = .ok (.iaload, 1) := by decide +kernel
theorem zd_L_law_121 : decode zc_L_law 121 = .ok (.aload_n 0, 1) := by decide +kernel
theorem zd_L_law_122 : decode zc_L_law 122 = .ok (.iload 4, 2) := by decide +kernel
theorem zd_L_law_124 : decode zc_L_law 124 = .ok (.iconst 3, 1) := by decide +kernel
theorem zd_L_law_125 : decode zc_L_law 125 = .ok (.iadd, 1) := by decide +kernel
theorem zd_L_law_126 : decode zc_L_law 126 = .ok (.iaload, 1) := by decide +kernel
theorem zd_L_law_127 : decode zc_L_law 127 = .ok (.i2l, 1) := by decide +kernel
theorem zd_L_law_128 : decode zc_L_law 128 = .ok (.bipush 32, 2) := by decide +kernel
theorem zd_L_law_130 : decode zc_L_law 130 = .ok (.lshl, 1) := by decide +kernel
theorem zd_L_law_131 : decode zc_L_law 131 = .ok (.aload_n 0, 1) := by decide +kernel
theorem zd_L_law_132 : decode zc_L_law 132 = .ok (.iload 4, 2) := by decide +kernel
theorem zd_L_law_134 : decode zc_L_law 134 = .ok (.iconst 4, 1) := by decide +kernel
theorem zd_L_law_135 : decode zc_L_law 135 = .ok (.iadd, 1) := by decide +kernel
theorem zd_L_law_136 : decode zc_L_law 136 = .ok (.iaload, 1) := by decide +kernel
theorem zd_L_law_137 : decode zc_L_law 137 = .ok (.i2l, 1) := by decide +kernel
theorem zd_L_law_138 : decode zc_L_law 138 = .ok (.ldc2_w 62, 3) := by decide +kernel
theorem zd_L_law_141 : decode zc_L_law 141 = .ok (.land, 1) := by decide +kernel
theorem zd_L_law_142 : decode zc_L_law 142 = .ok (.lor, 1) := by decide +kernel
theorem zd_L_law_143 : decode zc_L_law 143 = .ok (.aload_n 0, 1) := by decide +kernel
theorem zd_L_law_144 : decode zc_L_law 144 = .ok (.iload 4, 2) := by decide +kernel
theorem zd_L_law_146 : decode zc_L_law 146 = .ok (.iconst 5, 1) := by decide +kernel
theorem zd_L_law_147 : decode zc_L_law 147 = .ok (.iadd, 1) := by decide +kernel
theorem zd_L_law_148 : decode zc_L_law 148 = .ok (.iaload, 1) := by decide +kernel
theorem zd_L_law_149 : decode zc_L_law 149 = .ok (.ifCond .eq 7, 3) := by decide +kernel
theorem zd_L_law_152 : decode zc_L_law 152 = .ok (.iconst 1, 1) := by decide +kernel
theorem zd_L_law_153 : decode zc_L_law 153 = .ok (.goto 4, 3) := by decide +kernel
theorem zd_L_law_156 : decode zc_L_law 156 = .ok (.iconst 0, 1) := by decide +kernel
theorem zd_L_law_157 : decode zc_L_law 157 = .ok (.aload_n 3, 1) := by decide +kernel
theorem zd_L_law_158 : decode zc_L_law 158 = .ok (.invokestatic 64, 3) := by decide +kernel
theorem zd_L_law_161 : decode zc_L_law 161 = .ok (.istore 5, 2) := by decide +kernel
theorem zd_L_law_163 : decode zc_L_law 163 = .ok (.aload_n 2, 1) := by decide +kernel
theorem zd_L_law_164 : decode zc_L_law 164 = .ok (.aload_n 0, 1) := by decide +kernel
theorem zd_L_law_165 : decode zc_L_law 165 = .ok (.iload 4, 2) := by decide +kernel
theorem zd_L_law_167 : decode zc_L_law 167 = .ok (.iconst 1, 1) := by decide +kernel
theorem zd_L_law_168 : decode zc_L_law 168 = .ok (.iadd, 1) := by decide +kernel
theorem zd_L_law_169 : decode zc_L_law 169 = .ok (.iaload, 1) := by decide +kernel
theorem zd_L_law_170 : decode zc_L_law 170 = .ok (.aload_n 0, 1) := by decide +kernel
theorem zd_L_law_171 : decode zc_L_law 171 = .ok (.iload 4, 2) := by decide +kernel
theorem zd_L_law_173 : decode zc_L_law 173 = .ok (.iconst 2, 1) := by decide +kernel
theorem zd_L_law_174 : decode zc_L_law 174 = .ok (.iadd, 1) := by decide +kernel
theorem zd_L_law_175 : decode zc_L_law 175 = .ok (.iaload, 1) := by decide +kernel
theorem zd_L_law_176 : decode zc_L_law 176 = .ok (.aload_n 0, 1) := by decide +kernel
theorem zd_L_law_177 : decode zc_L_law 177 = .ok (.iload 4, 2) := by decide +kernel
theorem zd_L_law_179 : decode zc_L_law 179 = .ok (.iconst 3, 1) := by decide +kernel
theorem zd_L_law_180 : decode zc_L_law 180 = .ok (.iadd, 1) := by decide +kernel
theorem zd_L_law_181 : decode zc_L_law 181 = .ok (.iaload, 1) := by decide +kernel
theorem zd_L_law_182 : decode zc_L_law 182 = .ok (.i2l, 1) := by decide +kernel
theorem zd_L_law_183 : decode zc_L_law 183 = .ok (.bipush 32, 2) := by decide +kernel
theorem zd_L_law_185 : decode zc_L_law 185 = .ok (.lshl, 1) := by decide +kernel
theorem zd_L_law_186 : decode zc_L_law 186 = .ok (.aload_n 0, 1) := by decide +kernel
theorem zd_L_law_187 : decode zc_L_law 187 = .ok (.iload 4, 2) := by decide +kernel
theorem zd_L_law_189 : decode zc_L_law 189 = .ok (.iconst 4, 1) := by decide +kernel
theorem zd_L_law_190 : decode zc_L_law 190 = .ok (.iadd, 1) := by decide +kernel
theorem zd_L_law_191 : decode zc_L_law 191 = .ok (.iaload, 1) := by decide +kernel
theorem zd_L_law_192 : decode zc_L_law 192 = .ok (.i2l, 1) := by decide +kernel
theorem zd_L_law_193 : decode zc_L_law 193 = .ok (.ldc2_w 62, 3) := by decide +kernel
theorem zd_L_law_196 : decode zc_L_law 196 = .ok (.land, 1) := by decide +kernel
theorem zd_L_law_197 : decode zc_L_law 197 = .ok (.lor, 1) := by decide +kernel
theorem zd_L_law_198 : decode zc_L_law 198 = .ok (.aload_n 0, 1) := by decide +kernel
theorem zd_L_law_199 : decode zc_L_law 199 = .ok (.iload 4, 2) := by decide +kernel
theorem zd_L_law_201 : decode zc_L_law 201 = .ok (.iconst 5, 1) := by decide +kernel
theorem zd_L_law_202 : decode zc_L_law 202 = .ok (.iadd, 1) := by decide +kernel
theorem zd_L_law_203 : decode zc_L_law 203 = .ok (.iaload, 1) := by decide +kernel
theorem zd_L_law_204 : decode zc_L_law 204 = .ok (.ifCond .eq 7, 3) := by decide +kernel
theorem zd_L_law_207 : decode zc_L_law 207 = .ok (.iconst 1, 1) := by decide +kernel
theorem zd_L_law_208 : decode zc_L_law 208 = .ok (.goto 4, 3) := by decide +kernel
theorem zd_L_law_211 : decode zc_L_law 211 = .ok (.iconst 0, 1) := by decide +kernel
theorem zd_L_law_212 : decode zc_L_law 212 = .ok (.invokevirtual 67, 3) := by decide +kernel
theorem zd_L_law_215 : decode zc_L_law 215 = .ok (.istore 6, 2) := by decide +kernel
theorem zd_L_law_217 : decode zc_L_law 217 = .ok (.aload_n 2, 1) := by decide +kernel
theorem zd_L_law_218 : decode zc_L_law 218 = .ok (.invokevirtual 68, 3) := by decide +kernel
theorem zd_L_law_221 : decode zc_L_law 221 = .ok (.iload 5, 2) := by decide +kernel
theorem zd_L_law_223 : decode zc_L_law 223 = .ok (.if_icmp .eq 5, 3) := by decide +kernel
theorem zd_L_law_226 : decode zc_L_law 226 = .ok (.iconst 0, 1) := by decide +kernel
theorem zd_L_law_227 : decode zc_L_law 227 = .ok (.ireturn, 1) := by decide +kernel
theorem zd_L_law_228 : decode zc_L_law 228 = .ok (.iload 5, 2) := by decide +kernel
theorem zd_L_law_230 : decode zc_L_law 230 = .ok (.ifCond .ne 22, 3) := by decide +kernel
theorem zd_L_law_233 : decode zc_L_law 233 = .ok (.aload_n 3, 1) := by decide +kernel
theorem zd_L_law_234 : decode zc_L_law 234 = .ok (.iconst 0, 1) := by decide +kernel
theorem zd_L_law_235 : decode zc_L_law 235 = .ok (.laload, 1) := by decide +kernel
theorem zd_L_law_236 : decode zc_L_law 236 = .ok (.iload 6, 2) := by decide +kernel
theorem zd_L_law_238 : decode zc_L_law 238 = .ok (.ifCond .eq 7, 3) := by decide +kernel
theorem zd_L_law_241 : decode zc_L_law 241 = .ok (.lconst 1, 1) := by decide +kernel
theorem zd_L_law_242 : decode zc_L_law 242 = .ok (.goto 4, 3) := by decide +kernel
theorem zd_L_law_245 : decode zc_L_law 245 = .ok (.lconst 0, 1) := by decide +kernel
theorem zd_L_law_246 : decode zc_L_law 246 = .ok (.lcmp, 1) := by decide +kernel
theorem zd_L_law_247 : decode zc_L_law 247 = .ok (.ifCond .eq 5, 3) := by decide +kernel
theorem zd_L_law_250 : decode zc_L_law 250 = .ok (.iconst 0, 1) := by decide +kernel
theorem zd_L_law_251 : decode zc_L_law 251 = .ok (.ireturn, 1) := by decide +kernel
theorem zd_L_law_252 : decode zc_L_law 252 = .ok (.goto 582, 3) := by decide +kernel
theorem zd_L_law_255 : decode zc_L_law 255 = .ok (.aload_n 1, 1) := by decide +kernel
theorem zd_L_law_256 : decode zc_L_law 256 = .ok (.aload_n 0, 1) := by decide +kernel
theorem zd_L_law_257 : decode zc_L_law 257 = .ok (.iload 4, 2) := by decide +kernel
theorem zd_L_law_259 : decode zc_L_law 259 = .ok (.iconst 1, 1) := by decide +kernel
theorem zd_L_law_260 : decode zc_L_law 260 = .ok (.iadd, 1) := by decide +kernel
theorem zd_L_law_261 : decode zc_L_law 261 = .ok (.iaload, 1) := by decide +kernel
theorem zd_L_law_262 : decode zc_L_law 262 = .ok (.aload_n 0, 1) := by decide +kernel
theorem zd_L_law_263 : decode zc_L_law 263 = .ok (.iload 4, 2) := by decide +kernel
theorem zd_L_law_265 : decode zc_L_law 265 = .ok (.iconst 2, 1) := by decide +kernel
theorem zd_L_law_266 : decode zc_L_law 266 = .ok (.iadd, 1) := by decide +kernel
theorem zd_L_law_267 : decode zc_L_law 267 = .ok (.iaload, 1) := by decide +kernel
theorem zd_L_law_268 : decode zc_L_law 268 = .ok (.aload_n 3, 1) := by decide +kernel
theorem zd_L_law_269 : decode zc_L_law 269 = .ok (.invokestatic 72, 3) := by decide +kernel
theorem zd_L_law_272 : decode zc_L_law 272 = .ok (.istore 5, 2) := by decide +kernel
theorem zd_L_law_274 : decode zc_L_law 274 = .ok (.aload_n 2, 1) := by decide +kernel
theorem zd_L_law_275 : decode zc_L_law 275 = .ok (.aload_n 0, 1) := by decide +kernel
theorem zd_L_law_276 : decode zc_L_law 276 = .ok (.iload 4, 2) := by decide +kernel
theorem zd_L_law_278 : decode zc_L_law 278 = .ok (.iconst 1, 1) := by decide +kernel
theorem zd_L_law_279 : decode zc_L_law 279 = .ok (.iadd, 1) := by decide +kernel
theorem zd_L_law_280 : decode zc_L_law 280 = .ok (.iaload, 1) := by decide +kernel
theorem zd_L_law_281 : decode zc_L_law 281 = .ok (.aload_n 0, 1) := by decide +kernel
theorem zd_L_law_282 : decode zc_L_law 282 = .ok (.iload 4, 2) := by decide +kernel
theorem zd_L_law_284 : decode zc_L_law 284 = .ok (.iconst 2, 1) := by decide +kernel
theorem zd_L_law_285 : decode zc_L_law 285 = .ok (.iadd, 1) := by decide +kernel
theorem zd_L_law_286 : decode zc_L_law 286 = .ok (.iaload, 1) := by decide +kernel
theorem zd_L_law_287 : decode zc_L_law 287 = .ok (.invokevirtual 75, 3) := by decide +kernel
theorem zd_L_law_290 : decode zc_L_law 290 = .ok (.istore 6, 2) := by decide +kernel
theorem zd_L_law_292 : decode zc_L_law 292 = .ok (.aload_n 2, 1) := by decide +kernel
theorem zd_L_law_293 : decode zc_L_law 293 = .ok (.invokevirtual 68, 3) := by decide +kernel
theorem zd_L_law_296 : decode zc_L_law 296 = .ok (.iload 5, 2) := by decide +kernel
theorem zd_L_law_298 : decode zc_L_law 298 = .ok (.if_icmp .eq 5, 3) := by decide +kernel
theorem zd_L_law_301 : decode zc_L_law 301 = .ok (.iconst 0, 1) := by decide +kernel
theorem zd_L_law_302 : decode zc_L_law 302 = .ok (.ireturn, 1) := by decide +kernel
theorem zd_L_law_303 : decode zc_L_law 303 = .ok (.iload 5, 2) := by decide +kernel
theorem zd_L_law_305 : decode zc_L_law 305 = .ok (.ifCond .ne 22, 3) := by decide +kernel
theorem zd_L_law_308 : decode zc_L_law 308 = .ok (.aload_n 3, 1) := by decide +kernel
theorem zd_L_law_309 : decode zc_L_law 309 = .ok (.iconst 0, 1) := by decide +kernel
theorem zd_L_law_310 : decode zc_L_law 310 = .ok (.laload, 1) := by decide +kernel
theorem zd_L_law_311 : decode zc_L_law 311 = .ok (.iload 6, 2) := by decide +kernel
theorem zd_L_law_313 : decode zc_L_law 313 = .ok (.ifCond .eq 7, 3) := by decide +kernel
theorem zd_L_law_316 : decode zc_L_law 316 = .ok (.lconst 1, 1) := by decide +kernel
theorem zd_L_law_317 : decode zc_L_law 317 = .ok (.goto 4, 3) := by decide +kernel
theorem zd_L_law_320 : decode zc_L_law 320 = .ok (.lconst 0, 1) := by decide +kernel
theorem zd_L_law_321 : decode zc_L_law 321 = .ok (.lcmp, 1) := by decide +kernel
theorem zd_L_law_322 : decode zc_L_law 322 = .ok (.ifCond .eq 5, 3) := by decide +kernel
theorem zd_L_law_325 : decode zc_L_law 325 = .ok (.iconst 0, 1) := by decide +kernel
theorem zd_L_law_326 : decode zc_L_law 326 = .ok (.ireturn, 1) := by decide +kernel
theorem zd_L_law_327 : decode zc_L_law 327 = .ok (.goto 507, 3) := by decide +kernel
theorem zd_L_law_330 : decode zc_L_law 330 = .ok (.aload_n 1, 1) := by decide +kernel
theorem zd_L_law_331 : decode zc_L_law 331 = .ok (.aload_n 0, 1) := by decide +kernel
theorem zd_L_law_332 : decode zc_L_law 332 = .ok (.iload 4, 2) := by decide +kernel
theorem zd_L_law_334 : decode zc_L_law 334 = .ok (.iconst 1, 1) := by decide +kernel
theorem zd_L_law_335 : decode zc_L_law 335 = .ok (.iadd, 1) := by decide +kernel
theorem zd_L_law_336 : decode zc_L_law 336 = .ok (.iaload, 1) := by decide +kernel
theorem zd_L_law_337 : decode zc_L_law 337 = .ok (.aload_n 0, 1) := by decide +kernel
theorem zd_L_law_338 : decode zc_L_law 338 = .ok (.iload 4, 2) := by decide +kernel
theorem zd_L_law_340 : decode zc_L_law 340 = .ok (.iconst 2, 1) := by decide +kernel
theorem zd_L_law_341 : decode zc_L_law 341 = .ok (.iadd, 1) := by decide +kernel
theorem zd_L_law_342 : decode zc_L_law 342 = .ok (.iaload, 1) := by decide +kernel
theorem zd_L_law_343 : decode zc_L_law 343 = .ok (.i2l, 1) := by decide +kernel
theorem zd_L_law_344 : decode zc_L_law 344 = .ok (.bipush 32, 2) := by decide +kernel
theorem zd_L_law_346 : decode zc_L_law 346 = .ok (.lshl, 1) := by decide +kernel
theorem zd_L_law_347 : decode zc_L_law 347 = .ok (.aload_n 0, 1) := by decide +kernel
theorem zd_L_law_348 : decode zc_L_law 348 = .ok (.iload 4, 2) := by decide +kernel
theorem zd_L_law_350 : decode zc_L_law 350 = .ok (.iconst 3, 1) := by decide +kernel
theorem zd_L_law_351 : decode zc_L_law 351 = .ok (.iadd, 1) := by decide +kernel
theorem zd_L_law_352 : decode zc_L_law 352 = .ok (.iaload, 1) := by decide +kernel
theorem zd_L_law_353 : decode zc_L_law 353 = .ok (.i2l, 1) := by decide +kernel
theorem zd_L_law_354 : decode zc_L_law 354 = .ok (.ldc2_w 62, 3) := by decide +kernel
theorem zd_L_law_357 : decode zc_L_law 357 = .ok (.land, 1) := by decide +kernel
theorem zd_L_law_358 : decode zc_L_law 358 = .ok (.lor, 1) := by decide +kernel
theorem zd_L_law_359 : decode zc_L_law 359 = .ok (.aload_n 0, 1) := by decide +kernel
theorem zd_L_law_360 : decode zc_L_law 360 = .ok (.iload 4, 2) := by decide +kernel
theorem zd_L_law_362 : decode zc_L_law 362 = .ok (.iconst 4, 1) := by decide +kernel
theorem zd_L_law_363 : decode zc_L_law 363 = .ok (.iadd, 1) := by decide +kernel
theorem zd_L_law_364 : decode zc_L_law 364 = .ok (.iaload, 1) := by decide +kernel
theorem zd_L_law_365 : decode zc_L_law 365 = .ok (.aload_n 3, 1) := by decide +kernel
theorem zd_L_law_366 : decode zc_L_law 366 = .ok (.invokestatic 76, 3) := by decide +kernel
theorem zd_L_law_369 : decode zc_L_law 369 = .ok (.istore 5, 2) := by decide +kernel
theorem zd_L_law_371 : decode zc_L_law 371 = .ok (.aload_n 2, 1) := by decide +kernel
theorem zd_L_law_372 : decode zc_L_law 372 = .ok (.aload_n 0, 1) := by decide +kernel
theorem zd_L_law_373 : decode zc_L_law 373 = .ok (.iload 4, 2) := by decide +kernel
theorem zd_L_law_375 : decode zc_L_law 375 = .ok (.iconst 1, 1) := by decide +kernel
theorem zd_L_law_376 : decode zc_L_law 376 = .ok (.iadd, 1) := by decide +kernel
theorem zd_L_law_377 : decode zc_L_law 377 = .ok (.iaload, 1) := by decide +kernel
theorem zd_L_law_378 : decode zc_L_law 378 = .ok (.aload_n 0, 1) := by decide +kernel
theorem zd_L_law_379 : decode zc_L_law 379 = .ok (.iload 4, 2) := by decide +kernel
theorem zd_L_law_381 : decode zc_L_law 381 = .ok (.iconst 2, 1) := by decide +kernel
theorem zd_L_law_382 : decode zc_L_law 382 = .ok (.iadd, 1) := by decide +kernel
theorem zd_L_law_383 : decode zc_L_law 383 = .ok (.iaload, 1) := by decide +kernel
theorem zd_L_law_384 : decode zc_L_law 384 = .ok (.i2l, 1) := by decide +kernel
theorem zd_L_law_385 : decode zc_L_law 385 = .ok (.bipush 32, 2) := by decide +kernel
theorem zd_L_law_387 : decode zc_L_law 387 = .ok (.lshl, 1) := by decide +kernel
theorem zd_L_law_388 : decode zc_L_law 388 = .ok (.aload_n 0, 1) := by decide +kernel
theorem zd_L_law_389 : decode zc_L_law 389 = .ok (.iload 4, 2) := by decide +kernel
theorem zd_L_law_391 : decode zc_L_law 391 = .ok (.iconst 3, 1) := by decide +kernel
theorem zd_L_law_392 : decode zc_L_law 392 = .ok (.iadd, 1) := by decide +kernel
theorem zd_L_law_393 : decode zc_L_law 393 = .ok (.iaload, 1) := by decide +kernel
theorem zd_L_law_394 : decode zc_L_law 394 = .ok (.i2l, 1) := by decide +kernel
theorem zd_L_law_395 : decode zc_L_law 395 = .ok (.ldc2_w 62, 3) := by decide +kernel
theorem zd_L_law_398 : decode zc_L_law 398 = .ok (.land, 1) := by decide +kernel
theorem zd_L_law_399 : decode zc_L_law 399 = .ok (.lor, 1) := by decide +kernel
theorem zd_L_law_400 : decode zc_L_law 400 = .ok (.aload_n 0, 1) := by decide +kernel
theorem zd_L_law_401 : decode zc_L_law 401 = .ok (.iload 4, 2) := by decide +kernel
theorem zd_L_law_403 : decode zc_L_law 403 = .ok (.iconst 4, 1) := by decide +kernel
theorem zd_L_law_404 : decode zc_L_law 404 = .ok (.iadd, 1) := by decide +kernel
theorem zd_L_law_405 : decode zc_L_law 405 = .ok (.iaload, 1) := by decide +kernel
theorem zd_L_law_406 : decode zc_L_law 406 = .ok (.invokevirtual 79, 3) := by decide +kernel
theorem zd_L_law_409 : decode zc_L_law 409 = .ok (.istore 6, 2) := by decide +kernel
theorem zd_L_law_411 : decode zc_L_law 411 = .ok (.aload_n 2, 1) := by decide +kernel
theorem zd_L_law_412 : decode zc_L_law 412 = .ok (.invokevirtual 68, 3) := by decide +kernel
theorem zd_L_law_415 : decode zc_L_law 415 = .ok (.iload 5, 2) := by decide +kernel
theorem zd_L_law_417 : decode zc_L_law 417 = .ok (.if_icmp .eq 5, 3) := by decide +kernel
theorem zd_L_law_420 : decode zc_L_law 420 = .ok (.iconst 0, 1) := by decide +kernel
theorem zd_L_law_421 : decode zc_L_law 421 = .ok (.ireturn, 1) := by decide +kernel
theorem zd_L_law_422 : decode zc_L_law 422 = .ok (.iload 5, 2) := by decide +kernel
theorem zd_L_law_424 : decode zc_L_law 424 = .ok (.ifCond .ne 15, 3) := by decide +kernel
theorem zd_L_law_427 : decode zc_L_law 427 = .ok (.aload_n 3, 1) := by decide +kernel
theorem zd_L_law_428 : decode zc_L_law 428 = .ok (.iconst 0, 1) := by decide +kernel
theorem zd_L_law_429 : decode zc_L_law 429 = .ok (.laload, 1) := by decide +kernel
theorem zd_L_law_430 : decode zc_L_law 430 = .ok (.iload 6, 2) := by decide +kernel
theorem zd_L_law_432 : decode zc_L_law 432 = .ok (.i2l, 1) := by decide +kernel
theorem zd_L_law_433 : decode zc_L_law 433 = .ok (.lcmp, 1) := by decide +kernel
theorem zd_L_law_434 : decode zc_L_law 434 = .ok (.ifCond .eq 5, 3) := by decide +kernel
theorem zd_L_law_437 : decode zc_L_law 437 = .ok (.iconst 0, 1) := by decide +kernel
theorem zd_L_law_438 : decode zc_L_law 438 = .ok (.ireturn, 1) := by decide +kernel
theorem zd_L_law_439 : decode zc_L_law 439 = .ok (.goto 395, 3) := by decide +kernel
theorem zd_L_law_442 : decode zc_L_law 442 = .ok (.aload_n 1, 1) := by decide +kernel
theorem zd_L_law_443 : decode zc_L_law 443 = .ok (.aload_n 3, 1) := by decide +kernel
theorem zd_L_law_444 : decode zc_L_law 444 = .ok (.invokestatic 80, 3) := by decide +kernel
theorem zd_L_law_447 : decode zc_L_law 447 = .ok (.istore 5, 2) := by decide +kernel
theorem zd_L_law_449 : decode zc_L_law 449 = .ok (.aload_n 2, 1) := by decide +kernel
theorem zd_L_law_450 : decode zc_L_law 450 = .ok (.invokevirtual 83, 3) := by decide +kernel
theorem zd_L_law_453 : decode zc_L_law 453 = .ok (.lstore 6, 2) := by decide +kernel
theorem zd_L_law_455 : decode zc_L_law 455 = .ok (.aload_n 2, 1) := by decide +kernel
theorem zd_L_law_456 : decode zc_L_law 456 = .ok (.invokevirtual 68, 3) := by decide +kernel
theorem zd_L_law_459 : decode zc_L_law 459 = .ok (.iload 5, 2) := by decide +kernel
theorem zd_L_law_461 : decode zc_L_law 461 = .ok (.if_icmp .eq 5, 3) := by decide +kernel
theorem zd_L_law_464 : decode zc_L_law 464 = .ok (.iconst 0, 1) := by decide +kernel
theorem zd_L_law_465 : decode zc_L_law 465 = .ok (.ireturn, 1) := by decide +kernel
theorem zd_L_law_466 : decode zc_L_law 466 = .ok (.iload 5, 2) := by decide +kernel
theorem zd_L_law_468 : decode zc_L_law 468 = .ok (.ifCond .ne 14, 3) := by decide +kernel
theorem zd_L_law_471 : decode zc_L_law 471 = .ok (.aload_n 3, 1) := by decide +kernel
theorem zd_L_law_472 : decode zc_L_law 472 = .ok (.iconst 0, 1) := by decide +kernel
theorem zd_L_law_473 : decode zc_L_law 473 = .ok (.laload, 1) := by decide +kernel
theorem zd_L_law_474 : decode zc_L_law 474 = .ok (.lload 6, 2) := by decide +kernel
theorem zd_L_law_476 : decode zc_L_law 476 = .ok (.lcmp, 1) := by decide +kernel
theorem zd_L_law_477 : decode zc_L_law 477 = .ok (.ifCond .eq 5, 3) := by decide +kernel
theorem zd_L_law_480 : decode zc_L_law 480 = .ok (.iconst 0, 1) := by decide +kernel
theorem zd_L_law_481 : decode zc_L_law 481 = .ok (.ireturn, 1) := by decide +kernel
theorem zd_L_law_482 : decode zc_L_law 482 = .ok (.goto 352, 3) := by decide +kernel
theorem zd_L_law_485 : decode zc_L_law 485 = .ok (.aload_n 1, 1) := by decide +kernel
theorem zd_L_law_486 : decode zc_L_law 486 = .ok (.aload_n 0, 1) := by decide +kernel
theorem zd_L_law_487 : decode zc_L_law 487 = .ok (.iload 4, 2) := by decide +kernel
theorem zd_L_law_489 : decode zc_L_law 489 = .ok (.iconst 1, 1) := by decide +kernel
theorem zd_L_law_490 : decode zc_L_law 490 = .ok (.iadd, 1) := by decide +kernel
theorem zd_L_law_491 : decode zc_L_law 491 = .ok (.iaload, 1) := by decide +kernel
theorem zd_L_law_492 : decode zc_L_law 492 = .ok (.aload_n 3, 1) := by decide +kernel
theorem zd_L_law_493 : decode zc_L_law 493 = .ok (.invokestatic 84, 3) := by decide +kernel
theorem zd_L_law_496 : decode zc_L_law 496 = .ok (.istore 5, 2) := by decide +kernel
theorem zd_L_law_498 : decode zc_L_law 498 = .ok (.aload_n 2, 1) := by decide +kernel
theorem zd_L_law_499 : decode zc_L_law 499 = .ok (.aload_n 0, 1) := by decide +kernel
theorem zd_L_law_500 : decode zc_L_law 500 = .ok (.iload 4, 2) := by decide +kernel
theorem zd_L_law_502 : decode zc_L_law 502 = .ok (.iconst 1, 1) := by decide +kernel
theorem zd_L_law_503 : decode zc_L_law 503 = .ok (.iadd, 1) := by decide +kernel
theorem zd_L_law_504 : decode zc_L_law 504 = .ok (.iaload, 1) := by decide +kernel
theorem zd_L_law_505 : decode zc_L_law 505 = .ok (.invokevirtual 87, 3) := by decide +kernel
theorem zd_L_law_508 : decode zc_L_law 508 = .ok (.istore 6, 2) := by decide +kernel
theorem zd_L_law_510 : decode zc_L_law 510 = .ok (.aload_n 2, 1) := by decide +kernel
theorem zd_L_law_511 : decode zc_L_law 511 = .ok (.invokevirtual 68, 3) := by decide +kernel
theorem zd_L_law_514 : decode zc_L_law 514 = .ok (.iload 5, 2) := by decide +kernel
theorem zd_L_law_516 : decode zc_L_law 516 = .ok (.if_icmp .eq 5, 3) := by decide +kernel
theorem zd_L_law_519 : decode zc_L_law 519 = .ok (.iconst 0, 1) := by decide +kernel
theorem zd_L_law_520 : decode zc_L_law 520 = .ok (.ireturn, 1) := by decide +kernel
theorem zd_L_law_521 : decode zc_L_law 521 = .ok (.iload 5, 2) := by decide +kernel
theorem zd_L_law_523 : decode zc_L_law 523 = .ok (.ifCond .ne 15, 3) := by decide +kernel
theorem zd_L_law_526 : decode zc_L_law 526 = .ok (.aload_n 3, 1) := by decide +kernel
theorem zd_L_law_527 : decode zc_L_law 527 = .ok (.iconst 0, 1) := by decide +kernel
theorem zd_L_law_528 : decode zc_L_law 528 = .ok (.laload, 1) := by decide +kernel
theorem zd_L_law_529 : decode zc_L_law 529 = .ok (.iload 6, 2) := by decide +kernel
theorem zd_L_law_531 : decode zc_L_law 531 = .ok (.i2l, 1) := by decide +kernel
theorem zd_L_law_532 : decode zc_L_law 532 = .ok (.lcmp, 1) := by decide +kernel
theorem zd_L_law_533 : decode zc_L_law 533 = .ok (.ifCond .eq 5, 3) := by decide +kernel
theorem zd_L_law_536 : decode zc_L_law 536 = .ok (.iconst 0, 1) := by decide +kernel
theorem zd_L_law_537 : decode zc_L_law 537 = .ok (.ireturn, 1) := by decide +kernel
theorem zd_L_law_538 : decode zc_L_law 538 = .ok (.goto 296, 3) := by decide +kernel
theorem zd_L_law_541 : decode zc_L_law 541 = .ok (.aload_n 1, 1) := by decide +kernel
theorem zd_L_law_542 : decode zc_L_law 542 = .ok (.aload_n 0, 1) := by decide +kernel
theorem zd_L_law_543 : decode zc_L_law 543 = .ok (.iload 4, 2) := by decide +kernel
theorem zd_L_law_545 : decode zc_L_law 545 = .ok (.iconst 1, 1) := by decide +kernel
theorem zd_L_law_546 : decode zc_L_law 546 = .ok (.iadd, 1) := by decide +kernel
theorem zd_L_law_547 : decode zc_L_law 547 = .ok (.iaload, 1) := by decide +kernel
theorem zd_L_law_548 : decode zc_L_law 548 = .ok (.aload_n 3, 1) := by decide +kernel
theorem zd_L_law_549 : decode zc_L_law 549 = .ok (.invokestatic 88, 3) := by decide +kernel
theorem zd_L_law_552 : decode zc_L_law 552 = .ok (.istore 5, 2) := by decide +kernel
theorem zd_L_law_554 : decode zc_L_law 554 = .ok (.aload_n 2, 1) := by decide +kernel
theorem zd_L_law_555 : decode zc_L_law 555 = .ok (.aload_n 0, 1) := by decide +kernel
theorem zd_L_law_556 : decode zc_L_law 556 = .ok (.iload 4, 2) := by decide +kernel
theorem zd_L_law_558 : decode zc_L_law 558 = .ok (.iconst 1, 1) := by decide +kernel
theorem zd_L_law_559 : decode zc_L_law 559 = .ok (.iadd, 1) := by decide +kernel
theorem zd_L_law_560 : decode zc_L_law 560 = .ok (.iaload, 1) := by decide +kernel
theorem zd_L_law_561 : decode zc_L_law 561 = .ok (.invokevirtual 90, 3) := by decide +kernel
theorem zd_L_law_564 : decode zc_L_law 564 = .ok (.istore 6, 2) := by decide +kernel
theorem zd_L_law_566 : decode zc_L_law 566 = .ok (.aload_n 2, 1) := by decide +kernel
theorem zd_L_law_567 : decode zc_L_law 567 = .ok (.invokevirtual 68, 3) := by decide +kernel
theorem zd_L_law_570 : decode zc_L_law 570 = .ok (.iload 5, 2) := by decide +kernel
theorem zd_L_law_572 : decode zc_L_law 572 = .ok (.if_icmp .eq 5, 3) := by decide +kernel
theorem zd_L_law_575 : decode zc_L_law 575 = .ok (.iconst 0, 1) := by decide +kernel
theorem zd_L_law_576 : decode zc_L_law 576 = .ok (.ireturn, 1) := by decide +kernel
theorem zd_L_law_577 : decode zc_L_law 577 = .ok (.iload 5, 2) := by decide +kernel
theorem zd_L_law_579 : decode zc_L_law 579 = .ok (.ifCond .ne 15, 3) := by decide +kernel
theorem zd_L_law_582 : decode zc_L_law 582 = .ok (.aload_n 3, 1) := by decide +kernel
theorem zd_L_law_583 : decode zc_L_law 583 = .ok (.iconst 0, 1) := by decide +kernel
theorem zd_L_law_584 : decode zc_L_law 584 = .ok (.laload, 1) := by decide +kernel
theorem zd_L_law_585 : decode zc_L_law 585 = .ok (.iload 6, 2) := by decide +kernel
theorem zd_L_law_587 : decode zc_L_law 587 = .ok (.i2l, 1) := by decide +kernel
theorem zd_L_law_588 : decode zc_L_law 588 = .ok (.lcmp, 1) := by decide +kernel
theorem zd_L_law_589 : decode zc_L_law 589 = .ok (.ifCond .eq 5, 3) := by decide +kernel
theorem zd_L_law_592 : decode zc_L_law 592 = .ok (.iconst 0, 1) := by decide +kernel
theorem zd_L_law_593 : decode zc_L_law 593 = .ok (.ireturn, 1) := by decide +kernel
theorem zd_L_law_594 : decode zc_L_law 594 = .ok (.goto 240, 3) := by decide +kernel
theorem zd_L_law_597 : decode zc_L_law 597 = .ok (.aload_n 1, 1) := by decide +kernel
theorem zd_L_law_598 : decode zc_L_law 598 = .ok (.aload_n 0, 1) := by decide +kernel
theorem zd_L_law_599 : decode zc_L_law 599 = .ok (.iload 4, 2) := by decide +kernel
theorem zd_L_law_601 : decode zc_L_law 601 = .ok (.iconst 1, 1) := by decide +kernel
theorem zd_L_law_602 : decode zc_L_law 602 = .ok (.iadd, 1) := by decide +kernel
theorem zd_L_law_603 : decode zc_L_law 603 = .ok (.iaload, 1) := by decide +kernel
theorem zd_L_law_604 : decode zc_L_law 604 = .ok (.aload_n 3, 1) := by decide +kernel
theorem zd_L_law_605 : decode zc_L_law 605 = .ok (.invokestatic 91, 3) := by decide +kernel
theorem zd_L_law_608 : decode zc_L_law 608 = .ok (.istore 5, 2) := by decide +kernel
theorem zd_L_law_610 : decode zc_L_law 610 = .ok (.aload_n 2, 1) := by decide +kernel
theorem zd_L_law_611 : decode zc_L_law 611 = .ok (.aload_n 0, 1) := by decide +kernel
theorem zd_L_law_612 : decode zc_L_law 612 = .ok (.iload 4, 2) := by decide +kernel
theorem zd_L_law_614 : decode zc_L_law 614 = .ok (.iconst 1, 1) := by decide +kernel
theorem zd_L_law_615 : decode zc_L_law 615 = .ok (.iadd, 1) := by decide +kernel
theorem zd_L_law_616 : decode zc_L_law 616 = .ok (.iaload, 1) := by decide +kernel
theorem zd_L_law_617 : decode zc_L_law 617 = .ok (.invokevirtual 93, 3) := by decide +kernel
theorem zd_L_law_620 : decode zc_L_law 620 = .ok (.istore 6, 2) := by decide +kernel
theorem zd_L_law_622 : decode zc_L_law 622 = .ok (.aload_n 2, 1) := by decide +kernel
theorem zd_L_law_623 : decode zc_L_law 623 = .ok (.invokevirtual 68, 3) := by decide +kernel
theorem zd_L_law_626 : decode zc_L_law 626 = .ok (.iload 5, 2) := by decide +kernel
theorem zd_L_law_628 : decode zc_L_law 628 = .ok (.if_icmp .eq 5, 3) := by decide +kernel
theorem zd_L_law_631 : decode zc_L_law 631 = .ok (.iconst 0, 1) := by decide +kernel
theorem zd_L_law_632 : decode zc_L_law 632 = .ok (.ireturn, 1) := by decide +kernel
theorem zd_L_law_633 : decode zc_L_law 633 = .ok (.iload 5, 2) := by decide +kernel
theorem zd_L_law_635 : decode zc_L_law 635 = .ok (.ifCond .ne 15, 3) := by decide +kernel
theorem zd_L_law_638 : decode zc_L_law 638 = .ok (.aload_n 3, 1) := by decide +kernel
theorem zd_L_law_639 : decode zc_L_law 639 = .ok (.iconst 0, 1) := by decide +kernel
theorem zd_L_law_640 : decode zc_L_law 640 = .ok (.laload, 1) := by decide +kernel
theorem zd_L_law_641 : decode zc_L_law 641 = .ok (.iload 6, 2) := by decide +kernel
theorem zd_L_law_643 : decode zc_L_law 643 = .ok (.i2l, 1) := by decide +kernel
theorem zd_L_law_644 : decode zc_L_law 644 = .ok (.lcmp, 1) := by decide +kernel
theorem zd_L_law_645 : decode zc_L_law 645 = .ok (.ifCond .eq 5, 3) := by decide +kernel
theorem zd_L_law_648 : decode zc_L_law 648 = .ok (.iconst 0, 1) := by decide +kernel
theorem zd_L_law_649 : decode zc_L_law 649 = .ok (.ireturn, 1) := by decide +kernel
theorem zd_L_law_650 : decode zc_L_law 650 = .ok (.goto 184, 3) := by decide +kernel
theorem zd_L_law_653 : decode zc_L_law 653 = .ok (.aload_n 1, 1) := by decide +kernel
theorem zd_L_law_654 : decode zc_L_law 654 = .ok (.aload_n 0, 1) := by decide +kernel
theorem zd_L_law_655 : decode zc_L_law 655 = .ok (.iload 4, 2) := by decide +kernel
theorem zd_L_law_657 : decode zc_L_law 657 = .ok (.iconst 1, 1) := by decide +kernel
theorem zd_L_law_658 : decode zc_L_law 658 = .ok (.iadd, 1) := by decide +kernel
theorem zd_L_law_659 : decode zc_L_law 659 = .ok (.iaload, 1) := by decide +kernel
theorem zd_L_law_660 : decode zc_L_law 660 = .ok (.aload_n 3, 1) := by decide +kernel
theorem zd_L_law_661 : decode zc_L_law 661 = .ok (.invokestatic 94, 3) := by decide +kernel
theorem zd_L_law_664 : decode zc_L_law 664 = .ok (.istore 5, 2) := by decide +kernel
theorem zd_L_law_666 : decode zc_L_law 666 = .ok (.aload_n 2, 1) := by decide +kernel
theorem zd_L_law_667 : decode zc_L_law 667 = .ok (.aload_n 0, 1) := by decide +kernel
theorem zd_L_law_668 : decode zc_L_law 668 = .ok (.iload 4, 2) := by decide +kernel
theorem zd_L_law_670 : decode zc_L_law 670 = .ok (.iconst 1, 1) := by decide +kernel
theorem zd_L_law_671 : decode zc_L_law 671 = .ok (.iadd, 1) := by decide +kernel
theorem zd_L_law_672 : decode zc_L_law 672 = .ok (.iaload, 1) := by decide +kernel
theorem zd_L_law_673 : decode zc_L_law 673 = .ok (.invokevirtual 96, 3) := by decide +kernel
theorem zd_L_law_676 : decode zc_L_law 676 = .ok (.istore 6, 2) := by decide +kernel
theorem zd_L_law_678 : decode zc_L_law 678 = .ok (.aload_n 2, 1) := by decide +kernel
theorem zd_L_law_679 : decode zc_L_law 679 = .ok (.invokevirtual 68, 3) := by decide +kernel
theorem zd_L_law_682 : decode zc_L_law 682 = .ok (.iload 5, 2) := by decide +kernel
theorem zd_L_law_684 : decode zc_L_law 684 = .ok (.if_icmp .eq 5, 3) := by decide +kernel
theorem zd_L_law_687 : decode zc_L_law 687 = .ok (.iconst 0, 1) := by decide +kernel
theorem zd_L_law_688 : decode zc_L_law 688 = .ok (.ireturn, 1) := by decide +kernel
theorem zd_L_law_689 : decode zc_L_law 689 = .ok (.iload 5, 2) := by decide +kernel
theorem zd_L_law_691 : decode zc_L_law 691 = .ok (.ifCond .ne 15, 3) := by decide +kernel
theorem zd_L_law_694 : decode zc_L_law 694 = .ok (.aload_n 3, 1) := by decide +kernel
theorem zd_L_law_695 : decode zc_L_law 695 = .ok (.iconst 0, 1) := by decide +kernel
theorem zd_L_law_696 : decode zc_L_law 696 = .ok (.laload, 1) := by decide +kernel
theorem zd_L_law_697 : decode zc_L_law 697 = .ok (.iload 6, 2) := by decide +kernel
theorem zd_L_law_699 : decode zc_L_law 699 = .ok (.i2l, 1) := by decide +kernel
theorem zd_L_law_700 : decode zc_L_law 700 = .ok (.lcmp, 1) := by decide +kernel
theorem zd_L_law_701 : decode zc_L_law 701 = .ok (.ifCond .eq 5, 3) := by decide +kernel
theorem zd_L_law_704 : decode zc_L_law 704 = .ok (.iconst 0, 1) := by decide +kernel
theorem zd_L_law_705 : decode zc_L_law 705 = .ok (.ireturn, 1) := by decide +kernel
theorem zd_L_law_706 : decode zc_L_law 706 = .ok (.goto 128, 3) := by decide +kernel
theorem zd_L_law_709 : decode zc_L_law 709 = .ok (.aload_n 1, 1) := by decide +kernel
theorem zd_L_law_710 : decode zc_L_law 710 = .ok (.aload_n 0, 1) := by decide +kernel
theorem zd_L_law_711 : decode zc_L_law 711 = .ok (.iload 4, 2) := by decide +kernel
theorem zd_L_law_713 : decode zc_L_law 713 = .ok (.iconst 1, 1) := by decide +kernel
theorem zd_L_law_714 : decode zc_L_law 714 = .ok (.iadd, 1) := by decide +kernel
theorem zd_L_law_715 : decode zc_L_law 715 = .ok (.iaload, 1) := by decide +kernel
theorem zd_L_law_716 : decode zc_L_law 716 = .ok (.aload_n 3, 1) := by decide +kernel
theorem zd_L_law_717 : decode zc_L_law 717 = .ok (.invokestatic 97, 3) := by decide +kernel
theorem zd_L_law_720 : decode zc_L_law 720 = .ok (.istore 5, 2) := by decide +kernel
theorem zd_L_law_722 : decode zc_L_law 722 = .ok (.aload_n 2, 1) := by decide +kernel
theorem zd_L_law_723 : decode zc_L_law 723 = .ok (.aload_n 0, 1) := by decide +kernel
theorem zd_L_law_724 : decode zc_L_law 724 = .ok (.iload 4, 2) := by decide +kernel
theorem zd_L_law_726 : decode zc_L_law 726 = .ok (.iconst 1, 1) := by decide +kernel
theorem zd_L_law_727 : decode zc_L_law 727 = .ok (.iadd, 1) := by decide +kernel
theorem zd_L_law_728 : decode zc_L_law 728 = .ok (.iaload, 1) := by decide +kernel
theorem zd_L_law_729 : decode zc_L_law 729 = .ok (.invokevirtual 99, 3) := by decide +kernel
theorem zd_L_law_732 : decode zc_L_law 732 = .ok (.istore 6, 2) := by decide +kernel
theorem zd_L_law_734 : decode zc_L_law 734 = .ok (.aload_n 2, 1) := by decide +kernel
theorem zd_L_law_735 : decode zc_L_law 735 = .ok (.invokevirtual 68, 3) := by decide +kernel
theorem zd_L_law_738 : decode zc_L_law 738 = .ok (.iload 5, 2) := by decide +kernel
theorem zd_L_law_740 : decode zc_L_law 740 = .ok (.if_icmp .eq 5, 3) := by decide +kernel
theorem zd_L_law_743 : decode zc_L_law 743 = .ok (.iconst 0, 1) := by decide +kernel
theorem zd_L_law_744 : decode zc_L_law 744 = .ok (.ireturn, 1) := by decide +kernel
theorem zd_L_law_745 : decode zc_L_law 745 = .ok (.iload 5, 2) := by decide +kernel
theorem zd_L_law_747 : decode zc_L_law 747 = .ok (.ifCond .ne 15, 3) := by decide +kernel
theorem zd_L_law_750 : decode zc_L_law 750 = .ok (.aload_n 3, 1) := by decide +kernel
theorem zd_L_law_751 : decode zc_L_law 751 = .ok (.iconst 0, 1) := by decide +kernel
theorem zd_L_law_752 : decode zc_L_law 752 = .ok (.laload, 1) := by decide +kernel
theorem zd_L_law_753 : decode zc_L_law 753 = .ok (.iload 6, 2) := by decide +kernel
theorem zd_L_law_755 : decode zc_L_law 755 = .ok (.i2l, 1) := by decide +kernel
theorem zd_L_law_756 : decode zc_L_law 756 = .ok (.lcmp, 1) := by decide +kernel
theorem zd_L_law_757 : decode zc_L_law 757 = .ok (.ifCond .eq 5, 3) := by decide +kernel
theorem zd_L_law_760 : decode zc_L_law 760 = .ok (.iconst 0, 1) := by decide +kernel
theorem zd_L_law_761 : decode zc_L_law 761 = .ok (.ireturn, 1) := by decide +kernel
theorem zd_L_law_762 : decode zc_L_law 762 = .ok (.goto 72, 3) := by decide +kernel
theorem zd_L_law_765 : decode zc_L_law 765 = .ok (.aload_n 1, 1) := by decide +kernel
theorem zd_L_law_766 : decode zc_L_law 766 = .ok (.aload_n 0, 1) := by decide +kernel
theorem zd_L_law_767 : decode zc_L_law 767 = .ok (.iload 4, 2) := by decide +kernel
theorem zd_L_law_769 : decode zc_L_law 769 = .ok (.iconst 1, 1) := by decide +kernel
theorem zd_L_law_770 : decode zc_L_law 770 = .ok (.iadd, 1) := by decide +kernel
theorem zd_L_law_771 : decode zc_L_law 771 = .ok (.iaload, 1) := by decide +kernel
theorem zd_L_law_772 : decode zc_L_law 772 = .ok (.aload_n 3, 1) := by decide +kernel
theorem zd_L_law_773 : decode zc_L_law 773 = .ok (.invokestatic 100, 3) := by decide +kernel
theorem zd_L_law_776 : decode zc_L_law 776 = .ok (.istore 5, 2) := by decide +kernel
theorem zd_L_law_778 : decode zc_L_law 778 = .ok (.aload_n 2, 1) := by decide +kernel
theorem zd_L_law_779 : decode zc_L_law 779 = .ok (.aload_n 0, 1) := by decide +kernel
theorem zd_L_law_780 : decode zc_L_law 780 = .ok (.iload 4, 2) := by decide +kernel
theorem zd_L_law_782 : decode zc_L_law 782 = .ok (.iconst 1, 1) := by decide +kernel
theorem zd_L_law_783 : decode zc_L_law 783 = .ok (.iadd, 1) := by decide +kernel
theorem zd_L_law_784 : decode zc_L_law 784 = .ok (.iaload, 1) := by decide +kernel
theorem zd_L_law_785 : decode zc_L_law 785 = .ok (.invokevirtual 102, 3) := by decide +kernel
theorem zd_L_law_788 : decode zc_L_law 788 = .ok (.istore 6, 2) := by decide +kernel
theorem zd_L_law_790 : decode zc_L_law 790 = .ok (.aload_n 2, 1) := by decide +kernel
theorem zd_L_law_791 : decode zc_L_law 791 = .ok (.invokevirtual 68, 3) := by decide +kernel
theorem zd_L_law_794 : decode zc_L_law 794 = .ok (.iload 5, 2) := by decide +kernel
theorem zd_L_law_796 : decode zc_L_law 796 = .ok (.if_icmp .eq 5, 3) := by decide +kernel
theorem zd_L_law_799 : decode zc_L_law 799 = .ok (.iconst 0, 1) := by decide +kernel
theorem zd_L_law_800 : decode zc_L_law 800 = .ok (.ireturn, 1) := by decide +kernel
theorem zd_L_law_801 : decode zc_L_law 801 = .ok (.iload 5, 2) := by decide +kernel
theorem zd_L_law_803 : decode zc_L_law 803 = .ok (.ifCond .ne 15, 3) := by decide +kernel
theorem zd_L_law_806 : decode zc_L_law 806 = .ok (.aload_n 3, 1) := by decide +kernel
theorem zd_L_law_807 : decode zc_L_law 807 = .ok (.iconst 0, 1) := by decide +kernel
theorem zd_L_law_808 : decode zc_L_law 808 = .ok (.laload, 1) := by decide +kernel
theorem zd_L_law_809 : decode zc_L_law 809 = .ok (.iload 6, 2) := by decide +kernel
theorem zd_L_law_811 : decode zc_L_law 811 = .ok (.i2l, 1) := by decide +kernel
theorem zd_L_law_812 : decode zc_L_law 812 = .ok (.lcmp, 1) := by decide +kernel
theorem zd_L_law_813 : decode zc_L_law 813 = .ok (.ifCond .eq 5, 3) := by decide +kernel
theorem zd_L_law_816 : decode zc_L_law 816 = .ok (.iconst 0, 1) := by decide +kernel
theorem zd_L_law_817 : decode zc_L_law 817 = .ok (.ireturn, 1) := by decide +kernel
theorem zd_L_law_818 : decode zc_L_law 818 = .ok (.goto 16, 3) := by decide +kernel
theorem zd_L_law_821 : decode zc_L_law 821 = .ok (.aload_n 1, 1) := by decide +kernel
theorem zd_L_law_822 : decode zc_L_law 822 = .ok (.invokevirtual 103, 3) := by decide +kernel
theorem zd_L_law_825 : decode zc_L_law 825 = .ok (.aload_n 2, 1) := by decide +kernel
theorem zd_L_law_826 : decode zc_L_law 826 = .ok (.invokevirtual 106, 3) := by decide +kernel
theorem zd_L_law_829 : decode zc_L_law 829 = .ok (.if_icmp .eq 5, 3) := by decide +kernel
theorem zd_L_law_832 : decode zc_L_law 832 = .ok (.iconst 0, 1) := by decide +kernel
theorem zd_L_law_833 : decode zc_L_law 833 = .ok (.ireturn, 1) := by decide +kernel
theorem zd_L_law_834 : decode zc_L_law 834 = .ok (.iinc 4 6, 3) := by decide +kernel
theorem zd_L_law_837 : decode zc_L_law 837 = .ok (.goto (-804), 3) := by decide +kernel
theorem zd_L_law_840 : decode zc_L_law 840 = .ok (.iconst 1, 1) := by decide +kernel
theorem zd_L_law_841 : decode zc_L_law 841 = .ok (.ireturn, 1) := by decide +kernel
