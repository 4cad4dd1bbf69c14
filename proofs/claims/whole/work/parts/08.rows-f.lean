theorem d_Law_law_0 : decode code 0 = .ok (.new 7, 3) := by decide +kernel
theorem d_Law_law_3 : decode code 3 = .ok (.dup, 1) := by decide +kernel
theorem d_Law_law_4 : decode code 4 = .ok (.invokespecial 9, 3) := by decide +kernel
theorem d_Law_law_7 : decode code 7 = .ok (.astore_n 1, 1) := by decide +kernel
theorem d_Law_law_8 : decode code 8 = .ok (.new 10, 3) := by decide +kernel
theorem d_Law_law_11 : decode code 11 = .ok (.dup, 1) := by decide +kernel
theorem d_Law_law_12 : decode code 12 = .ok (.invokespecial 12, 3) := by decide +kernel
theorem d_Law_law_15 : decode code 15 = .ok (.astore_n 2, 1) := by decide +kernel
theorem d_Law_law_16 : decode code 16 = .ok (.iconst 0, 1) := by decide +kernel
theorem d_Law_law_17 : decode code 17 = .ok (.istore_n 3, 1) := by decide +kernel
theorem d_Law_law_18 : decode code 18 = .ok (.iload_n 3, 1) := by decide +kernel
theorem d_Law_law_19 : decode code 19 = .ok (.aload_n 0, 1) := by decide +kernel
theorem d_Law_law_20 : decode code 20 = .ok (.arraylength, 1) := by decide +kernel
theorem d_Law_law_21 : decode code 21 = .ok (.iconst 4, 1) := by decide +kernel
theorem d_Law_law_22 : decode code 22 = .ok (.isub, 1) := by decide +kernel
theorem d_Law_law_23 : decode code 23 = .ok (.if_icmp .gt 526, 3) := by decide +kernel
theorem d_Law_law_26 : decode code 26 = .ok (.aload_n 0, 1) := by decide +kernel
theorem d_Law_law_27 : decode code 27 = .ok (.iload_n 3, 1) := by decide +kernel
theorem d_Law_law_28 : decode code 28 = .ok (.iaload, 1) := by decide +kernel
theorem d_Law_law_29 : decode code 29 = .ok (.bipush 15, 2) := by decide +kernel
theorem d_Law_law_31 : decode code 31 = .ok (.iand, 1) := by decide +kernel
theorem d_Law_law_32 : decode code 32 = .ok (.tableswitch 511 0 11 #[64, 127, 190, 243, 282, 295, 318, 342, 376, 420, 464, 498], 64) := by decide +kernel
theorem d_Law_law_96 : decode code 96 = .ok (.aload_n 1, 1) := by decide +kernel
theorem d_Law_law_97 : decode code 97 = .ok (.aload_n 0, 1) := by decide +kernel
theorem d_Law_law_98 : decode code 98 = .ok (.iload_n 3, 1) := by decide +kernel
theorem d_Law_law_99 : decode code 99 = .ok (.iconst 1, 1) := by decide +kernel
theorem d_Law_law_100 : decode code 100 = .ok (.iadd, 1) := by decide +kernel
theorem d_Law_law_101 : decode code 101 = .ok (.iaload, 1) := by decide +kernel
theorem d_Law_law_102 : decode code 102 = .ok (.i2l, 1) := by decide +kernel
theorem d_Law_law_103 : decode code 103 = .ok (.bipush 32, 2) := by decide +kernel
theorem d_Law_law_105 : decode code 105 = .ok (.lshl, 1) := by decide +kernel
theorem d_Law_law_106 : decode code 106 = .ok (.aload_n 0, 1) := by decide +kernel
theorem d_Law_law_107 : decode code 107 = .ok (.iload_n 3, 1) := by decide +kernel
theorem d_Law_law_108 : decode code 108 = .ok (.iconst 2, 1) := by decide +kernel
theorem d_Law_law_109 : decode code 109 = .ok (.iadd, 1) := by decide +kernel
theorem d_Law_law_110 : decode code 110 = .ok (.iaload, 1) := by decide +kernel
theorem d_Law_law_111 : decode code 111 = .ok (.i2l, 1) := by decide +kernel
theorem d_Law_law_112 : decode code 112 = .ok (.ldc2_w 13, 3) := by decide +kernel
theorem d_Law_law_115 : decode code 115 = .ok (.land, 1) := by decide +kernel
theorem d_Law_law_116 : decode code 116 = .ok (.lor, 1) := by decide +kernel
theorem d_Law_law_117 : decode code 117 = .ok (.aload_n 0, 1) := by decide +kernel
theorem d_Law_law_118 : decode code 118 = .ok (.iload_n 3, 1) := by decide +kernel
theorem d_Law_law_119 : decode code 119 = .ok (.iconst 3, 1) := by decide +kernel
theorem d_Law_law_120 : decode code 120 = .ok (.iadd, 1) := by decide +kernel
theorem d_Law_law_121 : decode code 121 = .ok (.iaload, 1) := by decide +kernel
theorem d_Law_law_122 : decode code 122 = .ok (.invokevirtual 15, 3) := by decide +kernel
theorem d_Law_law_125 : decode code 125 = .ok (.aload_n 2, 1) := by decide +kernel
theorem d_Law_law_126 : decode code 126 = .ok (.aload_n 0, 1) := by decide +kernel
theorem d_Law_law_127 : decode code 127 = .ok (.iload_n 3, 1) := by decide +kernel
theorem d_Law_law_128 : decode code 128 = .ok (.iconst 1, 1) := by decide +kernel
theorem d_Law_law_129 : decode code 129 = .ok (.iadd, 1) := by decide +kernel
theorem d_Law_law_130 : decode code 130 = .ok (.iaload, 1) := by decide +kernel
theorem d_Law_law_131 : decode code 131 = .ok (.i2l, 1) := by decide +kernel
theorem d_Law_law_132 : decode code 132 = .ok (.bipush 32, 2) := by decide +kernel
theorem d_Law_law_134 : decode code 134 = .ok (.lshl, 1) := by decide +kernel
theorem d_Law_law_135 : decode code 135 = .ok (.aload_n 0, 1) := by decide +kernel
theorem d_Law_law_136 : decode code 136 = .ok (.iload_n 3, 1) := by decide +kernel
theorem d_Law_law_137 : decode code 137 = .ok (.iconst 2, 1) := by decide +kernel
theorem d_Law_law_138 : decode code 138 = .ok (.iadd, 1) := by decide +kernel
theorem d_Law_law_139 : decode code 139 = .ok (.iaload, 1) := by decide +kernel
theorem d_Law_law_140 : decode code 140 = .ok (.i2l, 1) := by decide +kernel
theorem d_Law_law_141 : decode code 141 = .ok (.ldc2_w 13, 3) := by decide +kernel
theorem d_Law_law_144 : decode code 144 = .ok (.land, 1) := by decide +kernel
theorem d_Law_law_145 : decode code 145 = .ok (.lor, 1) := by decide +kernel
theorem d_Law_law_146 : decode code 146 = .ok (.aload_n 0, 1) := by decide +kernel
theorem d_Law_law_147 : decode code 147 = .ok (.iload_n 3, 1) := by decide +kernel
theorem d_Law_law_148 : decode code 148 = .ok (.iconst 3, 1) := by decide +kernel
theorem d_Law_law_149 : decode code 149 = .ok (.iadd, 1) := by decide +kernel
theorem d_Law_law_150 : decode code 150 = .ok (.iaload, 1) := by decide +kernel
theorem d_Law_law_151 : decode code 151 = .ok (.invokevirtual 19, 3) := by decide +kernel
theorem d_Law_law_154 : decode code 154 = .ok (.if_icmp .eq 389, 3) := by decide +kernel
theorem d_Law_law_157 : decode code 157 = .ok (.iconst 0, 1) := by decide +kernel
theorem d_Law_law_158 : decode code 158 = .ok (.ireturn, 1) := by decide +kernel
theorem d_Law_law_159 : decode code 159 = .ok (.aload_n 1, 1) := by decide +kernel
theorem d_Law_law_160 : decode code 160 = .ok (.aload_n 0, 1) := by decide +kernel
theorem d_Law_law_161 : decode code 161 = .ok (.iload_n 3, 1) := by decide +kernel
theorem d_Law_law_162 : decode code 162 = .ok (.iconst 1, 1) := by decide +kernel
theorem d_Law_law_163 : decode code 163 = .ok (.iadd, 1) := by decide +kernel
theorem d_Law_law_164 : decode code 164 = .ok (.iaload, 1) := by decide +kernel
theorem d_Law_law_165 : decode code 165 = .ok (.i2l, 1) := by decide +kernel
theorem d_Law_law_166 : decode code 166 = .ok (.bipush 32, 2) := by decide +kernel
theorem d_Law_law_168 : decode code 168 = .ok (.lshl, 1) := by decide +kernel
theorem d_Law_law_169 : decode code 169 = .ok (.aload_n 0, 1) := by decide +kernel
theorem d_Law_law_170 : decode code 170 = .ok (.iload_n 3, 1) := by decide +kernel
theorem d_Law_law_171 : decode code 171 = .ok (.iconst 2, 1) := by decide +kernel
theorem d_Law_law_172 : decode code 172 = .ok (.iadd, 1) := by decide +kernel
theorem d_Law_law_173 : decode code 173 = .ok (.iaload, 1) := by decide +kernel
theorem d_Law_law_174 : decode code 174 = .ok (.i2l, 1) := by decide +kernel
theorem d_Law_law_175 : decode code 175 = .ok (.ldc2_w 13, 3) := by decide +kernel
theorem d_Law_law_178 : decode code 178 = .ok (.land, 1) := by decide +kernel
theorem d_Law_law_179 : decode code 179 = .ok (.lor, 1) := by decide +kernel
theorem d_Law_law_180 : decode code 180 = .ok (.aload_n 0, 1) := by decide +kernel
theorem d_Law_law_181 : decode code 181 = .ok (.iload_n 3, 1) := by decide +kernel
theorem d_Law_law_182 : decode code 182 = .ok (.iconst 3, 1) := by decide +kernel
theorem d_Law_law_183 : decode code 183 = .ok (.iadd, 1) := by decide +kernel
theorem d_Law_law_184 : decode code 184 = .ok (.iaload, 1) := by decide +kernel
theorem d_Law_law_185 : decode code 185 = .ok (.invokevirtual 20, 3) := by decide +kernel
theorem d_Law_law_188 : decode code 188 = .ok (.aload_n 2, 1) := by decide +kernel
theorem d_Law_law_189 : decode code 189 = .ok (.aload_n 0, 1) := by decide +kernel
theorem d_Law_law_190 : decode code 190 = .ok (.iload_n 3, 1) := by decide +kernel
theorem d_Law_law_191 : decode code 191 = .ok (.iconst 1, 1) := by decide +kernel
theorem d_Law_law_192 : decode code 192 = .ok (.iadd, 1) := by decide +kernel
theorem d_Law_law_193 : decode code 193 = .ok (.iaload, 1) := by decide +kernel
theorem d_Law_law_194 : decode code 194 = .ok (.i2l, 1) := by decide +kernel
theorem d_Law_law_195 : decode code 195 = .ok (.bipush 32, 2) := by decide +kernel
theorem d_Law_law_197 : decode code 197 = .ok (.lshl, 1) := by decide +kernel
theorem d_Law_law_198 : decode code 198 = .ok (.aload_n 0, 1) := by decide +kernel
theorem d_Law_law_199 : decode code 199 = .ok (.iload_n 3, 1) := by decide +kernel
theorem d_Law_law_200 : decode code 200 = .ok (.iconst 2, 1) := by decide +kernel
theorem d_Law_law_201 : decode code 201 = .ok (.iadd, 1) := by decide +kernel
theorem d_Law_law_202 : decode code 202 = .ok (.iaload, 1) := by decide +kernel
theorem d_Law_law_203 : decode code 203 = .ok (.i2l, 1) := by decide +kernel
theorem d_Law_law_204 : decode code 204 = .ok (.ldc2_w 13, 3) := by decide +kernel
theorem d_Law_law_207 : decode code 207 = .ok (.land, 1) := by decide +kernel
theorem d_Law_law_208 : decode code 208 = .ok (.lor, 1) := by decide +kernel
theorem d_Law_law_209 : decode code 209 = .ok (.aload_n 0, 1) := by decide +kernel
theorem d_Law_law_210 : decode code 210 = .ok (.iload_n 3, 1) := by decide +kernel
theorem d_Law_law_211 : decode code 211 = .ok (.iconst 3, 1) := by decide +kernel
theorem d_Law_law_212 : decode code 212 = .ok (.iadd, 1) := by decide +kernel
theorem d_Law_law_213 : decode code 213 = .ok (.iaload, 1) := by decide +kernel
theorem d_Law_law_214 : decode code 214 = .ok (.invokevirtual 23, 3) := by decide +kernel
theorem d_Law_law_217 : decode code 217 = .ok (.if_icmp .eq 326, 3) := by decide +kernel
theorem d_Law_law_220 : decode code 220 = .ok (.iconst 0, 1) := by decide +kernel
theorem d_Law_law_221 : decode code 221 = .ok (.ireturn, 1) := by decide +kernel
theorem d_Law_law_222 : decode code 222 = .ok (.aload_n 1, 1) := by decide +kernel
theorem d_Law_law_223 : decode code 223 = .ok (.aload_n 0, 1) := by decide +kernel
theorem d_Law_law_224 : decode code 224 = .ok (.iload_n 3, 1) := by decide +kernel
theorem d_Law_law_225 : decode code 225 = .ok (.iconst 1, 1) := by decide +kernel
theorem d_Law_law_226 : decode code 226 = .ok (.iadd, 1) := by decide +kernel
theorem d_Law_law_227 : decode code 227 = .ok (.iaload, 1) := by decide +kernel
theorem d_Law_law_228 : decode code 228 = .ok (.i2l, 1) := by decide +kernel
theorem d_Law_law_229 : decode code 229 = .ok (.bipush 32, 2) := by decide +kernel
theorem d_Law_law_231 : decode code 231 = .ok (.lshl, 1) := by decide +kernel
theorem d_Law_law_232 : decode code 232 = .ok (.aload_n 0, 1) := by decide +kernel
theorem d_Law_law_233 : decode code 233 = .ok (.iload_n 3, 1) := by decide +kernel
theorem d_Law_law_234 : decode code 234 = .ok (.iconst 2, 1) := by decide +kernel
theorem d_Law_law_235 : decode code 235 = .ok (.iadd, 1) := by decide +kernel
theorem d_Law_law_236 : decode code 236 = .ok (.iaload, 1) := by decide +kernel
theorem d_Law_law_237 : decode code 237 = .ok (.i2l, 1) := by decide +kernel
theorem d_Law_law_238 : decode code 238 = .ok (.ldc2_w 13, 3) := by decide +kernel
theorem d_Law_law_241 : decode code 241 = .ok (.land, 1) := by decide +kernel
theorem d_Law_law_242 : decode code 242 = .ok (.lor, 1) := by decide +kernel
theorem d_Law_law_243 : decode code 243 = .ok (.invokevirtual 24, 3) := by decide +kernel
theorem d_Law_law_246 : decode code 246 = .ok (.aload_n 2, 1) := by decide +kernel
theorem d_Law_law_247 : decode code 247 = .ok (.aload_n 0, 1) := by decide +kernel
theorem d_Law_law_248 : decode code 248 = .ok (.iload_n 3, 1) := by decide +kernel
theorem d_Law_law_249 : decode code 249 = .ok (.iconst 1, 1) := by decide +kernel
theorem d_Law_law_250 : decode code 250 = .ok (.iadd, 1) := by decide +kernel
theorem d_Law_law_251 : decode code 251 = .ok (.iaload, 1) := by decide +kernel
theorem d_Law_law_252 : decode code 252 = .ok (.i2l, 1) := by decide +kernel
theorem d_Law_law_253 : decode code 253 = .ok (.bipush 32, 2) := by decide +kernel
theorem d_Law_law_255 : decode code 255 = .ok (.lshl, 1) := by decide +kernel
theorem d_Law_law_256 : decode code 256 = .ok (.aload_n 0, 1) := by decide +kernel
theorem d_Law_law_257 : decode code 257 = .ok (.iload_n 3, 1) := by decide +kernel
theorem d_Law_law_258 : decode code 258 = .ok (.iconst 2, 1) := by decide +kernel
theorem d_Law_law_259 : decode code 259 = .ok (.iadd, 1) := by decide +kernel
theorem d_Law_law_260 : decode code 260 = .ok (.iaload, 1) := by decide +kernel
theorem d_Law_law_261 : decode code 261 = .ok (.i2l, 1) := by decide +kernel
theorem d_Law_law_262 : decode code 262 = .ok (.ldc2_w 13, 3) := by decide +kernel
theorem d_Law_law_265 : decode code 265 = .ok (.land, 1) := by decide +kernel
theorem d_Law_law_266 : decode code 266 = .ok (.lor, 1) := by decide +kernel
theorem d_Law_law_267 : decode code 267 = .ok (.invokevirtual 28, 3) := by decide +kernel
theorem d_Law_law_270 : decode code 270 = .ok (.if_icmp .eq 273, 3) := by decide +kernel
theorem d_Law_law_273 : decode code 273 = .ok (.iconst 0, 1) := by decide +kernel
theorem d_Law_law_274 : decode code 274 = .ok (.ireturn, 1) := by decide +kernel
theorem d_Law_law_275 : decode code 275 = .ok (.aload_n 1, 1) := by decide +kernel
theorem d_Law_law_276 : decode code 276 = .ok (.aload_n 0, 1) := by decide +kernel
theorem d_Law_law_277 : decode code 277 = .ok (.iload_n 3, 1) := by decide +kernel
theorem d_Law_law_278 : decode code 278 = .ok (.iconst 1, 1) := by decide +kernel
theorem d_Law_law_279 : decode code 279 = .ok (.iadd, 1) := by decide +kernel
theorem d_Law_law_280 : decode code 280 = .ok (.iaload, 1) := by decide +kernel
theorem d_Law_law_281 : decode code 281 = .ok (.ifCond .eq 7, 3) := by decide +kernel
theorem d_Law_law_284 : decode code 284 = .ok (.iconst 1, 1) := by decide +kernel
theorem d_Law_law_285 : decode code 285 = .ok (.goto 4, 3) := by decide +kernel
theorem d_Law_law_288 : decode code 288 = .ok (.iconst 0, 1) := by decide +kernel
theorem d_Law_law_289 : decode code 289 = .ok (.invokevirtual 29, 3) := by decide +kernel
theorem d_Law_law_292 : decode code 292 = .ok (.aload_n 2, 1) := by decide +kernel
theorem d_Law_law_293 : decode code 293 = .ok (.aload_n 0, 1) := by decide +kernel
theorem d_Law_law_294 : decode code 294 = .ok (.iload_n 3, 1) := by decide +kernel
theorem d_Law_law_295 : decode code 295 = .ok (.iconst 1, 1) := by decide +kernel
theorem d_Law_law_296 : decode code 296 = .ok (.iadd, 1) := by decide +kernel
theorem d_Law_law_297 : decode code 297 = .ok (.iaload, 1) := by decide +kernel
theorem d_Law_law_298 : decode code 298 = .ok (.ifCond .eq 7, 3) := by decide +kernel
theorem d_Law_law_301 : decode code 301 = .ok (.iconst 1, 1) := by decide +kernel
theorem d_Law_law_302 : decode code 302 = .ok (.goto 4, 3) := by decide +kernel
theorem d_Law_law_305 : decode code 305 = .ok (.iconst 0, 1) := by decide +kernel
theorem d_Law_law_306 : decode code 306 = .ok (.invokevirtual 33, 3) := by decide +kernel
theorem d_Law_law_309 : decode code 309 = .ok (.if_icmp .eq 234, 3) := by decide +kernel
theorem d_Law_law_312 : decode code 312 = .ok (.iconst 0, 1) := by decide +kernel
theorem d_Law_law_313 : decode code 313 = .ok (.ireturn, 1) := by decide +kernel
theorem d_Law_law_314 : decode code 314 = .ok (.aload_n 1, 1) := by decide +kernel
theorem d_Law_law_315 : decode code 315 = .ok (.invokevirtual 34, 3) := by decide +kernel
theorem d_Law_law_318 : decode code 318 = .ok (.aload_n 2, 1) := by decide +kernel
theorem d_Law_law_319 : decode code 319 = .ok (.invokevirtual 38, 3) := by decide +kernel
theorem d_Law_law_322 : decode code 322 = .ok (.if_icmp .eq 221, 3) := by decide +kernel
theorem d_Law_law_325 : decode code 325 = .ok (.iconst 0, 1) := by decide +kernel
theorem d_Law_law_326 : decode code 326 = .ok (.ireturn, 1) := by decide +kernel
theorem d_Law_law_327 : decode code 327 = .ok (.aload_n 1, 1) := by decide +kernel
theorem d_Law_law_328 : decode code 328 = .ok (.aload_n 0, 1) := by decide +kernel
theorem d_Law_law_329 : decode code 329 = .ok (.iload_n 3, 1) := by decide +kernel
theorem d_Law_law_330 : decode code 330 = .ok (.iconst 1, 1) := by decide +kernel
theorem d_Law_law_331 : decode code 331 = .ok (.iadd, 1) := by decide +kernel
theorem d_Law_law_332 : decode code 332 = .ok (.iaload, 1) := by decide +kernel
theorem d_Law_law_333 : decode code 333 = .ok (.invokevirtual 39, 3) := by decide +kernel
theorem d_Law_law_336 : decode code 336 = .ok (.aload_n 2, 1) := by decide +kernel
theorem d_Law_law_337 : decode code 337 = .ok (.aload_n 0, 1) := by decide +kernel
theorem d_Law_law_338 : decode code 338 = .ok (.iload_n 3, 1) := by decide +kernel
theorem d_Law_law_339 : decode code 339 = .ok (.iconst 1, 1) := by decide +kernel
theorem d_Law_law_340 : decode code 340 = .ok (.iadd, 1) := by decide +kernel
theorem d_Law_law_341 : decode code 341 = .ok (.iaload, 1) := by decide +kernel
theorem d_Law_law_342 : decode code 342 = .ok (.invokevirtual 43, 3) := by decide +kernel
theorem d_Law_law_345 : decode code 345 = .ok (.if_icmp .eq 198, 3) := by decide +kernel
theorem d_Law_law_348 : decode code 348 = .ok (.iconst 0, 1) := by decide +kernel
theorem d_Law_law_349 : decode code 349 = .ok (.ireturn, 1) := by decide +kernel
theorem d_Law_law_350 : decode code 350 = .ok (.aload_n 1, 1) := by decide +kernel
theorem d_Law_law_351 : decode code 351 = .ok (.aload_n 0, 1) := by decide +kernel
theorem d_Law_law_352 : decode code 352 = .ok (.iload_n 3, 1) := by decide +kernel
theorem d_Law_law_353 : decode code 353 = .ok (.iconst 1, 1) := by decide +kernel
theorem d_Law_law_354 : decode code 354 = .ok (.iadd, 1) := by decide +kernel
theorem d_Law_law_355 : decode code 355 = .ok (.iaload, 1) := by decide +kernel
theorem d_Law_law_356 : decode code 356 = .ok (.invokevirtual 44, 3) := by decide +kernel
theorem d_Law_law_359 : decode code 359 = .ok (.aload_n 2, 1) := by decide +kernel
theorem d_Law_law_360 : decode code 360 = .ok (.aload_n 0, 1) := by decide +kernel
theorem d_Law_law_361 : decode code 361 = .ok (.iload_n 3, 1) := by decide +kernel
theorem d_Law_law_362 : decode code 362 = .ok (.iconst 1, 1) := by decide +kernel
theorem d_Law_law_363 : decode code 363 = .ok (.iadd, 1) := by decide +kernel
theorem d_Law_law_364 : decode code 364 = .ok (.iaload, 1) := by decide +kernel
theorem d_Law_law_365 : decode code 365 = .ok (.invokevirtual 48, 3) := by decide +kernel
theorem d_Law_law_368 : decode code 368 = .ok (.lcmp, 1) := by decide +kernel
theorem d_Law_law_369 : decode code 369 = .ok (.ifCond .eq 174, 3) := by decide +kernel
theorem d_Law_law_372 : decode code 372 = .ok (.iconst 0, 1) := by decide +kernel
theorem d_Law_law_373 : decode code 373 = .ok (.ireturn, 1) := by decide +kernel
theorem d_Law_law_374 : decode code 374 = .ok (.aload_n 1, 1) := by decide +kernel
theorem d_Law_law_375 : decode code 375 = .ok (.aload_n 0, 1) := by decide +kernel
theorem d_Law_law_376 : decode code 376 = .ok (.iload_n 3, 1) := by decide +kernel
theorem d_Law_law_377 : decode code 377 = .ok (.iconst 1, 1) := by decide +kernel
theorem d_Law_law_378 : decode code 378 = .ok (.iadd, 1) := by decide +kernel
theorem d_Law_law_379 : decode code 379 = .ok (.iaload, 1) := by decide +kernel
theorem d_Law_law_380 : decode code 380 = .ok (.aload_n 0, 1) := by decide +kernel
theorem d_Law_law_381 : decode code 381 = .ok (.iload_n 3, 1) := by decide +kernel
theorem d_Law_law_382 : decode code 382 = .ok (.iconst 2, 1) := by decide +kernel
theorem d_Law_law_383 : decode code 383 = .ok (.iadd, 1) := by decide +kernel
theorem d_Law_law_384 : decode code 384 = .ok (.iaload, 1) := by decide +kernel
theorem d_Law_law_385 : decode code 385 = .ok (.invokevirtual 49, 3) := by decide +kernel
theorem d_Law_law_388 : decode code 388 = .ok (.aload_n 2, 1) := by decide +kernel
theorem d_Law_law_389 : decode code 389 = .ok (.aload_n 0, 1) := by decide +kernel
theorem d_Law_law_390 : decode code 390 = .ok (.iload_n 3, 1) := by decide +kernel
theorem d_Law_law_391 : decode code 391 = .ok (.iconst 1, 1) := by decide +kernel
theorem d_Law_law_392 : decode code 392 = .ok (.iadd, 1) := by decide +kernel
theorem d_Law_law_393 : decode code 393 = .ok (.iaload, 1) := by decide +kernel
theorem d_Law_law_394 : decode code 394 = .ok (.aload_n 0, 1) := by decide +kernel
theorem d_Law_law_395 : decode code 395 = .ok (.iload_n 3, 1) := by decide +kernel
theorem d_Law_law_396 : decode code 396 = .ok (.iconst 2, 1) := by decide +kernel
theorem d_Law_law_397 : decode code 397 = .ok (.iadd, 1) := by decide +kernel
theorem d_Law_law_398 : decode code 398 = .ok (.iaload, 1) := by decide +kernel
theorem d_Law_law_399 : decode code 399 = .ok (.invokevirtual 53, 3) := by decide +kernel
theorem d_Law_law_402 : decode code 402 = .ok (.lcmp, 1) := by decide +kernel
theorem d_Law_law_403 : decode code 403 = .ok (.ifCond .eq 140, 3) := by decide +kernel
theorem d_Law_law_406 : decode code 406 = .ok (.iconst 0, 1) := by decide +kernel
theorem d_Law_law_407 : decode code 407 = .ok (.ireturn, 1) := by decide +kernel
theorem d_Law_law_408 : decode code 408 = .ok (.aload_n 1, 1) := by decide +kernel
theorem d_Law_law_409 : decode code 409 = .ok (.aload_n 0, 1) := by decide +kernel
theorem d_Law_law_410 : decode code 410 = .ok (.iload_n 3, 1) := by decide +kernel
theorem d_Law_law_411 : decode code 411 = .ok (.iconst 1, 1) := by decide +kernel
theorem d_Law_law_412 : decode code 412 = .ok (.iadd, 1) := by decide +kernel
theorem d_Law_law_413 : decode code 413 = .ok (.iaload, 1) := by decide +kernel
theorem d_Law_law_414 : decode code 414 = .ok (.aload_n 0, 1) := by decide +kernel
theorem d_Law_law_415 : decode code 415 = .ok (.iload_n 3, 1) := by decide +kernel
theorem d_Law_law_416 : decode code 416 = .ok (.iconst 2, 1) := by decide +kernel
theorem d_Law_law_417 : decode code 417 = .ok (.iadd, 1) := by decide +kernel
theorem d_Law_law_418 : decode code 418 = .ok (.iaload, 1) := by decide +kernel
theorem d_Law_law_419 : decode code 419 = .ok (.aload_n 0, 1) := by decide +kernel
theorem d_Law_law_420 : decode code 420 = .ok (.iload_n 3, 1) := by decide +kernel
theorem d_Law_law_421 : decode code 421 = .ok (.iconst 3, 1) := by decide +kernel
theorem d_Law_law_422 : decode code 422 = .ok (.iadd, 1) := by decide +kernel
theorem d_Law_law_423 : decode code 423 = .ok (.iaload, 1) := by decide +kernel
theorem d_Law_law_424 : decode code 424 = .ok (.invokevirtual 54, 3) := by decide +kernel
theorem d_Law_law_427 : decode code 427 = .ok (.aload_n 2, 1) := by decide +kernel
theorem d_Law_law_428 : decode code 428 = .ok (.aload_n 0, 1) := by decide +kernel
theorem d_Law_law_429 : decode code 429 = .ok (.iload_n 3, 1) := by decide +kernel
theorem d_Law_law_430 : decode code 430 = .ok (.iconst 1, 1) := by decide +kernel
theorem d_Law_law_431 : decode code 431 = .ok (.iadd, 1) := by decide +kernel
theorem d_Law_law_432 : decode code 432 = .ok (.iaload, 1) := by decide +kernel
theorem d_Law_law_433 : decode code 433 = .ok (.aload_n 0, 1) := by decide +kernel
theorem d_Law_law_434 : decode code 434 = .ok (.iload_n 3, 1) := by decide +kernel
theorem d_Law_law_435 : decode code 435 = .ok (.iconst 2, 1) := by decide +kernel
theorem d_Law_law_436 : decode code 436 = .ok (.iadd, 1) := by decide +kernel
theorem d_Law_law_437 : decode code 437 = .ok (.iaload, 1) := by decide +kernel
theorem d_Law_law_438 : decode code 438 = .ok (.aload_n 0, 1) := by decide +kernel
theorem d_Law_law_439 : decode code 439 = .ok (.iload_n 3, 1) := by decide +kernel
theorem d_Law_law_440 : decode code 440 = .ok (.iconst 3, 1) := by decide +kernel
theorem d_Law_law_441 : decode code 441 = .ok (.iadd, 1) := by decide +kernel
theorem d_Law_law_442 : decode code 442 = .ok (.iaload, 1) := by decide +kernel
theorem d_Law_law_443 : decode code 443 = .ok (.invokevirtual 58, 3) := by decide +kernel
theorem d_Law_law_446 : decode code 446 = .ok (.lcmp, 1) := by decide +kernel
theorem d_Law_law_447 : decode code 447 = .ok (.ifCond .eq 96, 3) := by decide +kernel
theorem d_Law_law_450 : decode code 450 = .ok (.iconst 0, 1) := by decide +kernel
theorem d_Law_law_451 : decode code 451 = .ok (.ireturn, 1) := by decide +kernel
theorem d_Law_law_452 : decode code 452 = .ok (.aload_n 1, 1) := by decide +kernel
theorem d_Law_law_453 : decode code 453 = .ok (.aload_n 0, 1) := by decide +kernel
theorem d_Law_law_454 : decode code 454 = .ok (.iload_n 3, 1) := by decide +kernel
theorem d_Law_law_455 : decode code 455 = .ok (.iconst 1, 1) := by decide +kernel
theorem d_Law_law_456 : decode code 456 = .ok (.iadd, 1) := by decide +kernel
theorem d_Law_law_457 : decode code 457 = .ok (.iaload, 1) := by decide +kernel
theorem d_Law_law_458 : decode code 458 = .ok (.aload_n 0, 1) := by decide +kernel
theorem d_Law_law_459 : decode code 459 = .ok (.iload_n 3, 1) := by decide +kernel
theorem d_Law_law_460 : decode code 460 = .ok (.iconst 2, 1) := by decide +kernel
theorem d_Law_law_461 : decode code 461 = .ok (.iadd, 1) := by decide +kernel
theorem d_Law_law_462 : decode code 462 = .ok (.iaload, 1) := by decide +kernel
theorem d_Law_law_463 : decode code 463 = .ok (.aload_n 0, 1) := by decide +kernel
theorem d_Law_law_464 : decode code 464 = .ok (.iload_n 3, 1) := by decide +kernel
theorem d_Law_law_465 : decode code 465 = .ok (.iconst 3, 1) := by decide +kernel
theorem d_Law_law_466 : decode code 466 = .ok (.iadd, 1) := by decide +kernel
theorem d_Law_law_467 : decode code 467 = .ok (.iaload, 1) := by decide +kernel
theorem d_Law_law_468 : decode code 468 = .ok (.invokevirtual 59, 3) := by decide +kernel
theorem d_Law_law_471 : decode code 471 = .ok (.aload_n 2, 1) := by decide +kernel
theorem d_Law_law_472 : decode code 472 = .ok (.aload_n 0, 1) := by decide +kernel
theorem d_Law_law_473 : decode code 473 = .ok (.iload_n 3, 1) := by decide +kernel
theorem d_Law_law_474 : decode code 474 = .ok (.iconst 1, 1) := by decide +kernel
theorem d_Law_law_475 : decode code 475 = .ok (.iadd, 1) := by decide +kernel
theorem d_Law_law_476 : decode code 476 = .ok (.iaload, 1) := by decide +kernel
theorem d_Law_law_477 : decode code 477 = .ok (.aload_n 0, 1) := by decide +kernel
theorem d_Law_law_478 : decode code 478 = .ok (.iload_n 3, 1) := by decide +kernel
theorem d_Law_law_479 : decode code 479 = .ok (.iconst 2, 1) := by decide +kernel
theorem d_Law_law_480 : decode code 480 = .ok (.iadd, 1) := by decide +kernel
theorem d_Law_law_481 : decode code 481 = .ok (.iaload, 1) := by decide +kernel
theorem d_Law_law_482 : decode code 482 = .ok (.aload_n 0, 1) := by decide +kernel
theorem d_Law_law_483 : decode code 483 = .ok (.iload_n 3, 1) := by decide +kernel
theorem d_Law_law_484 : decode code 484 = .ok (.iconst 3, 1) := by decide +kernel
theorem d_Law_law_485 : decode code 485 = .ok (.iadd, 1) := by decide +kernel
theorem d_Law_law_486 : decode code 486 = .ok (.iaload, 1) := by decide +kernel
theorem d_Law_law_487 : decode code 487 = .ok (.invokevirtual 62, 3) := by decide +kernel
theorem d_Law_law_490 : decode code 490 = .ok (.lcmp, 1) := by decide +kernel
theorem d_Law_law_491 : decode code 491 = .ok (.ifCond .eq 52, 3) := by decide +kernel
theorem d_Law_law_494 : decode code 494 = .ok (.iconst 0, 1) := by decide +kernel
theorem d_Law_law_495 : decode code 495 = .ok (.ireturn, 1) := by decide +kernel
theorem d_Law_law_496 : decode code 496 = .ok (.aload_n 1, 1) := by decide +kernel
theorem d_Law_law_497 : decode code 497 = .ok (.aload_n 0, 1) := by decide +kernel
theorem d_Law_law_498 : decode code 498 = .ok (.iload_n 3, 1) := by decide +kernel
theorem d_Law_law_499 : decode code 499 = .ok (.iconst 1, 1) := by decide +kernel
theorem d_Law_law_500 : decode code 500 = .ok (.iadd, 1) := by decide +kernel
theorem d_Law_law_501 : decode code 501 = .ok (.iaload, 1) := by decide +kernel
theorem d_Law_law_502 : decode code 502 = .ok (.aload_n 0, 1) := by decide +kernel
theorem d_Law_law_503 : decode code 503 = .ok (.iload_n 3, 1) := by decide +kernel
theorem d_Law_law_504 : decode code 504 = .ok (.iconst 2, 1) := by decide +kernel
theorem d_Law_law_505 : decode code 505 = .ok (.iadd, 1) := by decide +kernel
theorem d_Law_law_506 : decode code 506 = .ok (.iaload, 1) := by decide +kernel
theorem d_Law_law_507 : decode code 507 = .ok (.invokevirtual 63, 3) := by decide +kernel
theorem d_Law_law_510 : decode code 510 = .ok (.aload_n 2, 1) := by decide +kernel
theorem d_Law_law_511 : decode code 511 = .ok (.aload_n 0, 1) := by decide +kernel
theorem d_Law_law_512 : decode code 512 = .ok (.iload_n 3, 1) := by decide +kernel
theorem d_Law_law_513 : decode code 513 = .ok (.iconst 1, 1) := by decide +kernel
theorem d_Law_law_514 : decode code 514 = .ok (.iadd, 1) := by decide +kernel
theorem d_Law_law_515 : decode code 515 = .ok (.iaload, 1) := by decide +kernel
theorem d_Law_law_516 : decode code 516 = .ok (.aload_n 0, 1) := by decide +kernel
theorem d_Law_law_517 : decode code 517 = .ok (.iload_n 3, 1) := by decide +kernel
theorem d_Law_law_518 : decode code 518 = .ok (.iconst 2, 1) := by decide +kernel
theorem d_Law_law_519 : decode code 519 = .ok (.iadd, 1) := by decide +kernel
theorem d_Law_law_520 : decode code 520 = .ok (.iaload, 1) := by decide +kernel
theorem d_Law_law_521 : decode code 521 = .ok (.invokevirtual 66, 3) := by decide +kernel
theorem d_Law_law_524 : decode code 524 = .ok (.lcmp, 1) := by decide +kernel
theorem d_Law_law_525 : decode code 525 = .ok (.ifCond .eq 18, 3) := by decide +kernel
theorem d_Law_law_528 : decode code 528 = .ok (.iconst 0, 1) := by decide +kernel
theorem d_Law_law_529 : decode code 529 = .ok (.ireturn, 1) := by decide +kernel
theorem d_Law_law_530 : decode code 530 = .ok (.aload_n 1, 1) := by decide +kernel
theorem d_Law_law_531 : decode code 531 = .ok (.invokevirtual 67, 3) := by decide +kernel
theorem d_Law_law_534 : decode code 534 = .ok (.aload_n 2, 1) := by decide +kernel
theorem d_Law_law_535 : decode code 535 = .ok (.invokevirtual 71, 3) := by decide +kernel
theorem d_Law_law_538 : decode code 538 = .ok (.if_icmp .eq 5, 3) := by decide +kernel
theorem d_Law_law_541 : decode code 541 = .ok (.iconst 0, 1) := by decide +kernel
theorem d_Law_law_542 : decode code 542 = .ok (.ireturn, 1) := by decide +kernel
theorem d_Law_law_543 : decode code 543 = .ok (.iinc 3 4, 3) := by decide +kernel
theorem d_Law_law_546 : decode code 546 = .ok (.goto (-528), 3) := by decide +kernel
theorem d_Law_law_549 : decode code 549 = .ok (.iconst 1, 1) := by decide +kernel
theorem d_Law_law_550 : decode code 550 = .ok (.ireturn, 1) := by decide +kernel
