theorem d_L_law_0 : decode code 0 = .ok (.new 7, 3) := by decide +kernel
theorem d_L_law_3 : decode code 3 = .ok (.dup, 1) := by decide +kernel
theorem d_L_law_4 : decode code 4 = .ok (.invokespecial 9, 3) := by decide +kernel
theorem d_L_law_7 : decode code 7 = .ok (.astore_n 1, 1) := by decide +kernel
theorem d_L_law_8 : decode code 8 = .ok (.new 10, 3) := by decide +kernel
theorem d_L_law_11 : decode code 11 = .ok (.dup, 1) := by decide +kernel
theorem d_L_law_12 : decode code 12 = .ok (.invokespecial 12, 3) := by decide +kernel
theorem d_L_law_15 : decode code 15 = .ok (.astore_n 2, 1) := by decide +kernel
theorem d_L_law_16 : decode code 16 = .ok (.iconst 0, 1) := by decide +kernel
theorem d_L_law_17 : decode code 17 = .ok (.istore_n 3, 1) := by decide +kernel
theorem d_L_law_18 : decode code 18 = .ok (.iload_n 3, 1) := by decide +kernel
theorem d_L_law_19 : decode code 19 = .ok (.aload_n 0, 1) := by decide +kernel
theorem d_L_law_20 : decode code 20 = .ok (.arraylength, 1) := by decide +kernel
theorem d_L_law_21 : decode code 21 = .ok (.bipush 6, 2) := by decide +kernel
theorem d_L_law_23 : decode code 23 = .ok (.isub, 1) := by decide +kernel
theorem d_L_law_24 : decode code 24 = .ok (.if_icmp .gt 673, 3) := by decide +kernel
theorem d_L_law_27 : decode code 27 = .ok (.aload_n 0, 1) := by decide +kernel
theorem d_L_law_28 : decode code 28 = .ok (.iload_n 3, 1) := by decide +kernel
theorem d_L_law_29 : decode code 29 = .ok (.iaload, 1) := by decide +kernel
theorem d_L_law_30 : decode code 30 = .ok (.bipush 15, 2) := by decide +kernel
theorem d_L_law_32 : decode code 32 = .ok (.iand, 1) := by decide +kernel
theorem d_L_law_108 : decode code 108 = .ok (.aload_n 1, 1) := by decide +kernel
theorem d_L_law_109 : decode code 109 = .ok (.aload_n 0, 1) := by decide +kernel
theorem d_L_law_110 : decode code 110 = .ok (.iload_n 3, 1) := by decide +kernel
theorem d_L_law_111 : decode code 111 = .ok (.iconst 1, 1) := by decide +kernel
theorem d_L_law_112 : decode code 112 = .ok (.iadd, 1) := by decide +kernel
theorem d_L_law_113 : decode code 113 = .ok (.iaload, 1) := by decide +kernel
theorem d_L_law_114 : decode code 114 = .ok (.invokevirtual 13, 3) := by decide +kernel
theorem d_L_law_117 : decode code 117 = .ok (.aload_n 2, 1) := by decide +kernel
theorem d_L_law_118 : decode code 118 = .ok (.aload_n 0, 1) := by decide +kernel
theorem d_L_law_119 : decode code 119 = .ok (.iload_n 3, 1) := by decide +kernel
theorem d_L_law_120 : decode code 120 = .ok (.iconst 1, 1) := by decide +kernel
theorem d_L_law_121 : decode code 121 = .ok (.iadd, 1) := by decide +kernel
theorem d_L_law_122 : decode code 122 = .ok (.iaload, 1) := by decide +kernel
theorem d_L_law_123 : decode code 123 = .ok (.invokevirtual 17, 3) := by decide +kernel
theorem d_L_law_126 : decode code 126 = .ok (.goto 565, 3) := by decide +kernel
theorem d_L_law_129 : decode code 129 = .ok (.aload_n 1, 1) := by decide +kernel
theorem d_L_law_130 : decode code 130 = .ok (.aload_n 0, 1) := by decide +kernel
theorem d_L_law_131 : decode code 131 = .ok (.iload_n 3, 1) := by decide +kernel
theorem d_L_law_132 : decode code 132 = .ok (.iconst 1, 1) := by decide +kernel
theorem d_L_law_133 : decode code 133 = .ok (.iadd, 1) := by decide +kernel
theorem d_L_law_134 : decode code 134 = .ok (.iaload, 1) := by decide +kernel
theorem d_L_law_135 : decode code 135 = .ok (.invokevirtual 18, 3) := by decide +kernel
theorem d_L_law_138 : decode code 138 = .ok (.pop, 1) := by decide +kernel
theorem d_L_law_139 : decode code 139 = .ok (.aload_n 2, 1) := by decide +kernel
theorem d_L_law_140 : decode code 140 = .ok (.aload_n 0, 1) := by decide +kernel
theorem d_L_law_141 : decode code 141 = .ok (.iload_n 3, 1) := by decide +kernel
theorem d_L_law_142 : decode code 142 = .ok (.iconst 1, 1) := by decide +kernel
theorem d_L_law_143 : decode code 143 = .ok (.iadd, 1) := by decide +kernel
theorem d_L_law_144 : decode code 144 = .ok (.iaload, 1) := by decide +kernel
theorem d_L_law_145 : decode code 145 = .ok (.invokevirtual 22, 3) := by decide +kernel
theorem d_L_law_148 : decode code 148 = .ok (.pop, 1) := by decide +kernel
theorem d_L_law_149 : decode code 149 = .ok (.goto 542, 3) := by decide +kernel
theorem d_L_law_152 : decode code 152 = .ok (.aload_n 1, 1) := by decide +kernel
theorem d_L_law_153 : decode code 153 = .ok (.aload_n 0, 1) := by decide +kernel
theorem d_L_law_154 : decode code 154 = .ok (.iload_n 3, 1) := by decide +kernel
theorem d_L_law_155 : decode code 155 = .ok (.iconst 1, 1) := by decide +kernel
theorem d_L_law_156 : decode code 156 = .ok (.iadd, 1) := by decide +kernel
theorem d_L_law_157 : decode code 157 = .ok (.iaload, 1) := by decide +kernel
theorem d_L_law_158 : decode code 158 = .ok (.aload_n 0, 1) := by decide +kernel
theorem d_L_law_159 : decode code 159 = .ok (.iload_n 3, 1) := by decide +kernel
theorem d_L_law_160 : decode code 160 = .ok (.iconst 2, 1) := by decide +kernel
theorem d_L_law_161 : decode code 161 = .ok (.iadd, 1) := by decide +kernel
theorem d_L_law_162 : decode code 162 = .ok (.iaload, 1) := by decide +kernel
theorem d_L_law_163 : decode code 163 = .ok (.aload_n 0, 1) := by decide +kernel
theorem d_L_law_164 : decode code 164 = .ok (.iload_n 3, 1) := by decide +kernel
theorem d_L_law_165 : decode code 165 = .ok (.iconst 3, 1) := by decide +kernel
theorem d_L_law_166 : decode code 166 = .ok (.iadd, 1) := by decide +kernel
theorem d_L_law_167 : decode code 167 = .ok (.iaload, 1) := by decide +kernel
theorem d_L_law_168 : decode code 168 = .ok (.aload_n 0, 1) := by decide +kernel
theorem d_L_law_169 : decode code 169 = .ok (.iload_n 3, 1) := by decide +kernel
theorem d_L_law_170 : decode code 170 = .ok (.iconst 4, 1) := by decide +kernel
theorem d_L_law_171 : decode code 171 = .ok (.iadd, 1) := by decide +kernel
theorem d_L_law_172 : decode code 172 = .ok (.iaload, 1) := by decide +kernel
theorem d_L_law_173 : decode code 173 = .ok (.i2l, 1) := by decide +kernel
theorem d_L_law_174 : decode code 174 = .ok (.bipush 32, 2) := by decide +kernel
theorem d_L_law_176 : decode code 176 = .ok (.lshl, 1) := by decide +kernel
theorem d_L_law_177 : decode code 177 = .ok (.aload_n 0, 1) := by decide +kernel
theorem d_L_law_178 : decode code 178 = .ok (.iload_n 3, 1) := by decide +kernel
theorem d_L_law_179 : decode code 179 = .ok (.iconst 5, 1) := by decide +kernel
theorem d_L_law_180 : decode code 180 = .ok (.iadd, 1) := by decide +kernel
theorem d_L_law_181 : decode code 181 = .ok (.iaload, 1) := by decide +kernel
theorem d_L_law_182 : decode code 182 = .ok (.i2l, 1) := by decide +kernel
theorem d_L_law_183 : decode code 183 = .ok (.ldc2_w 23, 3) := by decide +kernel
theorem d_L_law_186 : decode code 186 = .ok (.land, 1) := by decide +kernel
theorem d_L_law_187 : decode code 187 = .ok (.lor, 1) := by decide +kernel
theorem d_L_law_188 : decode code 188 = .ok (.invokevirtual 25, 3) := by decide +kernel
theorem d_L_law_191 : decode code 191 = .ok (.pop, 1) := by decide +kernel
theorem d_L_law_192 : decode code 192 = .ok (.aload_n 2, 1) := by decide +kernel
theorem d_L_law_193 : decode code 193 = .ok (.aload_n 0, 1) := by decide +kernel
theorem d_L_law_194 : decode code 194 = .ok (.iload_n 3, 1) := by decide +kernel
theorem d_L_law_195 : decode code 195 = .ok (.iconst 1, 1) := by decide +kernel
theorem d_L_law_196 : decode code 196 = .ok (.iadd, 1) := by decide +kernel
theorem d_L_law_197 : decode code 197 = .ok (.iaload, 1) := by decide +kernel
theorem d_L_law_198 : decode code 198 = .ok (.aload_n 0, 1) := by decide +kernel
theorem d_L_law_199 : decode code 199 = .ok (.iload_n 3, 1) := by decide +kernel
theorem d_L_law_200 : decode code 200 = .ok (.iconst 2, 1) := by decide +kernel
theorem d_L_law_201 : decode code 201 = .ok (.iadd, 1) := by decide +kernel
theorem d_L_law_202 : decode code 202 = .ok (.iaload, 1) := by decide +kernel
theorem d_L_law_203 : decode code 203 = .ok (.aload_n 0, 1) := by decide +kernel
theorem d_L_law_204 : decode code 204 = .ok (.iload_n 3, 1) := by decide +kernel
theorem d_L_law_205 : decode code 205 = .ok (.iconst 3, 1) := by decide +kernel
theorem d_L_law_206 : decode code 206 = .ok (.iadd, 1) := by decide +kernel
theorem d_L_law_207 : decode code 207 = .ok (.iaload, 1) := by decide +kernel
theorem d_L_law_208 : decode code 208 = .ok (.aload_n 0, 1) := by decide +kernel
theorem d_L_law_209 : decode code 209 = .ok (.iload_n 3, 1) := by decide +kernel
theorem d_L_law_210 : decode code 210 = .ok (.iconst 4, 1) := by decide +kernel
theorem d_L_law_211 : decode code 211 = .ok (.iadd, 1) := by decide +kernel
theorem d_L_law_212 : decode code 212 = .ok (.iaload, 1) := by decide +kernel
theorem d_L_law_213 : decode code 213 = .ok (.i2l, 1) := by decide +kernel
theorem d_L_law_214 : decode code 214 = .ok (.bipush 32, 2) := by decide +kernel
theorem d_L_law_216 : decode code 216 = .ok (.lshl, 1) := by decide +kernel
theorem d_L_law_217 : decode code 217 = .ok (.aload_n 0, 1) := by decide +kernel
theorem d_L_law_218 : decode code 218 = .ok (.iload_n 3, 1) := by decide +kernel
theorem d_L_law_219 : decode code 219 = .ok (.iconst 5, 1) := by decide +kernel
theorem d_L_law_220 : decode code 220 = .ok (.iadd, 1) := by decide +kernel
theorem d_L_law_221 : decode code 221 = .ok (.iaload, 1) := by decide +kernel
theorem d_L_law_222 : decode code 222 = .ok (.i2l, 1) := by decide +kernel
theorem d_L_law_223 : decode code 223 = .ok (.ldc2_w 23, 3) := by decide +kernel
theorem d_L_law_226 : decode code 226 = .ok (.land, 1) := by decide +kernel
theorem d_L_law_227 : decode code 227 = .ok (.lor, 1) := by decide +kernel
theorem d_L_law_228 : decode code 228 = .ok (.invokevirtual 29, 3) := by decide +kernel
theorem d_L_law_231 : decode code 231 = .ok (.pop, 1) := by decide +kernel
theorem d_L_law_232 : decode code 232 = .ok (.goto 459, 3) := by decide +kernel
theorem d_L_law_235 : decode code 235 = .ok (.aload_n 1, 1) := by decide +kernel
theorem d_L_law_236 : decode code 236 = .ok (.aload_n 0, 1) := by decide +kernel
theorem d_L_law_237 : decode code 237 = .ok (.iload_n 3, 1) := by decide +kernel
theorem d_L_law_238 : decode code 238 = .ok (.iconst 1, 1) := by decide +kernel
theorem d_L_law_239 : decode code 239 = .ok (.iadd, 1) := by decide +kernel
theorem d_L_law_240 : decode code 240 = .ok (.iaload, 1) := by decide +kernel
theorem d_L_law_241 : decode code 241 = .ok (.invokevirtual 30, 3) := by decide +kernel
theorem d_L_law_244 : decode code 244 = .ok (.pop, 1) := by decide +kernel
theorem d_L_law_245 : decode code 245 = .ok (.aload_n 2, 1) := by decide +kernel
theorem d_L_law_246 : decode code 246 = .ok (.aload_n 0, 1) := by decide +kernel
theorem d_L_law_247 : decode code 247 = .ok (.iload_n 3, 1) := by decide +kernel
theorem d_L_law_248 : decode code 248 = .ok (.iconst 1, 1) := by decide +kernel
theorem d_L_law_249 : decode code 249 = .ok (.iadd, 1) := by decide +kernel
theorem d_L_law_250 : decode code 250 = .ok (.iaload, 1) := by decide +kernel
theorem d_L_law_251 : decode code 251 = .ok (.invokevirtual 33, 3) := by decide +kernel
theorem d_L_law_254 : decode code 254 = .ok (.pop, 1) := by decide +kernel
theorem d_L_law_255 : decode code 255 = .ok (.goto 436, 3) := by decide +kernel
theorem d_L_law_258 : decode code 258 = .ok (.aload_n 1, 1) := by decide +kernel
theorem d_L_law_259 : decode code 259 = .ok (.invokevirtual 34, 3) := by decide +kernel
theorem d_L_law_262 : decode code 262 = .ok (.pop, 1) := by decide +kernel
theorem d_L_law_263 : decode code 263 = .ok (.aload_n 2, 1) := by decide +kernel
theorem d_L_law_264 : decode code 264 = .ok (.invokevirtual 38, 3) := by decide +kernel
theorem d_L_law_267 : decode code 267 = .ok (.pop, 1) := by decide +kernel
theorem d_L_law_268 : decode code 268 = .ok (.goto 423, 3) := by decide +kernel
theorem d_L_law_271 : decode code 271 = .ok (.aload_n 1, 1) := by decide +kernel
theorem d_L_law_272 : decode code 272 = .ok (.aload_n 0, 1) := by decide +kernel
theorem d_L_law_273 : decode code 273 = .ok (.iload_n 3, 1) := by decide +kernel
theorem d_L_law_274 : decode code 274 = .ok (.iconst 1, 1) := by decide +kernel
theorem d_L_law_275 : decode code 275 = .ok (.iadd, 1) := by decide +kernel
theorem d_L_law_276 : decode code 276 = .ok (.iaload, 1) := by decide +kernel
theorem d_L_law_277 : decode code 277 = .ok (.aload_n 0, 1) := by decide +kernel
theorem d_L_law_278 : decode code 278 = .ok (.iload_n 3, 1) := by decide +kernel
theorem d_L_law_279 : decode code 279 = .ok (.iconst 2, 1) := by decide +kernel
theorem d_L_law_280 : decode code 280 = .ok (.iadd, 1) := by decide +kernel
theorem d_L_law_281 : decode code 281 = .ok (.iaload, 1) := by decide +kernel
theorem d_L_law_282 : decode code 282 = .ok (.invokevirtual 39, 3) := by decide +kernel
theorem d_L_law_285 : decode code 285 = .ok (.pop, 1) := by decide +kernel
theorem d_L_law_286 : decode code 286 = .ok (.aload_n 2, 1) := by decide +kernel
theorem d_L_law_287 : decode code 287 = .ok (.aload_n 0, 1) := by decide +kernel
theorem d_L_law_288 : decode code 288 = .ok (.iload_n 3, 1) := by decide +kernel
theorem d_L_law_289 : decode code 289 = .ok (.iconst 1, 1) := by decide +kernel
theorem d_L_law_290 : decode code 290 = .ok (.iadd, 1) := by decide +kernel
theorem d_L_law_291 : decode code 291 = .ok (.iaload, 1) := by decide +kernel
theorem d_L_law_292 : decode code 292 = .ok (.aload_n 0, 1) := by decide +kernel
theorem d_L_law_293 : decode code 293 = .ok (.iload_n 3, 1) := by decide +kernel
theorem d_L_law_294 : decode code 294 = .ok (.iconst 2, 1) := by decide +kernel
theorem d_L_law_295 : decode code 295 = .ok (.iadd, 1) := by decide +kernel
theorem d_L_law_296 : decode code 296 = .ok (.iaload, 1) := by decide +kernel
theorem d_L_law_297 : decode code 297 = .ok (.invokevirtual 43, 3) := by decide +kernel
theorem d_L_law_300 : decode code 300 = .ok (.pop, 1) := by decide +kernel
theorem d_L_law_301 : decode code 301 = .ok (.goto 390, 3) := by decide +kernel
theorem d_L_law_304 : decode code 304 = .ok (.aload_n 1, 1) := by decide +kernel
theorem d_L_law_305 : decode code 305 = .ok (.aload_n 0, 1) := by decide +kernel
theorem d_L_law_306 : decode code 306 = .ok (.iload_n 3, 1) := by decide +kernel
theorem d_L_law_307 : decode code 307 = .ok (.iconst 1, 1) := by decide +kernel
theorem d_L_law_308 : decode code 308 = .ok (.iadd, 1) := by decide +kernel
theorem d_L_law_309 : decode code 309 = .ok (.iaload, 1) := by decide +kernel
theorem d_L_law_310 : decode code 310 = .ok (.aload_n 0, 1) := by decide +kernel
theorem d_L_law_311 : decode code 311 = .ok (.iload_n 3, 1) := by decide +kernel
theorem d_L_law_312 : decode code 312 = .ok (.iconst 2, 1) := by decide +kernel
theorem d_L_law_313 : decode code 313 = .ok (.iadd, 1) := by decide +kernel
theorem d_L_law_314 : decode code 314 = .ok (.iaload, 1) := by decide +kernel
theorem d_L_law_315 : decode code 315 = .ok (.invokevirtual 44, 3) := by decide +kernel
theorem d_L_law_318 : decode code 318 = .ok (.aload_n 2, 1) := by decide +kernel
theorem d_L_law_319 : decode code 319 = .ok (.aload_n 0, 1) := by decide +kernel
theorem d_L_law_320 : decode code 320 = .ok (.iload_n 3, 1) := by decide +kernel
theorem d_L_law_321 : decode code 321 = .ok (.iconst 1, 1) := by decide +kernel
theorem d_L_law_322 : decode code 322 = .ok (.iadd, 1) := by decide +kernel
theorem d_L_law_323 : decode code 323 = .ok (.iaload, 1) := by decide +kernel
theorem d_L_law_324 : decode code 324 = .ok (.aload_n 0, 1) := by decide +kernel
theorem d_L_law_325 : decode code 325 = .ok (.iload_n 3, 1) := by decide +kernel
theorem d_L_law_326 : decode code 326 = .ok (.iconst 2, 1) := by decide +kernel
theorem d_L_law_327 : decode code 327 = .ok (.iadd, 1) := by decide +kernel
theorem d_L_law_328 : decode code 328 = .ok (.iaload, 1) := by decide +kernel
theorem d_L_law_329 : decode code 329 = .ok (.invokevirtual 47, 3) := by decide +kernel
theorem d_L_law_332 : decode code 332 = .ok (.if_icmp .eq 359, 3) := by decide +kernel
theorem d_L_law_335 : decode code 335 = .ok (.iconst 0, 1) := by decide +kernel
theorem d_L_law_336 : decode code 336 = .ok (.ireturn, 1) := by decide +kernel
theorem d_L_law_337 : decode code 337 = .ok (.aload_n 1, 1) := by decide +kernel
theorem d_L_law_338 : decode code 338 = .ok (.aload_n 0, 1) := by decide +kernel
theorem d_L_law_339 : decode code 339 = .ok (.iload_n 3, 1) := by decide +kernel
theorem d_L_law_340 : decode code 340 = .ok (.iconst 1, 1) := by decide +kernel
theorem d_L_law_341 : decode code 341 = .ok (.iadd, 1) := by decide +kernel
theorem d_L_law_342 : decode code 342 = .ok (.iaload, 1) := by decide +kernel
theorem d_L_law_343 : decode code 343 = .ok (.invokevirtual 48, 3) := by decide +kernel
theorem d_L_law_346 : decode code 346 = .ok (.pop, 1) := by decide +kernel
theorem d_L_law_347 : decode code 347 = .ok (.aload_n 2, 1) := by decide +kernel
theorem d_L_law_348 : decode code 348 = .ok (.aload_n 0, 1) := by decide +kernel
theorem d_L_law_349 : decode code 349 = .ok (.iload_n 3, 1) := by decide +kernel
theorem d_L_law_350 : decode code 350 = .ok (.iconst 1, 1) := by decide +kernel
theorem d_L_law_351 : decode code 351 = .ok (.iadd, 1) := by decide +kernel
theorem d_L_law_352 : decode code 352 = .ok (.iaload, 1) := by decide +kernel
theorem d_L_law_353 : decode code 353 = .ok (.invokevirtual 51, 3) := by decide +kernel
theorem d_L_law_356 : decode code 356 = .ok (.pop, 1) := by decide +kernel
theorem d_L_law_357 : decode code 357 = .ok (.goto 334, 3) := by decide +kernel
theorem d_L_law_360 : decode code 360 = .ok (.aload_n 1, 1) := by decide +kernel
theorem d_L_law_361 : decode code 361 = .ok (.aload_n 0, 1) := by decide +kernel
theorem d_L_law_362 : decode code 362 = .ok (.iload_n 3, 1) := by decide +kernel
theorem d_L_law_363 : decode code 363 = .ok (.iconst 1, 1) := by decide +kernel
theorem d_L_law_364 : decode code 364 = .ok (.iadd, 1) := by decide +kernel
theorem d_L_law_365 : decode code 365 = .ok (.iaload, 1) := by decide +kernel
theorem d_L_law_366 : decode code 366 = .ok (.aload_n 0, 1) := by decide +kernel
theorem d_L_law_367 : decode code 367 = .ok (.iload_n 3, 1) := by decide +kernel
theorem d_L_law_368 : decode code 368 = .ok (.iconst 2, 1) := by decide +kernel
theorem d_L_law_369 : decode code 369 = .ok (.iadd, 1) := by decide +kernel
theorem d_L_law_370 : decode code 370 = .ok (.iaload, 1) := by decide +kernel
theorem d_L_law_371 : decode code 371 = .ok (.i2l, 1) := by decide +kernel
theorem d_L_law_372 : decode code 372 = .ok (.bipush 32, 2) := by decide +kernel
theorem d_L_law_374 : decode code 374 = .ok (.lshl, 1) := by decide +kernel
theorem d_L_law_375 : decode code 375 = .ok (.aload_n 0, 1) := by decide +kernel
theorem d_L_law_376 : decode code 376 = .ok (.iload_n 3, 1) := by decide +kernel
theorem d_L_law_377 : decode code 377 = .ok (.iconst 3, 1) := by decide +kernel
theorem d_L_law_378 : decode code 378 = .ok (.iadd, 1) := by decide +kernel
theorem d_L_law_379 : decode code 379 = .ok (.iaload, 1) := by decide +kernel
theorem d_L_law_380 : decode code 380 = .ok (.i2l, 1) := by decide +kernel
theorem d_L_law_381 : decode code 381 = .ok (.ldc2_w 23, 3) := by decide +kernel
theorem d_L_law_384 : decode code 384 = .ok (.land, 1) := by decide +kernel
theorem d_L_law_385 : decode code 385 = .ok (.lor, 1) := by decide +kernel
theorem d_L_law_386 : decode code 386 = .ok (.invokevirtual 52, 3) := by decide +kernel
theorem d_L_law_389 : decode code 389 = .ok (.pop, 1) := by decide +kernel
theorem d_L_law_390 : decode code 390 = .ok (.aload_n 2, 1) := by decide +kernel
theorem d_L_law_391 : decode code 391 = .ok (.aload_n 0, 1) := by decide +kernel
theorem d_L_law_392 : decode code 392 = .ok (.iload_n 3, 1) := by decide +kernel
theorem d_L_law_393 : decode code 393 = .ok (.iconst 1, 1) := by decide +kernel
theorem d_L_law_394 : decode code 394 = .ok (.iadd, 1) := by decide +kernel
theorem d_L_law_395 : decode code 395 = .ok (.iaload, 1) := by decide +kernel
theorem d_L_law_396 : decode code 396 = .ok (.aload_n 0, 1) := by decide +kernel
theorem d_L_law_397 : decode code 397 = .ok (.iload_n 3, 1) := by decide +kernel
theorem d_L_law_398 : decode code 398 = .ok (.iconst 2, 1) := by decide +kernel
theorem d_L_law_399 : decode code 399 = .ok (.iadd, 1) := by decide +kernel
theorem d_L_law_400 : decode code 400 = .ok (.iaload, 1) := by decide +kernel
theorem d_L_law_401 : decode code 401 = .ok (.i2l, 1) := by decide +kernel
theorem d_L_law_402 : decode code 402 = .ok (.bipush 32, 2) := by decide +kernel
theorem d_L_law_404 : decode code 404 = .ok (.lshl, 1) := by decide +kernel
theorem d_L_law_405 : decode code 405 = .ok (.aload_n 0, 1) := by decide +kernel
theorem d_L_law_406 : decode code 406 = .ok (.iload_n 3, 1) := by decide +kernel
theorem d_L_law_407 : decode code 407 = .ok (.iconst 3, 1) := by decide +kernel
theorem d_L_law_408 : decode code 408 = .ok (.iadd, 1) := by decide +kernel
theorem d_L_law_409 : decode code 409 = .ok (.iaload, 1) := by decide +kernel
theorem d_L_law_410 : decode code 410 = .ok (.i2l, 1) := by decide +kernel
theorem d_L_law_411 : decode code 411 = .ok (.ldc2_w 23, 3) := by decide +kernel
theorem d_L_law_414 : decode code 414 = .ok (.land, 1) := by decide +kernel
theorem d_L_law_415 : decode code 415 = .ok (.lor, 1) := by decide +kernel
theorem d_L_law_416 : decode code 416 = .ok (.invokevirtual 56, 3) := by decide +kernel
theorem d_L_law_419 : decode code 419 = .ok (.pop, 1) := by decide +kernel
theorem d_L_law_420 : decode code 420 = .ok (.goto 271, 3) := by decide +kernel
theorem d_L_law_423 : decode code 423 = .ok (.aload_n 1, 1) := by decide +kernel
theorem d_L_law_424 : decode code 424 = .ok (.aload_n 0, 1) := by decide +kernel
theorem d_L_law_425 : decode code 425 = .ok (.iload_n 3, 1) := by decide +kernel
theorem d_L_law_426 : decode code 426 = .ok (.iconst 1, 1) := by decide +kernel
theorem d_L_law_427 : decode code 427 = .ok (.iadd, 1) := by decide +kernel
theorem d_L_law_428 : decode code 428 = .ok (.iaload, 1) := by decide +kernel
theorem d_L_law_429 : decode code 429 = .ok (.aload_n 0, 1) := by decide +kernel
theorem d_L_law_430 : decode code 430 = .ok (.iload_n 3, 1) := by decide +kernel
theorem d_L_law_431 : decode code 431 = .ok (.iconst 2, 1) := by decide +kernel
theorem d_L_law_432 : decode code 432 = .ok (.iadd, 1) := by decide +kernel
theorem d_L_law_433 : decode code 433 = .ok (.iaload, 1) := by decide +kernel
theorem d_L_law_434 : decode code 434 = .ok (.i2l, 1) := by decide +kernel
theorem d_L_law_435 : decode code 435 = .ok (.bipush 32, 2) := by decide +kernel
theorem d_L_law_437 : decode code 437 = .ok (.lshl, 1) := by decide +kernel
theorem d_L_law_438 : decode code 438 = .ok (.aload_n 0, 1) := by decide +kernel
theorem d_L_law_439 : decode code 439 = .ok (.iload_n 3, 1) := by decide +kernel
theorem d_L_law_440 : decode code 440 = .ok (.iconst 3, 1) := by decide +kernel
theorem d_L_law_441 : decode code 441 = .ok (.iadd, 1) := by decide +kernel
theorem d_L_law_442 : decode code 442 = .ok (.iaload, 1) := by decide +kernel
theorem d_L_law_443 : decode code 443 = .ok (.i2l, 1) := by decide +kernel
theorem d_L_law_444 : decode code 444 = .ok (.ldc2_w 23, 3) := by decide +kernel
theorem d_L_law_447 : decode code 447 = .ok (.land, 1) := by decide +kernel
theorem d_L_law_448 : decode code 448 = .ok (.lor, 1) := by decide +kernel
theorem d_L_law_449 : decode code 449 = .ok (.invokevirtual 57, 3) := by decide +kernel
theorem d_L_law_452 : decode code 452 = .ok (.pop, 1) := by decide +kernel
theorem d_L_law_453 : decode code 453 = .ok (.aload_n 2, 1) := by decide +kernel
theorem d_L_law_454 : decode code 454 = .ok (.aload_n 0, 1) := by decide +kernel
theorem d_L_law_455 : decode code 455 = .ok (.iload_n 3, 1) := by decide +kernel
theorem d_L_law_456 : decode code 456 = .ok (.iconst 1, 1) := by decide +kernel
theorem d_L_law_457 : decode code 457 = .ok (.iadd, 1) := by decide +kernel
theorem d_L_law_458 : decode code 458 = .ok (.iaload, 1) := by decide +kernel
theorem d_L_law_459 : decode code 459 = .ok (.aload_n 0, 1) := by decide +kernel
theorem d_L_law_460 : decode code 460 = .ok (.iload_n 3, 1) := by decide +kernel
theorem d_L_law_461 : decode code 461 = .ok (.iconst 2, 1) := by decide +kernel
theorem d_L_law_462 : decode code 462 = .ok (.iadd, 1) := by decide +kernel
theorem d_L_law_463 : decode code 463 = .ok (.iaload, 1) := by decide +kernel
theorem d_L_law_464 : decode code 464 = .ok (.i2l, 1) := by decide +kernel
theorem d_L_law_465 : decode code 465 = .ok (.bipush 32, 2) := by decide +kernel
theorem d_L_law_467 : decode code 467 = .ok (.lshl, 1) := by decide +kernel
theorem d_L_law_468 : decode code 468 = .ok (.aload_n 0, 1) := by decide +kernel
theorem d_L_law_469 : decode code 469 = .ok (.iload_n 3, 1) := by decide +kernel
theorem d_L_law_470 : decode code 470 = .ok (.iconst 3, 1) := by decide +kernel
theorem d_L_law_471 : decode code 471 = .ok (.iadd, 1) := by decide +kernel
theorem d_L_law_472 : decode code 472 = .ok (.iaload, 1) := by decide +kernel
theorem d_L_law_473 : decode code 473 = .ok (.i2l, 1) := by decide +kernel
theorem d_L_law_474 : decode code 474 = .ok (.ldc2_w 23, 3) := by decide +kernel
theorem d_L_law_477 : decode code 477 = .ok (.land, 1) := by decide +kernel
theorem d_L_law_478 : decode code 478 = .ok (.lor, 1) := by decide +kernel
theorem d_L_law_479 : decode code 479 = .ok (.invokevirtual 60, 3) := by decide +kernel
theorem d_L_law_482 : decode code 482 = .ok (.pop, 1) := by decide +kernel
theorem d_L_law_483 : decode code 483 = .ok (.goto 208, 3) := by decide +kernel
theorem d_L_law_486 : decode code 486 = .ok (.aload_n 1, 1) := by decide +kernel
theorem d_L_law_487 : decode code 487 = .ok (.aload_n 0, 1) := by decide +kernel
theorem d_L_law_488 : decode code 488 = .ok (.iload_n 3, 1) := by decide +kernel
theorem d_L_law_489 : decode code 489 = .ok (.iconst 1, 1) := by decide +kernel
theorem d_L_law_490 : decode code 490 = .ok (.iadd, 1) := by decide +kernel
theorem d_L_law_491 : decode code 491 = .ok (.iaload, 1) := by decide +kernel
theorem d_L_law_492 : decode code 492 = .ok (.aload_n 0, 1) := by decide +kernel
theorem d_L_law_493 : decode code 493 = .ok (.iload_n 3, 1) := by decide +kernel
theorem d_L_law_494 : decode code 494 = .ok (.iconst 2, 1) := by decide +kernel
theorem d_L_law_495 : decode code 495 = .ok (.iadd, 1) := by decide +kernel
theorem d_L_law_496 : decode code 496 = .ok (.iaload, 1) := by decide +kernel
theorem d_L_law_497 : decode code 497 = .ok (.i2l, 1) := by decide +kernel
theorem d_L_law_498 : decode code 498 = .ok (.bipush 32, 2) := by decide +kernel
theorem d_L_law_500 : decode code 500 = .ok (.lshl, 1) := by decide +kernel
theorem d_L_law_501 : decode code 501 = .ok (.aload_n 0, 1) := by decide +kernel
theorem d_L_law_502 : decode code 502 = .ok (.iload_n 3, 1) := by decide +kernel
theorem d_L_law_503 : decode code 503 = .ok (.iconst 3, 1) := by decide +kernel
theorem d_L_law_504 : decode code 504 = .ok (.iadd, 1) := by decide +kernel
theorem d_L_law_505 : decode code 505 = .ok (.iaload, 1) := by decide +kernel
theorem d_L_law_506 : decode code 506 = .ok (.i2l, 1) := by decide +kernel
theorem d_L_law_507 : decode code 507 = .ok (.ldc2_w 23, 3) := by decide +kernel
theorem d_L_law_510 : decode code 510 = .ok (.land, 1) := by decide +kernel
theorem d_L_law_511 : decode code 511 = .ok (.lor, 1) := by decide +kernel
theorem d_L_law_512 : decode code 512 = .ok (.invokevirtual 61, 3) := by decide +kernel
theorem d_L_law_515 : decode code 515 = .ok (.pop, 1) := by decide +kernel
theorem d_L_law_516 : decode code 516 = .ok (.aload_n 2, 1) := by decide +kernel
theorem d_L_law_517 : decode code 517 = .ok (.aload_n 0, 1) := by decide +kernel
theorem d_L_law_518 : decode code 518 = .ok (.iload_n 3, 1) := by decide +kernel
theorem d_L_law_519 : decode code 519 = .ok (.iconst 1, 1) := by decide +kernel
theorem d_L_law_520 : decode code 520 = .ok (.iadd, 1) := by decide +kernel
theorem d_L_law_521 : decode code 521 = .ok (.iaload, 1) := by decide +kernel
theorem d_L_law_522 : decode code 522 = .ok (.aload_n 0, 1) := by decide +kernel
theorem d_L_law_523 : decode code 523 = .ok (.iload_n 3, 1) := by decide +kernel
theorem d_L_law_524 : decode code 524 = .ok (.iconst 2, 1) := by decide +kernel
theorem d_L_law_525 : decode code 525 = .ok (.iadd, 1) := by decide +kernel
theorem d_L_law_526 : decode code 526 = .ok (.iaload, 1) := by decide +kernel
theorem d_L_law_527 : decode code 527 = .ok (.i2l, 1) := by decide +kernel
theorem d_L_law_528 : decode code 528 = .ok (.bipush 32, 2) := by decide +kernel
theorem d_L_law_530 : decode code 530 = .ok (.lshl, 1) := by decide +kernel
theorem d_L_law_531 : decode code 531 = .ok (.aload_n 0, 1) := by decide +kernel
theorem d_L_law_532 : decode code 532 = .ok (.iload_n 3, 1) := by decide +kernel
theorem d_L_law_533 : decode code 533 = .ok (.iconst 3, 1) := by decide +kernel
theorem d_L_law_534 : decode code 534 = .ok (.iadd, 1) := by decide +kernel
theorem d_L_law_535 : decode code 535 = .ok (.iaload, 1) := by decide +kernel
theorem d_L_law_536 : decode code 536 = .ok (.i2l, 1) := by decide +kernel
theorem d_L_law_537 : decode code 537 = .ok (.ldc2_w 23, 3) := by decide +kernel
theorem d_L_law_540 : decode code 540 = .ok (.land, 1) := by decide +kernel
theorem d_L_law_541 : decode code 541 = .ok (.lor, 1) := by decide +kernel
theorem d_L_law_542 : decode code 542 = .ok (.invokevirtual 64, 3) := by decide +kernel
theorem d_L_law_545 : decode code 545 = .ok (.pop, 1) := by decide +kernel
theorem d_L_law_546 : decode code 546 = .ok (.goto 145, 3) := by decide +kernel
theorem d_L_law_549 : decode code 549 = .ok (.aload_n 1, 1) := by decide +kernel
theorem d_L_law_550 : decode code 550 = .ok (.aload_n 0, 1) := by decide +kernel
theorem d_L_law_551 : decode code 551 = .ok (.iload_n 3, 1) := by decide +kernel
theorem d_L_law_552 : decode code 552 = .ok (.iconst 1, 1) := by decide +kernel
theorem d_L_law_553 : decode code 553 = .ok (.iadd, 1) := by decide +kernel
theorem d_L_law_554 : decode code 554 = .ok (.iaload, 1) := by decide +kernel
theorem d_L_law_555 : decode code 555 = .ok (.invokevirtual 65, 3) := by decide +kernel
theorem d_L_law_558 : decode code 558 = .ok (.pop, 1) := by decide +kernel
theorem d_L_law_559 : decode code 559 = .ok (.aload_n 2, 1) := by decide +kernel
theorem d_L_law_560 : decode code 560 = .ok (.aload_n 0, 1) := by decide +kernel
theorem d_L_law_561 : decode code 561 = .ok (.iload_n 3, 1) := by decide +kernel
theorem d_L_law_562 : decode code 562 = .ok (.iconst 1, 1) := by decide +kernel
theorem d_L_law_563 : decode code 563 = .ok (.iadd, 1) := by decide +kernel
theorem d_L_law_564 : decode code 564 = .ok (.iaload, 1) := by decide +kernel
theorem d_L_law_565 : decode code 565 = .ok (.invokevirtual 68, 3) := by decide +kernel
theorem d_L_law_568 : decode code 568 = .ok (.pop, 1) := by decide +kernel
theorem d_L_law_569 : decode code 569 = .ok (.goto 122, 3) := by decide +kernel
theorem d_L_law_572 : decode code 572 = .ok (.aload_n 1, 1) := by decide +kernel
theorem d_L_law_573 : decode code 573 = .ok (.aload_n 0, 1) := by decide +kernel
theorem d_L_law_574 : decode code 574 = .ok (.iload_n 3, 1) := by decide +kernel
theorem d_L_law_575 : decode code 575 = .ok (.iconst 1, 1) := by decide +kernel
theorem d_L_law_576 : decode code 576 = .ok (.iadd, 1) := by decide +kernel
theorem d_L_law_577 : decode code 577 = .ok (.iaload, 1) := by decide +kernel
theorem d_L_law_578 : decode code 578 = .ok (.aload_n 0, 1) := by decide +kernel
theorem d_L_law_579 : decode code 579 = .ok (.iload_n 3, 1) := by decide +kernel
theorem d_L_law_580 : decode code 580 = .ok (.iconst 2, 1) := by decide +kernel
theorem d_L_law_581 : decode code 581 = .ok (.iadd, 1) := by decide +kernel
theorem d_L_law_582 : decode code 582 = .ok (.iaload, 1) := by decide +kernel
theorem d_L_law_583 : decode code 583 = .ok (.i2l, 1) := by decide +kernel
theorem d_L_law_584 : decode code 584 = .ok (.bipush 32, 2) := by decide +kernel
theorem d_L_law_586 : decode code 586 = .ok (.lshl, 1) := by decide +kernel
theorem d_L_law_587 : decode code 587 = .ok (.aload_n 0, 1) := by decide +kernel
theorem d_L_law_588 : decode code 588 = .ok (.iload_n 3, 1) := by decide +kernel
theorem d_L_law_589 : decode code 589 = .ok (.iconst 3, 1) := by decide +kernel
theorem d_L_law_590 : decode code 590 = .ok (.iadd, 1) := by decide +kernel
theorem d_L_law_591 : decode code 591 = .ok (.iaload, 1) := by decide +kernel
theorem d_L_law_592 : decode code 592 = .ok (.i2l, 1) := by decide +kernel
theorem d_L_law_593 : decode code 593 = .ok (.ldc2_w 23, 3) := by decide +kernel
theorem d_L_law_596 : decode code 596 = .ok (.land, 1) := by decide +kernel
theorem d_L_law_597 : decode code 597 = .ok (.lor, 1) := by decide +kernel
theorem d_L_law_598 : decode code 598 = .ok (.invokevirtual 69, 3) := by decide +kernel
theorem d_L_law_601 : decode code 601 = .ok (.pop, 1) := by decide +kernel
theorem d_L_law_602 : decode code 602 = .ok (.aload_n 2, 1) := by decide +kernel
theorem d_L_law_603 : decode code 603 = .ok (.aload_n 0, 1) := by decide +kernel
theorem d_L_law_604 : decode code 604 = .ok (.iload_n 3, 1) := by decide +kernel
theorem d_L_law_605 : decode code 605 = .ok (.iconst 1, 1) := by decide +kernel
theorem d_L_law_606 : decode code 606 = .ok (.iadd, 1) := by decide +kernel
theorem d_L_law_607 : decode code 607 = .ok (.iaload, 1) := by decide +kernel
theorem d_L_law_608 : decode code 608 = .ok (.aload_n 0, 1) := by decide +kernel
theorem d_L_law_609 : decode code 609 = .ok (.iload_n 3, 1) := by decide +kernel
theorem d_L_law_610 : decode code 610 = .ok (.iconst 2, 1) := by decide +kernel
theorem d_L_law_611 : decode code 611 = .ok (.iadd, 1) := by decide +kernel
theorem d_L_law_612 : decode code 612 = .ok (.iaload, 1) := by decide +kernel
theorem d_L_law_613 : decode code 613 = .ok (.i2l, 1) := by decide +kernel
theorem d_L_law_614 : decode code 614 = .ok (.bipush 32, 2) := by decide +kernel
theorem d_L_law_616 : decode code 616 = .ok (.lshl, 1) := by decide +kernel
theorem d_L_law_617 : decode code 617 = .ok (.aload_n 0, 1) := by decide +kernel
theorem d_L_law_618 : decode code 618 = .ok (.iload_n 3, 1) := by decide +kernel
theorem d_L_law_619 : decode code 619 = .ok (.iconst 3, 1) := by decide +kernel
theorem d_L_law_620 : decode code 620 = .ok (.iadd, 1) := by decide +kernel
theorem d_L_law_621 : decode code 621 = .ok (.iaload, 1) := by decide +kernel
theorem d_L_law_622 : decode code 622 = .ok (.i2l, 1) := by decide +kernel
theorem d_L_law_623 : decode code 623 = .ok (.ldc2_w 23, 3) := by decide +kernel
theorem d_L_law_626 : decode code 626 = .ok (.land, 1) := by decide +kernel
theorem d_L_law_627 : decode code 627 = .ok (.lor, 1) := by decide +kernel
theorem d_L_law_628 : decode code 628 = .ok (.invokevirtual 72, 3) := by decide +kernel
theorem d_L_law_631 : decode code 631 = .ok (.pop, 1) := by decide +kernel
theorem d_L_law_632 : decode code 632 = .ok (.goto 59, 3) := by decide +kernel
theorem d_L_law_635 : decode code 635 = .ok (.aload_n 1, 1) := by decide +kernel
theorem d_L_law_636 : decode code 636 = .ok (.aload_n 0, 1) := by decide +kernel
theorem d_L_law_637 : decode code 637 = .ok (.iload_n 3, 1) := by decide +kernel
theorem d_L_law_638 : decode code 638 = .ok (.iconst 1, 1) := by decide +kernel
theorem d_L_law_639 : decode code 639 = .ok (.iadd, 1) := by decide +kernel
theorem d_L_law_640 : decode code 640 = .ok (.iaload, 1) := by decide +kernel
theorem d_L_law_641 : decode code 641 = .ok (.invokevirtual 73, 3) := by decide +kernel
theorem d_L_law_644 : decode code 644 = .ok (.pop, 1) := by decide +kernel
theorem d_L_law_645 : decode code 645 = .ok (.aload_n 2, 1) := by decide +kernel
theorem d_L_law_646 : decode code 646 = .ok (.aload_n 0, 1) := by decide +kernel
theorem d_L_law_647 : decode code 647 = .ok (.iload_n 3, 1) := by decide +kernel
theorem d_L_law_648 : decode code 648 = .ok (.iconst 1, 1) := by decide +kernel
theorem d_L_law_649 : decode code 649 = .ok (.iadd, 1) := by decide +kernel
theorem d_L_law_650 : decode code 650 = .ok (.iaload, 1) := by decide +kernel
theorem d_L_law_651 : decode code 651 = .ok (.invokevirtual 76, 3) := by decide +kernel
theorem d_L_law_654 : decode code 654 = .ok (.pop, 1) := by decide +kernel
theorem d_L_law_655 : decode code 655 = .ok (.goto 36, 3) := by decide +kernel
theorem d_L_law_658 : decode code 658 = .ok (.aload_n 1, 1) := by decide +kernel
theorem d_L_law_659 : decode code 659 = .ok (.aload_n 0, 1) := by decide +kernel
theorem d_L_law_660 : decode code 660 = .ok (.iload_n 3, 1) := by decide +kernel
theorem d_L_law_661 : decode code 661 = .ok (.iconst 1, 1) := by decide +kernel
theorem d_L_law_662 : decode code 662 = .ok (.iadd, 1) := by decide +kernel
theorem d_L_law_663 : decode code 663 = .ok (.iaload, 1) := by decide +kernel
theorem d_L_law_664 : decode code 664 = .ok (.aload_n 0, 1) := by decide +kernel
theorem d_L_law_665 : decode code 665 = .ok (.iload_n 3, 1) := by decide +kernel
theorem d_L_law_666 : decode code 666 = .ok (.iconst 2, 1) := by decide +kernel
theorem d_L_law_667 : decode code 667 = .ok (.iadd, 1) := by decide +kernel
theorem d_L_law_668 : decode code 668 = .ok (.iaload, 1) := by decide +kernel
theorem d_L_law_669 : decode code 669 = .ok (.invokevirtual 77, 3) := by decide +kernel
theorem d_L_law_672 : decode code 672 = .ok (.pop, 1) := by decide +kernel
theorem d_L_law_673 : decode code 673 = .ok (.aload_n 2, 1) := by decide +kernel
theorem d_L_law_674 : decode code 674 = .ok (.aload_n 0, 1) := by decide +kernel
theorem d_L_law_675 : decode code 675 = .ok (.iload_n 3, 1) := by decide +kernel
theorem d_L_law_676 : decode code 676 = .ok (.iconst 1, 1) := by decide +kernel
theorem d_L_law_677 : decode code 677 = .ok (.iadd, 1) := by decide +kernel
theorem d_L_law_678 : decode code 678 = .ok (.iaload, 1) := by decide +kernel
theorem d_L_law_679 : decode code 679 = .ok (.aload_n 0, 1) := by decide +kernel
theorem d_L_law_680 : decode code 680 = .ok (.iload_n 3, 1) := by decide +kernel
theorem d_L_law_681 : decode code 681 = .ok (.iconst 2, 1) := by decide +kernel
theorem d_L_law_682 : decode code 682 = .ok (.iadd, 1) := by decide +kernel
theorem d_L_law_683 : decode code 683 = .ok (.iaload, 1) := by decide +kernel
theorem d_L_law_684 : decode code 684 = .ok (.invokevirtual 80, 3) := by decide +kernel
theorem d_L_law_687 : decode code 687 = .ok (.pop, 1) := by decide +kernel
theorem d_L_law_688 : decode code 688 = .ok (.goto 3, 3) := by decide +kernel
theorem d_L_law_691 : decode code 691 = .ok (.iinc 3 6, 3) := by decide +kernel
theorem d_L_law_694 : decode code 694 = .ok (.goto (-676), 3) := by decide +kernel
theorem d_L_law_697 : decode code 697 = .ok (.iconst 1, 1) := by decide +kernel
theorem d_L_law_698 : decode code 698 = .ok (.ireturn, 1) := by decide +kernel
theorem d_L_law_33 : decode code 33 = .ok (.tableswitch 658 0 14 #[75, 96, 119, 202, 225, 238, 271, 304, 327, 390, 453, 516, 539, 602, 625], 75) := by decide +kernel
