/-! ROWS OF THE LAW. Printed by wip/whole/gen9k.py -/
theorem c218_0 : gP 218 0 = some (.new 7, 3, 8, 0) := by decide +kernel
theorem c218_3 : gP 218 3 = some (.dup, 1, 0, 0) := by decide +kernel
theorem c218_4 : gP 218 4 = some (.invokeinterface 16 63, 3, 1, 2) := by decide +kernel
theorem c218_7 : gP 218 7 = some (.astore 1, 1, 0, 0) := by decide +kernel
theorem c218_8 : gP 218 8 = some (.new 8, 3, 64, 0) := by decide +kernel
theorem c218_11 : gP 218 11 = some (.dup, 1, 0, 0) := by decide +kernel
theorem c218_12 : gP 218 12 = some (.invokeinterface 17 66, 3, 1, 2) := by decide +kernel
theorem c218_15 : gP 218 15 = some (.astore 2, 1, 0, 0) := by decide +kernel
theorem c218_16 : gP 218 16 = some (.iconst 1, 1, 0, 0) := by decide +kernel
theorem c218_17 : gP 218 17 = some (.newarray .long, 2, 5, 0) := by decide +kernel
theorem c218_19 : gP 218 19 = some (.astore 3, 1, 0, 0) := by decide +kernel
theorem c218_20 : gP 218 20 = some (.iconst 0, 1, 0, 0) := by decide +kernel
theorem c218_21 : gP 218 21 = some (.istore 4, 2, 0, 0) := by decide +kernel
theorem c218_23 : gP 218 23 = some (.iload 4, 2, 0, 0) := by decide +kernel
theorem c218_25 : gP 218 25 = some (.aload 0, 1, 0, 0) := by decide +kernel
theorem c218_26 : gP 218 26 = some (.arraylength, 1, 0, 0) := by decide +kernel
theorem c218_27 : gP 218 27 = some (.iconst 4, 1, 0, 0) := by decide +kernel
theorem c218_28 : gP 218 28 = some (.isub, 1, 0, 0) := by decide +kernel
theorem c218_29 : gP 218 29 = some (.if_icmp .gt 623, 3, 0, 0) := by decide +kernel
theorem c218_32 : gP 218 32 = some (.aload 0, 1, 0, 0) := by decide +kernel
theorem c218_33 : gP 218 33 = some (.iload 4, 2, 0, 0) := by decide +kernel
theorem c218_35 : gP 218 35 = some (.iaload, 1, 0, 0) := by decide +kernel
theorem c218_36 : gP 218 36 = some (.iconst 15, 2, 0, 0) := by decide +kernel
theorem c218_38 : gP 218 38 = some (.iand, 1, 0, 0) := by decide +kernel
theorem c218_39 : gP 218 39 = some (.tableswitch 578 0 13 #[69, 141, 169, 185, 198, 238, 290, 330, 358, 414, 454, 494, 510, 550], 69, 0, 0) := by decide +kernel
theorem c218_108 : gP 218 108 = some (.aload 1, 1, 0, 0) := by decide +kernel
theorem c218_109 : gP 218 109 = some (.aload 0, 1, 0, 0) := by decide +kernel
theorem c218_110 : gP 218 110 = some (.iload 4, 2, 0, 0) := by decide +kernel
theorem c218_112 : gP 218 112 = some (.iconst 1, 1, 0, 0) := by decide +kernel
theorem c218_113 : gP 218 113 = some (.iadd, 1, 0, 0) := by decide +kernel
theorem c218_114 : gP 218 114 = some (.iaload, 1, 0, 0) := by decide +kernel
theorem c218_115 : gP 218 115 = some (.i2l, 1, 0, 0) := by decide +kernel
theorem c218_116 : gP 218 116 = some (.iconst 32, 2, 0, 0) := by decide +kernel
theorem c218_118 : gP 218 118 = some (.lshl, 1, 0, 0) := by decide +kernel
theorem c218_119 : gP 218 119 = some (.aload 0, 1, 0, 0) := by decide +kernel
theorem c218_120 : gP 218 120 = some (.iload 4, 2, 0, 0) := by decide +kernel
theorem c218_122 : gP 218 122 = some (.iconst 2, 1, 0, 0) := by decide +kernel
theorem c218_123 : gP 218 123 = some (.iadd, 1, 0, 0) := by decide +kernel
theorem c218_124 : gP 218 124 = some (.iaload, 1, 0, 0) := by decide +kernel
theorem c218_125 : gP 218 125 = some (.i2l, 1, 0, 0) := by decide +kernel
theorem c218_126 : gP 218 126 = some (.goto_w 4294967295, 3, 67, 0) := by decide +kernel
theorem c218_129 : gP 218 129 = some (.land, 1, 0, 0) := by decide +kernel
theorem c218_130 : gP 218 130 = some (.lor, 1, 0, 0) := by decide +kernel
theorem c218_131 : gP 218 131 = some (.aload 0, 1, 0, 0) := by decide +kernel
theorem c218_132 : gP 218 132 = some (.iload 4, 2, 0, 0) := by decide +kernel
theorem c218_134 : gP 218 134 = some (.iconst 3, 1, 0, 0) := by decide +kernel
theorem c218_135 : gP 218 135 = some (.iadd, 1, 0, 0) := by decide +kernel
theorem c218_136 : gP 218 136 = some (.iaload, 1, 0, 0) := by decide +kernel
theorem c218_137 : gP 218 137 = some (.aload 3, 1, 0, 0) := by decide +kernel
theorem c218_138 : gP 218 138 = some (.invokeinterface 21 69, 3, 4, 0) := by decide +kernel
theorem c218_141 : gP 218 141 = some (.istore 5, 2, 0, 0) := by decide +kernel
theorem c218_143 : gP 218 143 = some (.aload 2, 1, 0, 0) := by decide +kernel
theorem c218_144 : gP 218 144 = some (.aload 0, 1, 0, 0) := by decide +kernel
theorem c218_145 : gP 218 145 = some (.iload 4, 2, 0, 0) := by decide +kernel
theorem c218_147 : gP 218 147 = some (.iconst 1, 1, 0, 0) := by decide +kernel
theorem c218_148 : gP 218 148 = some (.iadd, 1, 0, 0) := by decide +kernel
theorem c218_149 : gP 218 149 = some (.iaload, 1, 0, 0) := by decide +kernel
theorem c218_150 : gP 218 150 = some (.i2l, 1, 0, 0) := by decide +kernel
theorem c218_151 : gP 218 151 = some (.iconst 32, 2, 0, 0) := by decide +kernel
theorem c218_153 : gP 218 153 = some (.lshl, 1, 0, 0) := by decide +kernel
theorem c218_154 : gP 218 154 = some (.aload 0, 1, 0, 0) := by decide +kernel
theorem c218_155 : gP 218 155 = some (.iload 4, 2, 0, 0) := by decide +kernel
theorem c218_157 : gP 218 157 = some (.iconst 2, 1, 0, 0) := by decide +kernel
theorem c218_158 : gP 218 158 = some (.iadd, 1, 0, 0) := by decide +kernel
theorem c218_159 : gP 218 159 = some (.iaload, 1, 0, 0) := by decide +kernel
theorem c218_160 : gP 218 160 = some (.i2l, 1, 0, 0) := by decide +kernel
theorem c218_161 : gP 218 161 = some (.goto_w 4294967295, 3, 67, 0) := by decide +kernel
theorem c218_164 : gP 218 164 = some (.land, 1, 0, 0) := by decide +kernel
theorem c218_165 : gP 218 165 = some (.lor, 1, 0, 0) := by decide +kernel
theorem c218_166 : gP 218 166 = some (.aload 0, 1, 0, 0) := by decide +kernel
theorem c218_167 : gP 218 167 = some (.iload 4, 2, 0, 0) := by decide +kernel
theorem c218_169 : gP 218 169 = some (.iconst 3, 1, 0, 0) := by decide +kernel
theorem c218_170 : gP 218 170 = some (.iadd, 1, 0, 0) := by decide +kernel
theorem c218_171 : gP 218 171 = some (.iaload, 1, 0, 0) := by decide +kernel
theorem c218_172 : gP 218 172 = some (.invokeinterface 25 74, 3, 3, 1) := by decide +kernel
theorem c218_175 : gP 218 175 = some (.istore 6, 2, 0, 0) := by decide +kernel
theorem c218_177 : gP 218 177 = some (.goto 617, 3, 0, 0) := by decide +kernel
theorem c218_180 : gP 218 180 = some (.aload 1, 1, 0, 0) := by decide +kernel
theorem c218_181 : gP 218 181 = some (.aload 0, 1, 0, 0) := by decide +kernel
theorem c218_182 : gP 218 182 = some (.iload 4, 2, 0, 0) := by decide +kernel
theorem c218_184 : gP 218 184 = some (.iconst 1, 1, 0, 0) := by decide +kernel
theorem c218_185 : gP 218 185 = some (.iadd, 1, 0, 0) := by decide +kernel
theorem c218_186 : gP 218 186 = some (.iaload, 1, 0, 0) := by decide +kernel
theorem c218_187 : gP 218 187 = some (.aload 3, 1, 0, 0) := by decide +kernel
theorem c218_188 : gP 218 188 = some (.invokeinterface 28 75, 3, 3, 0) := by decide +kernel
theorem c218_191 : gP 218 191 = some (.istore 5, 2, 0, 0) := by decide +kernel
theorem c218_193 : gP 218 193 = some (.aload 2, 1, 0, 0) := by decide +kernel
theorem c218_194 : gP 218 194 = some (.aload 0, 1, 0, 0) := by decide +kernel
theorem c218_195 : gP 218 195 = some (.iload 4, 2, 0, 0) := by decide +kernel
theorem c218_197 : gP 218 197 = some (.iconst 1, 1, 0, 0) := by decide +kernel
theorem c218_198 : gP 218 198 = some (.iadd, 1, 0, 0) := by decide +kernel
theorem c218_199 : gP 218 199 = some (.iaload, 1, 0, 0) := by decide +kernel
theorem c218_200 : gP 218 200 = some (.invokeinterface 29 78, 3, 2, 1) := by decide +kernel
theorem c218_203 : gP 218 203 = some (.istore 6, 2, 0, 0) := by decide +kernel
theorem c218_205 : gP 218 205 = some (.goto 617, 3, 0, 0) := by decide +kernel
theorem c218_208 : gP 218 208 = some (.aload 1, 1, 0, 0) := by decide +kernel
theorem c218_209 : gP 218 209 = some (.aload 3, 1, 0, 0) := by decide +kernel
theorem c218_210 : gP 218 210 = some (.invokeinterface 95 79, 3, 2, 0) := by decide +kernel
theorem c218_213 : gP 218 213 = some (.istore 5, 2, 0, 0) := by decide +kernel
theorem c218_215 : gP 218 215 = some (.aload 2, 1, 0, 0) := by decide +kernel
theorem c218_216 : gP 218 216 = some (.invokeinterface 152 82, 3, 1, 1) := by decide +kernel
theorem c218_219 : gP 218 219 = some (.istore 6, 2, 0, 0) := by decide +kernel
theorem c218_221 : gP 218 221 = some (.goto 617, 3, 0, 0) := by decide +kernel
theorem c218_224 : gP 218 224 = some (.aload 1, 1, 0, 0) := by decide +kernel
theorem c218_225 : gP 218 225 = some (.invokeinterface 153 83, 3, 1, 1) := by decide +kernel
theorem c218_228 : gP 218 228 = some (.pop, 1, 0, 0) := by decide +kernel
theorem c218_229 : gP 218 229 = some (.aload 2, 1, 0, 0) := by decide +kernel
theorem c218_230 : gP 218 230 = some (.invokeinterface 154 86, 3, 1, 1) := by decide +kernel
theorem c218_233 : gP 218 233 = some (.pop, 1, 0, 0) := by decide +kernel
theorem c218_234 : gP 218 234 = some (.goto 617, 3, 0, 0) := by decide +kernel
theorem c218_237 : gP 218 237 = some (.aload 1, 1, 0, 0) := by decide +kernel
theorem c218_238 : gP 218 238 = some (.aload 0, 1, 0, 0) := by decide +kernel
theorem c218_239 : gP 218 239 = some (.iload 4, 2, 0, 0) := by decide +kernel
theorem c218_241 : gP 218 241 = some (.iconst 1, 1, 0, 0) := by decide +kernel
theorem c218_242 : gP 218 242 = some (.iadd, 1, 0, 0) := by decide +kernel
theorem c218_243 : gP 218 243 = some (.iaload, 1, 0, 0) := by decide +kernel
theorem c218_244 : gP 218 244 = some (.aload 0, 1, 0, 0) := by decide +kernel
theorem c218_245 : gP 218 245 = some (.iload 4, 2, 0, 0) := by decide +kernel
theorem c218_247 : gP 218 247 = some (.iconst 2, 1, 0, 0) := by decide +kernel
theorem c218_248 : gP 218 248 = some (.iadd, 1, 0, 0) := by decide +kernel
theorem c218_249 : gP 218 249 = some (.iaload, 1, 0, 0) := by decide +kernel
theorem c218_250 : gP 218 250 = some (.aload 3, 1, 0, 0) := by decide +kernel
theorem c218_251 : gP 218 251 = some (.invokeinterface 159 87, 3, 4, 0) := by decide +kernel
theorem c218_254 : gP 218 254 = some (.istore 5, 2, 0, 0) := by decide +kernel
theorem c218_256 : gP 218 256 = some (.aload 2, 1, 0, 0) := by decide +kernel
theorem c218_257 : gP 218 257 = some (.aload 0, 1, 0, 0) := by decide +kernel
theorem c218_258 : gP 218 258 = some (.iload 4, 2, 0, 0) := by decide +kernel
theorem c218_260 : gP 218 260 = some (.iconst 1, 1, 0, 0) := by decide +kernel
theorem c218_261 : gP 218 261 = some (.iadd, 1, 0, 0) := by decide +kernel
theorem c218_262 : gP 218 262 = some (.iaload, 1, 0, 0) := by decide +kernel
theorem c218_263 : gP 218 263 = some (.aload 0, 1, 0, 0) := by decide +kernel
theorem c218_264 : gP 218 264 = some (.iload 4, 2, 0, 0) := by decide +kernel
theorem c218_266 : gP 218 266 = some (.iconst 2, 1, 0, 0) := by decide +kernel
theorem c218_267 : gP 218 267 = some (.iadd, 1, 0, 0) := by decide +kernel
theorem c218_268 : gP 218 268 = some (.iaload, 1, 0, 0) := by decide +kernel
theorem c218_269 : gP 218 269 = some (.invokeinterface 163 90, 3, 3, 1) := by decide +kernel
theorem c218_272 : gP 218 272 = some (.istore 6, 2, 0, 0) := by decide +kernel
theorem c218_274 : gP 218 274 = some (.goto 617, 3, 0, 0) := by decide +kernel
theorem c218_277 : gP 218 277 = some (.aload 1, 1, 0, 0) := by decide +kernel
theorem c218_278 : gP 218 278 = some (.aload 0, 1, 0, 0) := by decide +kernel
theorem c218_279 : gP 218 279 = some (.iload 4, 2, 0, 0) := by decide +kernel
theorem c218_281 : gP 218 281 = some (.iconst 1, 1, 0, 0) := by decide +kernel
theorem c218_282 : gP 218 282 = some (.iadd, 1, 0, 0) := by decide +kernel
theorem c218_283 : gP 218 283 = some (.iaload, 1, 0, 0) := by decide +kernel
theorem c218_284 : gP 218 284 = some (.aload 0, 1, 0, 0) := by decide +kernel
theorem c218_285 : gP 218 285 = some (.iload 4, 2, 0, 0) := by decide +kernel
theorem c218_287 : gP 218 287 = some (.iconst 2, 1, 0, 0) := by decide +kernel
theorem c218_288 : gP 218 288 = some (.iadd, 1, 0, 0) := by decide +kernel
theorem c218_289 : gP 218 289 = some (.iaload, 1, 0, 0) := by decide +kernel
theorem c218_290 : gP 218 290 = some (.aload 0, 1, 0, 0) := by decide +kernel
theorem c218_291 : gP 218 291 = some (.iload 4, 2, 0, 0) := by decide +kernel
theorem c218_293 : gP 218 293 = some (.iconst 3, 1, 0, 0) := by decide +kernel
theorem c218_294 : gP 218 294 = some (.iadd, 1, 0, 0) := by decide +kernel
theorem c218_295 : gP 218 295 = some (.iaload, 1, 0, 0) := by decide +kernel
theorem c218_296 : gP 218 296 = some (.aload 3, 1, 0, 0) := by decide +kernel
theorem c218_297 : gP 218 297 = some (.invokeinterface 165 91, 3, 5, 0) := by decide +kernel
theorem c218_300 : gP 218 300 = some (.istore 5, 2, 0, 0) := by decide +kernel
theorem c218_302 : gP 218 302 = some (.aload 2, 1, 0, 0) := by decide +kernel
theorem c218_303 : gP 218 303 = some (.aload 0, 1, 0, 0) := by decide +kernel
theorem c218_304 : gP 218 304 = some (.iload 4, 2, 0, 0) := by decide +kernel
theorem c218_306 : gP 218 306 = some (.iconst 1, 1, 0, 0) := by decide +kernel
theorem c218_307 : gP 218 307 = some (.iadd, 1, 0, 0) := by decide +kernel
theorem c218_308 : gP 218 308 = some (.iaload, 1, 0, 0) := by decide +kernel
theorem c218_309 : gP 218 309 = some (.aload 0, 1, 0, 0) := by decide +kernel
theorem c218_310 : gP 218 310 = some (.iload 4, 2, 0, 0) := by decide +kernel
theorem c218_312 : gP 218 312 = some (.iconst 2, 1, 0, 0) := by decide +kernel
theorem c218_313 : gP 218 313 = some (.iadd, 1, 0, 0) := by decide +kernel
theorem c218_314 : gP 218 314 = some (.iaload, 1, 0, 0) := by decide +kernel
theorem c218_315 : gP 218 315 = some (.aload 0, 1, 0, 0) := by decide +kernel
theorem c218_316 : gP 218 316 = some (.iload 4, 2, 0, 0) := by decide +kernel
theorem c218_318 : gP 218 318 = some (.iconst 3, 1, 0, 0) := by decide +kernel
theorem c218_319 : gP 218 319 = some (.iadd, 1, 0, 0) := by decide +kernel
theorem c218_320 : gP 218 320 = some (.iaload, 1, 0, 0) := by decide +kernel
theorem c218_321 : gP 218 321 = some (.invokeinterface 166 94, 3, 4, 1) := by decide +kernel
theorem c218_324 : gP 218 324 = some (.istore 6, 2, 0, 0) := by decide +kernel
theorem c218_326 : gP 218 326 = some (.goto 617, 3, 0, 0) := by decide +kernel
theorem c218_329 : gP 218 329 = some (.aload 1, 1, 0, 0) := by decide +kernel
theorem c218_330 : gP 218 330 = some (.aload 0, 1, 0, 0) := by decide +kernel
theorem c218_331 : gP 218 331 = some (.iload 4, 2, 0, 0) := by decide +kernel
theorem c218_333 : gP 218 333 = some (.iconst 1, 1, 0, 0) := by decide +kernel
theorem c218_334 : gP 218 334 = some (.iadd, 1, 0, 0) := by decide +kernel
theorem c218_335 : gP 218 335 = some (.iaload, 1, 0, 0) := by decide +kernel
theorem c218_336 : gP 218 336 = some (.aload 0, 1, 0, 0) := by decide +kernel
theorem c218_337 : gP 218 337 = some (.iload 4, 2, 0, 0) := by decide +kernel
theorem c218_339 : gP 218 339 = some (.iconst 2, 1, 0, 0) := by decide +kernel
theorem c218_340 : gP 218 340 = some (.iadd, 1, 0, 0) := by decide +kernel
theorem c218_341 : gP 218 341 = some (.iaload, 1, 0, 0) := by decide +kernel
theorem c218_342 : gP 218 342 = some (.aload 3, 1, 0, 0) := by decide +kernel
theorem c218_343 : gP 218 343 = some (.invokeinterface 169 95, 3, 4, 0) := by decide +kernel
theorem c218_346 : gP 218 346 = some (.istore 5, 2, 0, 0) := by decide +kernel
theorem c218_348 : gP 218 348 = some (.aload 2, 1, 0, 0) := by decide +kernel
theorem c218_349 : gP 218 349 = some (.aload 0, 1, 0, 0) := by decide +kernel
theorem c218_350 : gP 218 350 = some (.iload 4, 2, 0, 0) := by decide +kernel
theorem c218_352 : gP 218 352 = some (.iconst 1, 1, 0, 0) := by decide +kernel
theorem c218_353 : gP 218 353 = some (.iadd, 1, 0, 0) := by decide +kernel
theorem c218_354 : gP 218 354 = some (.iaload, 1, 0, 0) := by decide +kernel
theorem c218_355 : gP 218 355 = some (.aload 0, 1, 0, 0) := by decide +kernel
theorem c218_356 : gP 218 356 = some (.iload 4, 2, 0, 0) := by decide +kernel
theorem c218_358 : gP 218 358 = some (.iconst 2, 1, 0, 0) := by decide +kernel
theorem c218_359 : gP 218 359 = some (.iadd, 1, 0, 0) := by decide +kernel
theorem c218_360 : gP 218 360 = some (.iaload, 1, 0, 0) := by decide +kernel
theorem c218_361 : gP 218 361 = some (.invokeinterface 171 97, 3, 3, 1) := by decide +kernel
theorem c218_364 : gP 218 364 = some (.istore 6, 2, 0, 0) := by decide +kernel
theorem c218_366 : gP 218 366 = some (.goto 617, 3, 0, 0) := by decide +kernel
theorem c218_369 : gP 218 369 = some (.aload 1, 1, 0, 0) := by decide +kernel
theorem c218_370 : gP 218 370 = some (.aload 0, 1, 0, 0) := by decide +kernel
theorem c218_371 : gP 218 371 = some (.iload 4, 2, 0, 0) := by decide +kernel
theorem c218_373 : gP 218 373 = some (.iconst 1, 1, 0, 0) := by decide +kernel
theorem c218_374 : gP 218 374 = some (.iadd, 1, 0, 0) := by decide +kernel
theorem c218_375 : gP 218 375 = some (.iaload, 1, 0, 0) := by decide +kernel
theorem c218_376 : gP 218 376 = some (.aload 3, 1, 0, 0) := by decide +kernel
theorem c218_377 : gP 218 377 = some (.invokeinterface 173 98, 3, 3, 0) := by decide +kernel
theorem c218_380 : gP 218 380 = some (.istore 5, 2, 0, 0) := by decide +kernel
theorem c218_382 : gP 218 382 = some (.aload 2, 1, 0, 0) := by decide +kernel
theorem c218_383 : gP 218 383 = some (.aload 0, 1, 0, 0) := by decide +kernel
theorem c218_384 : gP 218 384 = some (.iload 4, 2, 0, 0) := by decide +kernel
theorem c218_386 : gP 218 386 = some (.iconst 1, 1, 0, 0) := by decide +kernel
theorem c218_387 : gP 218 387 = some (.iadd, 1, 0, 0) := by decide +kernel
theorem c218_388 : gP 218 388 = some (.iaload, 1, 0, 0) := by decide +kernel
theorem c218_389 : gP 218 389 = some (.invokeinterface 174 100, 3, 2, 1) := by decide +kernel
theorem c218_392 : gP 218 392 = some (.istore 6, 2, 0, 0) := by decide +kernel
theorem c218_394 : gP 218 394 = some (.goto 617, 3, 0, 0) := by decide +kernel
theorem c218_397 : gP 218 397 = some (.aload 1, 1, 0, 0) := by decide +kernel
theorem c218_398 : gP 218 398 = some (.aload 0, 1, 0, 0) := by decide +kernel
theorem c218_399 : gP 218 399 = some (.iload 4, 2, 0, 0) := by decide +kernel
theorem c218_401 : gP 218 401 = some (.iconst 1, 1, 0, 0) := by decide +kernel
theorem c218_402 : gP 218 402 = some (.iadd, 1, 0, 0) := by decide +kernel
theorem c218_403 : gP 218 403 = some (.iaload, 1, 0, 0) := by decide +kernel
theorem c218_404 : gP 218 404 = some (.aload 3, 1, 0, 0) := by decide +kernel
theorem c218_405 : gP 218 405 = some (.invokeinterface 177 101, 3, 3, 0) := by decide +kernel
theorem c218_408 : gP 218 408 = some (.istore 5, 2, 0, 0) := by decide +kernel
theorem c218_410 : gP 218 410 = some (.aload 2, 1, 0, 0) := by decide +kernel
theorem c218_411 : gP 218 411 = some (.aload 0, 1, 0, 0) := by decide +kernel
theorem c218_412 : gP 218 412 = some (.iload 4, 2, 0, 0) := by decide +kernel
theorem c218_414 : gP 218 414 = some (.iconst 1, 1, 0, 0) := by decide +kernel
theorem c218_415 : gP 218 415 = some (.iadd, 1, 0, 0) := by decide +kernel
theorem c218_416 : gP 218 416 = some (.iaload, 1, 0, 0) := by decide +kernel
theorem c218_417 : gP 218 417 = some (.invokeinterface 178 103, 3, 2, 1) := by decide +kernel
theorem c218_420 : gP 218 420 = some (.istore 6, 2, 0, 0) := by decide +kernel
theorem c218_422 : gP 218 422 = some (.aload 2, 1, 0, 0) := by decide +kernel
theorem c218_423 : gP 218 423 = some (.invokeinterface 26 104, 3, 1, 1) := by decide +kernel
theorem c218_426 : gP 218 426 = some (.iload 5, 2, 0, 0) := by decide +kernel
theorem c218_428 : gP 218 428 = some (.if_icmp .eq 433, 3, 0, 0) := by decide +kernel
theorem c218_431 : gP 218 431 = some (.iconst 0, 1, 0, 0) := by decide +kernel
theorem c218_432 : gP 218 432 = some (.ireturn, 1, 1, 0) := by decide +kernel
theorem c218_433 : gP 218 433 = some (.iload 5, 2, 0, 0) := by decide +kernel
theorem c218_435 : gP 218 435 = some (.ifCond .ne 450, 3, 0, 0) := by decide +kernel
theorem c218_438 : gP 218 438 = some (.aload 3, 1, 0, 0) := by decide +kernel
theorem c218_439 : gP 218 439 = some (.iconst 0, 1, 0, 0) := by decide +kernel
theorem c218_440 : gP 218 440 = some (.laload, 1, 0, 0) := by decide +kernel
theorem c218_441 : gP 218 441 = some (.iload 6, 2, 0, 0) := by decide +kernel
theorem c218_443 : gP 218 443 = some (.i2l, 1, 0, 0) := by decide +kernel
theorem c218_444 : gP 218 444 = some (.lcmp, 1, 0, 0) := by decide +kernel
theorem c218_445 : gP 218 445 = some (.ifCond .eq 450, 3, 0, 0) := by decide +kernel
theorem c218_448 : gP 218 448 = some (.iconst 0, 1, 0, 0) := by decide +kernel
theorem c218_449 : gP 218 449 = some (.ireturn, 1, 1, 0) := by decide +kernel
theorem c218_450 : gP 218 450 = some (.goto 617, 3, 0, 0) := by decide +kernel
theorem c218_453 : gP 218 453 = some (.aload 1, 1, 0, 0) := by decide +kernel
theorem c218_454 : gP 218 454 = some (.aload 0, 1, 0, 0) := by decide +kernel
theorem c218_455 : gP 218 455 = some (.iload 4, 2, 0, 0) := by decide +kernel
theorem c218_457 : gP 218 457 = some (.iconst 1, 1, 0, 0) := by decide +kernel
theorem c218_458 : gP 218 458 = some (.iadd, 1, 0, 0) := by decide +kernel
theorem c218_459 : gP 218 459 = some (.iaload, 1, 0, 0) := by decide +kernel
theorem c218_460 : gP 218 460 = some (.aload 0, 1, 0, 0) := by decide +kernel
theorem c218_461 : gP 218 461 = some (.iload 4, 2, 0, 0) := by decide +kernel
theorem c218_463 : gP 218 463 = some (.iconst 2, 1, 0, 0) := by decide +kernel
theorem c218_464 : gP 218 464 = some (.iadd, 1, 0, 0) := by decide +kernel
theorem c218_465 : gP 218 465 = some (.iaload, 1, 0, 0) := by decide +kernel
theorem c218_466 : gP 218 466 = some (.aload 3, 1, 0, 0) := by decide +kernel
theorem c218_467 : gP 218 467 = some (.invokeinterface 181 107, 3, 4, 0) := by decide +kernel
theorem c218_470 : gP 218 470 = some (.istore 5, 2, 0, 0) := by decide +kernel
theorem c218_472 : gP 218 472 = some (.aload 2, 1, 0, 0) := by decide +kernel
theorem c218_473 : gP 218 473 = some (.aload 0, 1, 0, 0) := by decide +kernel
theorem c218_474 : gP 218 474 = some (.iload 4, 2, 0, 0) := by decide +kernel
theorem c218_476 : gP 218 476 = some (.iconst 1, 1, 0, 0) := by decide +kernel
theorem c218_477 : gP 218 477 = some (.iadd, 1, 0, 0) := by decide +kernel
theorem c218_478 : gP 218 478 = some (.iaload, 1, 0, 0) := by decide +kernel
theorem c218_479 : gP 218 479 = some (.aload 0, 1, 0, 0) := by decide +kernel
theorem c218_480 : gP 218 480 = some (.iload 4, 2, 0, 0) := by decide +kernel
theorem c218_482 : gP 218 482 = some (.iconst 2, 1, 0, 0) := by decide +kernel
theorem c218_483 : gP 218 483 = some (.iadd, 1, 0, 0) := by decide +kernel
theorem c218_484 : gP 218 484 = some (.iaload, 1, 0, 0) := by decide +kernel
theorem c218_485 : gP 218 485 = some (.invokeinterface 182 109, 3, 3, 1) := by decide +kernel
theorem c218_488 : gP 218 488 = some (.istore 6, 2, 0, 0) := by decide +kernel
theorem c218_490 : gP 218 490 = some (.goto 617, 3, 0, 0) := by decide +kernel
theorem c218_493 : gP 218 493 = some (.aload 1, 1, 0, 0) := by decide +kernel
theorem c218_494 : gP 218 494 = some (.aload 0, 1, 0, 0) := by decide +kernel
theorem c218_495 : gP 218 495 = some (.iload 4, 2, 0, 0) := by decide +kernel
theorem c218_497 : gP 218 497 = some (.iconst 1, 1, 0, 0) := by decide +kernel
theorem c218_498 : gP 218 498 = some (.iadd, 1, 0, 0) := by decide +kernel
theorem c218_499 : gP 218 499 = some (.iaload, 1, 0, 0) := by decide +kernel
theorem c218_500 : gP 218 500 = some (.aload 0, 1, 0, 0) := by decide +kernel
theorem c218_501 : gP 218 501 = some (.iload 4, 2, 0, 0) := by decide +kernel
theorem c218_503 : gP 218 503 = some (.iconst 2, 1, 0, 0) := by decide +kernel
theorem c218_504 : gP 218 504 = some (.iadd, 1, 0, 0) := by decide +kernel
theorem c218_505 : gP 218 505 = some (.iaload, 1, 0, 0) := by decide +kernel
theorem c218_506 : gP 218 506 = some (.aload 3, 1, 0, 0) := by decide +kernel
theorem c218_507 : gP 218 507 = some (.invokeinterface 184 110, 3, 4, 0) := by decide +kernel
theorem c218_510 : gP 218 510 = some (.istore 5, 2, 0, 0) := by decide +kernel
theorem c218_512 : gP 218 512 = some (.aload 2, 1, 0, 0) := by decide +kernel
theorem c218_513 : gP 218 513 = some (.aload 0, 1, 0, 0) := by decide +kernel
theorem c218_514 : gP 218 514 = some (.iload 4, 2, 0, 0) := by decide +kernel
theorem c218_516 : gP 218 516 = some (.iconst 1, 1, 0, 0) := by decide +kernel
theorem c218_517 : gP 218 517 = some (.iadd, 1, 0, 0) := by decide +kernel
theorem c218_518 : gP 218 518 = some (.iaload, 1, 0, 0) := by decide +kernel
theorem c218_519 : gP 218 519 = some (.aload 0, 1, 0, 0) := by decide +kernel
theorem c218_520 : gP 218 520 = some (.iload 4, 2, 0, 0) := by decide +kernel
theorem c218_522 : gP 218 522 = some (.iconst 2, 1, 0, 0) := by decide +kernel
theorem c218_523 : gP 218 523 = some (.iadd, 1, 0, 0) := by decide +kernel
theorem c218_524 : gP 218 524 = some (.iaload, 1, 0, 0) := by decide +kernel
theorem c218_525 : gP 218 525 = some (.invokeinterface 185 112, 3, 3, 1) := by decide +kernel
theorem c218_528 : gP 218 528 = some (.istore 6, 2, 0, 0) := by decide +kernel
theorem c218_530 : gP 218 530 = some (.goto 617, 3, 0, 0) := by decide +kernel
theorem c218_533 : gP 218 533 = some (.aload 1, 1, 0, 0) := by decide +kernel
theorem c218_534 : gP 218 534 = some (.aload 3, 1, 0, 0) := by decide +kernel
theorem c218_535 : gP 218 535 = some (.invokeinterface 200 113, 3, 2, 0) := by decide +kernel
theorem c218_538 : gP 218 538 = some (.istore 5, 2, 0, 0) := by decide +kernel
theorem c218_540 : gP 218 540 = some (.aload 2, 1, 0, 0) := by decide +kernel
theorem c218_541 : gP 218 541 = some (.invokeinterface 211 115, 3, 1, 1) := by decide +kernel
theorem c218_544 : gP 218 544 = some (.istore 6, 2, 0, 0) := by decide +kernel
theorem c218_546 : gP 218 546 = some (.goto 617, 3, 0, 0) := by decide +kernel
theorem c218_549 : gP 218 549 = some (.aload 1, 1, 0, 0) := by decide +kernel
theorem c218_550 : gP 218 550 = some (.aload 0, 1, 0, 0) := by decide +kernel
theorem c218_551 : gP 218 551 = some (.iload 4, 2, 0, 0) := by decide +kernel
theorem c218_553 : gP 218 553 = some (.iconst 1, 1, 0, 0) := by decide +kernel
theorem c218_554 : gP 218 554 = some (.iadd, 1, 0, 0) := by decide +kernel
theorem c218_555 : gP 218 555 = some (.iaload, 1, 0, 0) := by decide +kernel
theorem c218_556 : gP 218 556 = some (.aload 0, 1, 0, 0) := by decide +kernel
theorem c218_557 : gP 218 557 = some (.iload 4, 2, 0, 0) := by decide +kernel
theorem c218_559 : gP 218 559 = some (.iconst 2, 1, 0, 0) := by decide +kernel
theorem c218_560 : gP 218 560 = some (.iadd, 1, 0, 0) := by decide +kernel
theorem c218_561 : gP 218 561 = some (.iaload, 1, 0, 0) := by decide +kernel
theorem c218_562 : gP 218 562 = some (.aload 3, 1, 0, 0) := by decide +kernel
theorem c218_563 : gP 218 563 = some (.invokeinterface 213 116, 3, 4, 0) := by decide +kernel
theorem c218_566 : gP 218 566 = some (.istore 5, 2, 0, 0) := by decide +kernel
theorem c218_568 : gP 218 568 = some (.aload 2, 1, 0, 0) := by decide +kernel
theorem c218_569 : gP 218 569 = some (.aload 0, 1, 0, 0) := by decide +kernel
theorem c218_570 : gP 218 570 = some (.iload 4, 2, 0, 0) := by decide +kernel
theorem c218_572 : gP 218 572 = some (.iconst 1, 1, 0, 0) := by decide +kernel
theorem c218_573 : gP 218 573 = some (.iadd, 1, 0, 0) := by decide +kernel
theorem c218_574 : gP 218 574 = some (.iaload, 1, 0, 0) := by decide +kernel
theorem c218_575 : gP 218 575 = some (.aload 0, 1, 0, 0) := by decide +kernel
theorem c218_576 : gP 218 576 = some (.iload 4, 2, 0, 0) := by decide +kernel
theorem c218_578 : gP 218 578 = some (.iconst 2, 1, 0, 0) := by decide +kernel
theorem c218_579 : gP 218 579 = some (.iadd, 1, 0, 0) := by decide +kernel
theorem c218_580 : gP 218 580 = some (.iaload, 1, 0, 0) := by decide +kernel
theorem c218_581 : gP 218 581 = some (.invokeinterface 214 118, 3, 3, 1) := by decide +kernel
theorem c218_584 : gP 218 584 = some (.istore 6, 2, 0, 0) := by decide +kernel
theorem c218_586 : gP 218 586 = some (.goto 617, 3, 0, 0) := by decide +kernel
theorem c218_589 : gP 218 589 = some (.aload 1, 1, 0, 0) := by decide +kernel
theorem c218_590 : gP 218 590 = some (.aload 0, 1, 0, 0) := by decide +kernel
theorem c218_591 : gP 218 591 = some (.iload 4, 2, 0, 0) := by decide +kernel
theorem c218_593 : gP 218 593 = some (.iconst 1, 1, 0, 0) := by decide +kernel
theorem c218_594 : gP 218 594 = some (.iadd, 1, 0, 0) := by decide +kernel
theorem c218_595 : gP 218 595 = some (.iaload, 1, 0, 0) := by decide +kernel
theorem c218_596 : gP 218 596 = some (.aload 3, 1, 0, 0) := by decide +kernel
theorem c218_597 : gP 218 597 = some (.invokeinterface 216 119, 3, 3, 0) := by decide +kernel
theorem c218_600 : gP 218 600 = some (.istore 5, 2, 0, 0) := by decide +kernel
theorem c218_602 : gP 218 602 = some (.aload 2, 1, 0, 0) := by decide +kernel
theorem c218_603 : gP 218 603 = some (.aload 0, 1, 0, 0) := by decide +kernel
theorem c218_604 : gP 218 604 = some (.iload 4, 2, 0, 0) := by decide +kernel
theorem c218_606 : gP 218 606 = some (.iconst 1, 1, 0, 0) := by decide +kernel
theorem c218_607 : gP 218 607 = some (.iadd, 1, 0, 0) := by decide +kernel
theorem c218_608 : gP 218 608 = some (.iaload, 1, 0, 0) := by decide +kernel
theorem c218_609 : gP 218 609 = some (.invokeinterface 217 121, 3, 2, 1) := by decide +kernel
theorem c218_612 : gP 218 612 = some (.istore 6, 2, 0, 0) := by decide +kernel
theorem c218_614 : gP 218 614 = some (.goto 617, 3, 0, 0) := by decide +kernel
theorem c218_617 : gP 218 617 = some (.iinc 4 4, 3, 0, 0) := by decide +kernel
theorem c218_620 : gP 218 620 = some (.goto 23, 3, 0, 0) := by decide +kernel
theorem c218_623 : gP 218 623 = some (.iconst 1, 1, 0, 0) := by decide +kernel
theorem c218_624 : gP 218 624 = some (.ireturn, 1, 1, 0) := by decide +kernel
theorem km16 : gMc 16 = some 7 := by decide +kernel
theorem kn16 : gMx 16 = 1 := by decide +kernel
theorem km17 : gMc 17 = some 8 := by decide +kernel
theorem kn17 : gMx 17 = 1 := by decide +kernel
