section
/-! ROWS OF THE LAW. Printed by wip/whole/gen9k.py -/
theorem c218_0 : gP 218 0 = some (.new 7, 3, 8, 0) := by decide +kernel
theorem c218_3 : gP 218 3 = some (.dup, 1, 0, 0) := by decide +kernel
theorem c218_4 : gP 218 4 = some (.invokeinterface 16 63, 3, 1, 2) := by decide +kernel
theorem c218_7 : gP 218 7 = some (.astore 1, 1, 0, 0) := by decide +kernel
theorem c218_8 : gP 218 8 = some (.new 8, 3, 64, 0) := by decide +kernel
theorem c218_11 : gP 218 11 = some (.dup, 1, 0, 0) := by decide +kernel
theorem c218_12 : gP 218 12 = some (.invokeinterface 17 66, 3, 1, 2) := by decide +kernel
theorem c218_15 : gP 218 15 = some (.astore 2, 1, 0, 0) := by decide +kernel
theorem c218_16 : gP 218 16 = some (.iconst 1, 1, 0, 0) := by decide +kernel
theorem c218_17 : gP 218 17 = some (.newarray .long, 2, 5, 0) := by decide +kernel
theorem c218_19 : gP 218 19 = some (.astore 3, 1, 0, 0) := by decide +kernel
theorem c218_20 : gP 218 20 = some (.iconst 0, 1, 0, 0) := by decide +kernel
theorem c218_21 : gP 218 21 = some (.istore 4, 2, 0, 0) := by decide +kernel
theorem c218_23 : gP 218 23 = some (.iload 4, 2, 0, 0) := by decide +kernel
theorem c218_25 : gP 218 25 = some (.aload 0, 1, 0, 0) := by decide +kernel
theorem c218_26 : gP 218 26 = some (.arraylength, 1, 0, 0) := by decide +kernel
theorem c218_27 : gP 218 27 = some (.iconst 4, 1, 0, 0) := by decide +kernel
theorem c218_28 : gP 218 28 = some (.isub, 1, 0, 0) := by decide +kernel
theorem c218_29 : gP 218 29 = some (.if_icmp .gt 623, 3, 0, 0) := by decide +kernel
theorem c218_32 : gP 218 32 = some (.aload 0, 1, 0, 0) := by decide +kernel
theorem c218_33 : gP 218 33 = some (.iload 4, 2, 0, 0) := by decide +kernel
theorem c218_35 : gP 218 35 = some (.iaload, 1, 0, 0) := by decide +kernel
theorem c218_36 : gP 218 36 = some (.iconst 15, 2, 0, 0) := by decide +kernel
theorem c218_38 : gP 218 38 = some (.iand, 1, 0, 0) := by decide +kernel
theorem c218_39 : gP 218 39 = some (.tableswitch 578 0 13 #[69, 141, 169, 185, 198, 238, 290, 330, 358, 386, 426, 466, 482, 550], 69, 0, 0) := by decide +kernel
theorem c218_108 : gP 218 108 = some (.aload 1, 1, 0, 0) := by decide +kernel
theorem c218_109 : gP 218 109 = some (.aload 0, 1, 0, 0) := by decide +kernel
theorem c218_110 : gP 218 110 = some (.iload 4, 2, 0, 0) := by decide +kernel
theorem c218_112 : gP 218 112 = some (.iconst 1, 1, 0, 0) := by decide +kernel
theorem c218_113 : gP 218 113 = some (.iadd, 1, 0, 0) := by decide +kernel
theorem c218_114 : gP 218 114 = some (.iaload, 1, 0, 0) := by decide +kernel
theorem c218_115 : gP 218 115 = some (.i2l, 1, 0, 0) := by decide +kernel
theorem c218_116 : gP 218 116 = some (.iconst 32, 2, 0, 0) := by decide +kernel
theorem c218_118 : gP 218 118 = some (.lshl, 1, 0, 0) := by decide +kernel
theorem c218_119 : gP 218 119 = some (.aload 0, 1, 0, 0) := by decide +kernel
theorem c218_120 : gP 218 120 = some (.iload 4, 2, 0, 0) := by decide +kernel
theorem c218_122 : gP 218 122 = some (.iconst 2, 1, 0, 0) := by decide +kernel
theorem c218_123 : gP 218 123 = some (.iadd, 1, 0, 0) := by decide +kernel
theorem c218_124 : gP 218 124 = some (.iaload, 1, 0, 0) := by decide +kernel
theorem c218_125 : gP 218 125 = some (.i2l, 1, 0, 0) := by decide +kernel
theorem c218_126 : gP 218 126 = some (.goto_w 4294967295, 3, 67, 0) := by decide +kernel
theorem c218_129 : gP 218 129 = some (.land, 1, 0, 0) := by decide +kernel
theorem c218_130 : gP 218 130 = some (.lor, 1, 0, 0) := by decide +kernel
theorem c218_131 : gP 218 131 = some (.aload 0, 1, 0, 0) := by decide +kernel
theorem c218_132 : gP 218 132 = some (.iload 4, 2, 0, 0) := by decide +kernel
theorem c218_134 : gP 218 134 = some (.iconst 3, 1, 0, 0) := by decide +kernel
theorem c218_135 : gP 218 135 = some (.iadd, 1, 0, 0) := by decide +kernel
theorem c218_136 : gP 218 136 = some (.iaload, 1, 0, 0) := by decide +kernel
theorem c218_137 : gP 218 137 = some (.aload 3, 1, 0, 0) := by decide +kernel
theorem c218_138 : gP 218 138 = some (.invokeinterface 21 69, 3, 4, 0) := by decide +kernel
theorem c218_141 : gP 218 141 = some (.istore 5, 2, 0, 0) := by decide +kernel
theorem c218_143 : gP 218 143 = some (.aload 2, 1, 0, 0) := by decide +kernel
theorem c218_144 : gP 218 144 = some (.aload 0, 1, 0, 0) := by decide +kernel
theorem c218_145 : gP 218 145 = some (.iload 4, 2, 0, 0) := by decide +kernel
theorem c218_147 : gP 218 147 = some (.iconst 1, 1, 0, 0) := by decide +kernel
theorem c218_148 : gP 218 148 = some (.iadd, 1, 0, 0) := by decide +kernel
theorem c218_149 : gP 218 149 = some (.iaload, 1, 0, 0) := by decide +kernel
theorem c218_150 : gP 218 150 = some (.i2l, 1, 0, 0) := by decide +kernel
theorem c218_151 : gP 218 151 = some (.iconst 32, 2, 0, 0) := by decide +kernel
theorem c218_153 : gP 218 153 = some (.lshl, 1, 0, 0) := by decide +kernel
theorem c218_154 : gP 218 154 = some (.aload 0, 1, 0, 0) := by decide +kernel
theorem c218_155 : gP 218 155 = some (.iload 4, 2, 0, 0) := by decide +kernel
theorem c218_157 : gP 218 157 = some (.iconst 2, 1, 0, 0) := by decide +kernel
theorem c218_158 : gP 218 158 = some (.iadd, 1, 0, 0) := by decide +kernel
theorem c218_159 : gP 218 159 = some (.iaload, 1, 0, 0) := by decide +kernel
theorem c218_160 : gP 218 160 = some (.i2l, 1, 0, 0) := by decide +kernel
theorem c218_161 : gP 218 161 = some (.goto_w 4294967295, 3, 67, 0) := by decide +kernel
theorem c218_164 : gP 218 164 = some (.land, 1, 0, 0) := by decide +kernel
theorem c218_165 : gP 218 165 = some (.lor, 1, 0, 0) := by decide +kernel
theorem c218_166 : gP 218 166 = some (.aload 0, 1, 0, 0) := by decide +kernel
theorem c218_167 : gP 218 167 = some (.iload 4, 2, 0, 0) := by decide +kernel
theorem c218_169 : gP 218 169 = some (.iconst 3, 1, 0, 0) := by decide +kernel
theorem c218_170 : gP 218 170 = some (.iadd, 1, 0, 0) := by decide +kernel
theorem c218_171 : gP 218 171 = some (.iaload, 1, 0, 0) := by decide +kernel
theorem c218_172 : gP 218 172 = some (.invokeinterface 25 74, 3, 3, 1) := by decide +kernel
theorem c218_175 : gP 218 175 = some (.istore 6, 2, 0, 0) := by decide +kernel
theorem c218_177 : gP 218 177 = some (.goto 617, 3, 0, 0) := by decide +kernel
theorem c218_180 : gP 218 180 = some (.aload 1, 1, 0, 0) := by decide +kernel
theorem c218_181 : gP 218 181 = some (.aload 0, 1, 0, 0) := by decide +kernel
theorem c218_182 : gP 218 182 = some (.iload 4, 2, 0, 0) := by decide +kernel
theorem c218_184 : gP 218 184 = some (.iconst 1, 1, 0, 0) := by decide +kernel
theorem c218_185 : gP 218 185 = some (.iadd, 1, 0, 0) := by decide +kernel
theorem c218_186 : gP 218 186 = some (.iaload, 1, 0, 0) := by decide +kernel
theorem c218_187 : gP 218 187 = some (.aload 3, 1, 0, 0) := by decide +kernel
theorem c218_188 : gP 218 188 = some (.invokeinterface 28 75, 3, 3, 0) := by decide +kernel
theorem c218_191 : gP 218 191 = some (.istore 5, 2, 0, 0) := by decide +kernel
theorem c218_193 : gP 218 193 = some (.aload 2, 1, 0, 0) := by decide +kernel
theorem c218_194 : gP 218 194 = some (.aload 0, 1, 0, 0) := by decide +kernel
theorem c218_195 : gP 218 195 = some (.iload 4, 2, 0, 0) := by decide +kernel
theorem c218_197 : gP 218 197 = some (.iconst 1, 1, 0, 0) := by decide +kernel
theorem c218_198 : gP 218 198 = some (.iadd, 1, 0, 0) := by decide +kernel
theorem c218_199 : gP 218 199 = some (.iaload, 1, 0, 0) := by decide +kernel
theorem c218_200 : gP 218 200 = some (.invokeinterface 29 78, 3, 2, 1) := by decide +kernel
theorem c218_203 : gP 218 203 = some (.istore 6, 2, 0, 0) := by decide +kernel
theorem c218_205 : gP 218 205 = some (.goto 617, 3, 0, 0) := by decide +kernel
theorem c218_208 : gP 218 208 = some (.aload 1, 1, 0, 0) := by decide +kernel
theorem c218_209 : gP 218 209 = some (.aload 3, 1, 0, 0) := by decide +kernel
theorem c218_210 : gP 218 210 = some (.invokeinterface 95 79, 3, 2, 0) := by decide +kernel
theorem c218_213 : gP 218 213 = some (.istore 5, 2, 0, 0) := by decide +kernel
theorem c218_215 : gP 218 215 = some (.aload 2, 1, 0, 0) := by decide +kernel
theorem c218_216 : gP 218 216 = some (.invokeinterface 152 82, 3, 1, 1) := by decide +kernel
theorem c218_219 : gP 218 219 = some (.istore 6, 2, 0, 0) := by decide +kernel
theorem c218_221 : gP 218 221 = some (.goto 617, 3, 0, 0) := by decide +kernel
theorem c218_224 : gP 218 224 = some (.aload 1, 1, 0, 0) := by decide +kernel
theorem c218_225 : gP 218 225 = some (.invokeinterface 153 83, 3, 1, 1) := by decide +kernel
theorem c218_228 : gP 218 228 = some (.pop, 1, 0, 0) := by decide +kernel
theorem c218_229 : gP 218 229 = some (.aload 2, 1, 0, 0) := by decide +kernel
theorem c218_230 : gP 218 230 = some (.invokeinterface 154 86, 3, 1, 1) := by decide +kernel
theorem c218_233 : gP 218 233 = some (.pop, 1, 0, 0) := by decide +kernel
theorem c218_234 : gP 218 234 = some (.goto 617, 3, 0, 0) := by decide +kernel
theorem c218_237 : gP 218 237 = some (.aload 1, 1, 0, 0) := by decide +kernel
theorem c218_238 : gP 218 238 = some (.aload 0, 1, 0, 0) := by decide +kernel
theorem c218_239 : gP 218 239 = some (.iload 4, 2, 0, 0) := by decide +kernel
theorem c218_241 : gP 218 241 = some (.iconst 1, 1, 0, 0) := by decide +kernel
theorem c218_242 : gP 218 242 = some (.iadd, 1, 0, 0) := by decide +kernel
theorem c218_243 : gP 218 243 = some (.iaload, 1, 0, 0) := by decide +kernel
theorem c218_244 : gP 218 244 = some (.aload 0, 1, 0, 0) := by decide +kernel
theorem c218_245 : gP 218 245 = some (.iload 4, 2, 0, 0) := by decide +kernel
theorem c218_247 : gP 218 247 = some (.iconst 2, 1, 0, 0) := by decide +kernel
theorem c218_248 : gP 218 248 = some (.iadd, 1, 0, 0) := by decide +kernel
theorem c218_249 : gP 218 249 = some (.iaload, 1, 0, 0) := by decide +kernel
theorem c218_250 : gP 218 250 = some (.aload 3, 1, 0, 0) := by decide +kernel
theorem c218_251 : gP 218 251 = some (.invokeinterface 159 87, 3, 4, 0) := by decide +kernel
theorem c218_254 : gP 218 254 = some (.istore 5, 2, 0, 0) := by decide +kernel
theorem c218_256 : gP 218 256 = some (.aload 2, 1, 0, 0) := by decide +kernel
theorem c218_257 : gP 218 257 = some (.aload 0, 1, 0, 0) := by decide +kernel
theorem c218_258 : gP 218 258 = some (.iload 4, 2, 0, 0) := by decide +kernel
theorem c218_260 : gP 218 260 = some (.iconst 1, 1, 0, 0) := by decide +kernel
theorem c218_261 : gP 218 261 = some (.iadd, 1, 0, 0) := by decide +kernel
theorem c218_262 : gP 218 262 = some (.iaload, 1, 0, 0) := by decide +kernel
theorem c218_263 : gP 218 263 = some (.aload 0, 1, 0, 0) := by decide +kernel
theorem c218_264 : gP 218 264 = some (.iload 4, 2, 0, 0) := by decide +kernel
theorem c218_266 : gP 218 266 = some (.iconst 2, 1, 0, 0) := by decide +kernel
theorem c218_267 : gP 218 267 = some (.iadd, 1, 0, 0) := by decide +kernel
theorem c218_268 : gP 218 268 = some (.iaload, 1, 0, 0) := by decide +kernel
theorem c218_269 : gP 218 269 = some (.invokeinterface 163 90, 3, 3, 1) := by decide +kernel
theorem c218_272 : gP 218 272 = some (.istore 6, 2, 0, 0) := by decide +kernel
theorem c218_274 : gP 218 274 = some (.goto 617, 3, 0, 0) := by decide +kernel
theorem c218_277 : gP 218 277 = some (.aload 1, 1, 0, 0) := by decide +kernel
theorem c218_278 : gP 218 278 = some (.aload 0, 1, 0, 0) := by decide +kernel
theorem c218_279 : gP 218 279 = some (.iload 4, 2, 0, 0) := by decide +kernel
theorem c218_281 : gP 218 281 = some (.iconst 1, 1, 0, 0) := by decide +kernel
theorem c218_282 : gP 218 282 = some (.iadd, 1, 0, 0) := by decide +kernel
theorem c218_283 : gP 218 283 = some (.iaload, 1, 0, 0) := by decide +kernel
theorem c218_284 : gP 218 284 = some (.aload 0, 1, 0, 0) := by decide +kernel
theorem c218_285 : gP 218 285 = some (.iload 4, 2, 0, 0) := by decide +kernel
theorem c218_287 : gP 218 287 = some (.iconst 2, 1, 0, 0) := by decide +kernel
theorem c218_288 : gP 218 288 = some (.iadd, 1, 0, 0) := by decide +kernel
theorem c218_289 : gP 218 289 = some (.iaload, 1, 0, 0) := by decide +kernel
theorem c218_290 : gP 218 290 = some (.aload 0, 1, 0, 0) := by decide +kernel
theorem c218_291 : gP 218 291 = some (.iload 4, 2, 0, 0) := by decide +kernel
theorem c218_293 : gP 218 293 = some (.iconst 3, 1, 0, 0) := by decide +kernel
theorem c218_294 : gP 218 294 = some (.iadd, 1, 0, 0) := by decide +kernel
theorem c218_295 : gP 218 295 = some (.iaload, 1, 0, 0) := by decide +kernel
theorem c218_296 : gP 218 296 = some (.aload 3, 1, 0, 0) := by decide +kernel
theorem c218_297 : gP 218 297 = some (.invokeinterface 165 91, 3, 5, 0) := by decide +kernel
theorem c218_300 : gP 218 300 = some (.istore 5, 2, 0, 0) := by decide +kernel
theorem c218_302 : gP 218 302 = some (.aload 2, 1, 0, 0) := by decide +kernel
theorem c218_303 : gP 218 303 = some (.aload 0, 1, 0, 0) := by decide +kernel
theorem c218_304 : gP 218 304 = some (.iload 4, 2, 0, 0) := by decide +kernel
theorem c218_306 : gP 218 306 = some (.iconst 1, 1, 0, 0) := by decide +kernel
theorem c218_307 : gP 218 307 = some (.iadd, 1, 0, 0) := by decide +kernel
theorem c218_308 : gP 218 308 = some (.iaload, 1, 0, 0) := by decide +kernel
theorem c218_309 : gP 218 309 = some (.aload 0, 1, 0, 0) := by decide +kernel
theorem c218_310 : gP 218 310 = some (.iload 4, 2, 0, 0) := by decide +kernel
theorem c218_312 : gP 218 312 = some (.iconst 2, 1, 0, 0) := by decide +kernel
theorem c218_313 : gP 218 313 = some (.iadd, 1, 0, 0) := by decide +kernel
theorem c218_314 : gP 218 314 = some (.iaload, 1, 0, 0) := by decide +kernel
theorem c218_315 : gP 218 315 = some (.aload 0, 1, 0, 0) := by decide +kernel
theorem c218_316 : gP 218 316 = some (.iload 4, 2, 0, 0) := by decide +kernel
theorem c218_318 : gP 218 318 = some (.iconst 3, 1, 0, 0) := by decide +kernel
theorem c218_319 : gP 218 319 = some (.iadd, 1, 0, 0) := by decide +kernel
theorem c218_320 : gP 218 320 = some (.iaload, 1, 0, 0) := by decide +kernel
theorem c218_321 : gP 218 321 = some (.invokeinterface 166 94, 3, 4, 1) := by decide +kernel
theorem c218_324 : gP 218 324 = some (.istore 6, 2, 0, 0) := by decide +kernel
theorem c218_326 : gP 218 326 = some (.goto 617, 3, 0, 0) := by decide +kernel
theorem c218_329 : gP 218 329 = some (.aload 1, 1, 0, 0) := by decide +kernel
theorem c218_330 : gP 218 330 = some (.aload 0, 1, 0, 0) := by decide +kernel
theorem c218_331 : gP 218 331 = some (.iload 4, 2, 0, 0) := by decide +kernel
theorem c218_333 : gP 218 333 = some (.iconst 1, 1, 0, 0) := by decide +kernel
theorem c218_334 : gP 218 334 = some (.iadd, 1, 0, 0) := by decide +kernel
theorem c218_335 : gP 218 335 = some (.iaload, 1, 0, 0) := by decide +kernel
theorem c218_336 : gP 218 336 = some (.aload 0, 1, 0, 0) := by decide +kernel
theorem c218_337 : gP 218 337 = some (.iload 4, 2, 0, 0) := by decide +kernel
theorem c218_339 : gP 218 339 = some (.iconst 2, 1, 0, 0) := by decide +kernel
theorem c218_340 : gP 218 340 = some (.iadd, 1, 0, 0) := by decide +kernel
theorem c218_341 : gP 218 341 = some (.iaload, 1, 0, 0) := by decide +kernel
theorem c218_342 : gP 218 342 = some (.aload 3, 1, 0, 0) := by decide +kernel
theorem c218_343 : gP 218 343 = some (.invokeinterface 169 95, 3, 4, 0) := by decide +kernel
theorem c218_346 : gP 218 346 = some (.istore 5, 2, 0, 0) := by decide +kernel
theorem c218_348 : gP 218 348 = some (.aload 2, 1, 0, 0) := by decide +kernel
theorem c218_349 : gP 218 349 = some (.aload 0, 1, 0, 0) := by decide +kernel
theorem c218_350 : gP 218 350 = some (.iload 4, 2, 0, 0) := by decide +kernel
theorem c218_352 : gP 218 352 = some (.iconst 1, 1, 0, 0) := by decide +kernel
theorem c218_353 : gP 218 353 = some (.iadd, 1, 0, 0) := by decide +kernel
theorem c218_354 : gP 218 354 = some (.iaload, 1, 0, 0) := by decide +kernel
theorem c218_355 : gP 218 355 = some (.aload 0, 1, 0, 0) := by decide +kernel
theorem c218_356 : gP 218 356 = some (.iload 4, 2, 0, 0) := by decide +kernel
theorem c218_358 : gP 218 358 = some (.iconst 2, 1, 0, 0) := by decide +kernel
theorem c218_359 : gP 218 359 = some (.iadd, 1, 0, 0) := by decide +kernel
theorem c218_360 : gP 218 360 = some (.iaload, 1, 0, 0) := by decide +kernel
theorem c218_361 : gP 218 361 = some (.invokeinterface 171 97, 3, 3, 1) := by decide +kernel
theorem c218_364 : gP 218 364 = some (.istore 6, 2, 0, 0) := by decide +kernel
theorem c218_366 : gP 218 366 = some (.goto 617, 3, 0, 0) := by decide +kernel
theorem c218_369 : gP 218 369 = some (.aload 1, 1, 0, 0) := by decide +kernel
theorem c218_370 : gP 218 370 = some (.aload 0, 1, 0, 0) := by decide +kernel
theorem c218_371 : gP 218 371 = some (.iload 4, 2, 0, 0) := by decide +kernel
theorem c218_373 : gP 218 373 = some (.iconst 1, 1, 0, 0) := by decide +kernel
theorem c218_374 : gP 218 374 = some (.iadd, 1, 0, 0) := by decide +kernel
theorem c218_375 : gP 218 375 = some (.iaload, 1, 0, 0) := by decide +kernel
theorem c218_376 : gP 218 376 = some (.aload 3, 1, 0, 0) := by decide +kernel
theorem c218_377 : gP 218 377 = some (.invokeinterface 173 98, 3, 3, 0) := by decide +kernel
theorem c218_380 : gP 218 380 = some (.istore 5, 2, 0, 0) := by decide +kernel
theorem c218_382 : gP 218 382 = some (.aload 2, 1, 0, 0) := by decide +kernel
theorem c218_383 : gP 218 383 = some (.aload 0, 1, 0, 0) := by decide +kernel
theorem c218_384 : gP 218 384 = some (.iload 4, 2, 0, 0) := by decide +kernel
theorem c218_386 : gP 218 386 = some (.iconst 1, 1, 0, 0) := by decide +kernel
theorem c218_387 : gP 218 387 = some (.iadd, 1, 0, 0) := by decide +kernel
theorem c218_388 : gP 218 388 = some (.iaload, 1, 0, 0) := by decide +kernel
theorem c218_389 : gP 218 389 = some (.invokeinterface 174 100, 3, 2, 1) := by decide +kernel
theorem c218_392 : gP 218 392 = some (.istore 6, 2, 0, 0) := by decide +kernel
theorem c218_394 : gP 218 394 = some (.goto 617, 3, 0, 0) := by decide +kernel
theorem c218_397 : gP 218 397 = some (.aload 1, 1, 0, 0) := by decide +kernel
theorem c218_398 : gP 218 398 = some (.aload 0, 1, 0, 0) := by decide +kernel
theorem c218_399 : gP 218 399 = some (.iload 4, 2, 0, 0) := by decide +kernel
theorem c218_401 : gP 218 401 = some (.iconst 1, 1, 0, 0) := by decide +kernel
theorem c218_402 : gP 218 402 = some (.iadd, 1, 0, 0) := by decide +kernel
theorem c218_403 : gP 218 403 = some (.iaload, 1, 0, 0) := by decide +kernel
theorem c218_404 : gP 218 404 = some (.aload 3, 1, 0, 0) := by decide +kernel
theorem c218_405 : gP 218 405 = some (.invokeinterface 177 101, 3, 3, 0) := by decide +kernel
theorem c218_408 : gP 218 408 = some (.istore 5, 2, 0, 0) := by decide +kernel
theorem c218_410 : gP 218 410 = some (.aload 2, 1, 0, 0) := by decide +kernel
theorem c218_411 : gP 218 411 = some (.aload 0, 1, 0, 0) := by decide +kernel
theorem c218_412 : gP 218 412 = some (.iload 4, 2, 0, 0) := by decide +kernel
theorem c218_414 : gP 218 414 = some (.iconst 1, 1, 0, 0) := by decide +kernel
theorem c218_415 : gP 218 415 = some (.iadd, 1, 0, 0) := by decide +kernel
theorem c218_416 : gP 218 416 = some (.iaload, 1, 0, 0) := by decide +kernel
theorem c218_417 : gP 218 417 = some (.invokeinterface 178 103, 3, 2, 1) := by decide +kernel
theorem c218_420 : gP 218 420 = some (.istore 6, 2, 0, 0) := by decide +kernel
theorem c218_422 : gP 218 422 = some (.goto 617, 3, 0, 0) := by decide +kernel
theorem c218_425 : gP 218 425 = some (.aload 1, 1, 0, 0) := by decide +kernel
theorem c218_426 : gP 218 426 = some (.aload 0, 1, 0, 0) := by decide +kernel
theorem c218_427 : gP 218 427 = some (.iload 4, 2, 0, 0) := by decide +kernel
theorem c218_429 : gP 218 429 = some (.iconst 1, 1, 0, 0) := by decide +kernel
theorem c218_430 : gP 218 430 = some (.iadd, 1, 0, 0) := by decide +kernel
theorem c218_431 : gP 218 431 = some (.iaload, 1, 0, 0) := by decide +kernel
theorem c218_432 : gP 218 432 = some (.aload 0, 1, 0, 0) := by decide +kernel
theorem c218_433 : gP 218 433 = some (.iload 4, 2, 0, 0) := by decide +kernel
theorem c218_435 : gP 218 435 = some (.iconst 2, 1, 0, 0) := by decide +kernel
theorem c218_436 : gP 218 436 = some (.iadd, 1, 0, 0) := by decide +kernel
theorem c218_437 : gP 218 437 = some (.iaload, 1, 0, 0) := by decide +kernel
theorem c218_438 : gP 218 438 = some (.aload 3, 1, 0, 0) := by decide +kernel
theorem c218_439 : gP 218 439 = some (.invokeinterface 181 104, 3, 4, 0) := by decide +kernel
theorem c218_442 : gP 218 442 = some (.istore 5, 2, 0, 0) := by decide +kernel
theorem c218_444 : gP 218 444 = some (.aload 2, 1, 0, 0) := by decide +kernel
theorem c218_445 : gP 218 445 = some (.aload 0, 1, 0, 0) := by decide +kernel
theorem c218_446 : gP 218 446 = some (.iload 4, 2, 0, 0) := by decide +kernel
theorem c218_448 : gP 218 448 = some (.iconst 1, 1, 0, 0) := by decide +kernel
theorem c218_449 : gP 218 449 = some (.iadd, 1, 0, 0) := by decide +kernel
theorem c218_450 : gP 218 450 = some (.iaload, 1, 0, 0) := by decide +kernel
theorem c218_451 : gP 218 451 = some (.aload 0, 1, 0, 0) := by decide +kernel
theorem c218_452 : gP 218 452 = some (.iload 4, 2, 0, 0) := by decide +kernel
theorem c218_454 : gP 218 454 = some (.iconst 2, 1, 0, 0) := by decide +kernel
theorem c218_455 : gP 218 455 = some (.iadd, 1, 0, 0) := by decide +kernel
theorem c218_456 : gP 218 456 = some (.iaload, 1, 0, 0) := by decide +kernel
theorem c218_457 : gP 218 457 = some (.invokeinterface 182 106, 3, 3, 1) := by decide +kernel
theorem c218_460 : gP 218 460 = some (.istore 6, 2, 0, 0) := by decide +kernel
theorem c218_462 : gP 218 462 = some (.goto 617, 3, 0, 0) := by decide +kernel
theorem c218_465 : gP 218 465 = some (.aload 1, 1, 0, 0) := by decide +kernel
theorem c218_466 : gP 218 466 = some (.aload 0, 1, 0, 0) := by decide +kernel
theorem c218_467 : gP 218 467 = some (.iload 4, 2, 0, 0) := by decide +kernel
theorem c218_469 : gP 218 469 = some (.iconst 1, 1, 0, 0) := by decide +kernel
theorem c218_470 : gP 218 470 = some (.iadd, 1, 0, 0) := by decide +kernel
theorem c218_471 : gP 218 471 = some (.iaload, 1, 0, 0) := by decide +kernel
theorem c218_472 : gP 218 472 = some (.aload 0, 1, 0, 0) := by decide +kernel
theorem c218_473 : gP 218 473 = some (.iload 4, 2, 0, 0) := by decide +kernel
theorem c218_475 : gP 218 475 = some (.iconst 2, 1, 0, 0) := by decide +kernel
theorem c218_476 : gP 218 476 = some (.iadd, 1, 0, 0) := by decide +kernel
theorem c218_477 : gP 218 477 = some (.iaload, 1, 0, 0) := by decide +kernel
theorem c218_478 : gP 218 478 = some (.aload 3, 1, 0, 0) := by decide +kernel
theorem c218_479 : gP 218 479 = some (.invokeinterface 184 107, 3, 4, 0) := by decide +kernel
theorem c218_482 : gP 218 482 = some (.istore 5, 2, 0, 0) := by decide +kernel
theorem c218_484 : gP 218 484 = some (.aload 2, 1, 0, 0) := by decide +kernel
theorem c218_485 : gP 218 485 = some (.aload 0, 1, 0, 0) := by decide +kernel
theorem c218_486 : gP 218 486 = some (.iload 4, 2, 0, 0) := by decide +kernel
theorem c218_488 : gP 218 488 = some (.iconst 1, 1, 0, 0) := by decide +kernel
theorem c218_489 : gP 218 489 = some (.iadd, 1, 0, 0) := by decide +kernel
theorem c218_490 : gP 218 490 = some (.iaload, 1, 0, 0) := by decide +kernel
theorem c218_491 : gP 218 491 = some (.aload 0, 1, 0, 0) := by decide +kernel
theorem c218_492 : gP 218 492 = some (.iload 4, 2, 0, 0) := by decide +kernel
theorem c218_494 : gP 218 494 = some (.iconst 2, 1, 0, 0) := by decide +kernel
theorem c218_495 : gP 218 495 = some (.iadd, 1, 0, 0) := by decide +kernel
theorem c218_496 : gP 218 496 = some (.iaload, 1, 0, 0) := by decide +kernel
theorem c218_497 : gP 218 497 = some (.invokeinterface 185 109, 3, 3, 1) := by decide +kernel
theorem c218_500 : gP 218 500 = some (.istore 6, 2, 0, 0) := by decide +kernel
theorem c218_502 : gP 218 502 = some (.goto 617, 3, 0, 0) := by decide +kernel
theorem c218_505 : gP 218 505 = some (.aload 1, 1, 0, 0) := by decide +kernel
theorem c218_506 : gP 218 506 = some (.aload 3, 1, 0, 0) := by decide +kernel
theorem c218_507 : gP 218 507 = some (.invokeinterface 200 110, 3, 2, 0) := by decide +kernel
theorem c218_510 : gP 218 510 = some (.istore 5, 2, 0, 0) := by decide +kernel
theorem c218_512 : gP 218 512 = some (.aload 2, 1, 0, 0) := by decide +kernel
theorem c218_513 : gP 218 513 = some (.invokeinterface 211 112, 3, 1, 1) := by decide +kernel
theorem c218_516 : gP 218 516 = some (.istore 6, 2, 0, 0) := by decide +kernel
theorem c218_518 : gP 218 518 = some (.goto 617, 3, 0, 0) := by decide +kernel
theorem c218_521 : gP 218 521 = some (.aload 1, 1, 0, 0) := by decide +kernel
theorem c218_522 : gP 218 522 = some (.aload 0, 1, 0, 0) := by decide +kernel
theorem c218_523 : gP 218 523 = some (.iload 4, 2, 0, 0) := by decide +kernel
theorem c218_525 : gP 218 525 = some (.iconst 1, 1, 0, 0) := by decide +kernel
theorem c218_526 : gP 218 526 = some (.iadd, 1, 0, 0) := by decide +kernel
theorem c218_527 : gP 218 527 = some (.iaload, 1, 0, 0) := by decide +kernel
theorem c218_528 : gP 218 528 = some (.aload 0, 1, 0, 0) := by decide +kernel
theorem c218_529 : gP 218 529 = some (.iload 4, 2, 0, 0) := by decide +kernel
theorem c218_531 : gP 218 531 = some (.iconst 2, 1, 0, 0) := by decide +kernel
theorem c218_532 : gP 218 532 = some (.iadd, 1, 0, 0) := by decide +kernel
theorem c218_533 : gP 218 533 = some (.iaload, 1, 0, 0) := by decide +kernel
theorem c218_534 : gP 218 534 = some (.aload 3, 1, 0, 0) := by decide +kernel
theorem c218_535 : gP 218 535 = some (.invokeinterface 213 113, 3, 4, 0) := by decide +kernel
theorem c218_538 : gP 218 538 = some (.istore 5, 2, 0, 0) := by decide +kernel
theorem c218_540 : gP 218 540 = some (.aload 2, 1, 0, 0) := by decide +kernel
theorem c218_541 : gP 218 541 = some (.aload 0, 1, 0, 0) := by decide +kernel
theorem c218_542 : gP 218 542 = some (.iload 4, 2, 0, 0) := by decide +kernel
theorem c218_544 : gP 218 544 = some (.iconst 1, 1, 0, 0) := by decide +kernel
theorem c218_545 : gP 218 545 = some (.iadd, 1, 0, 0) := by decide +kernel
theorem c218_546 : gP 218 546 = some (.iaload, 1, 0, 0) := by decide +kernel
theorem c218_547 : gP 218 547 = some (.aload 0, 1, 0, 0) := by decide +kernel
theorem c218_548 : gP 218 548 = some (.iload 4, 2, 0, 0) := by decide +kernel
theorem c218_550 : gP 218 550 = some (.iconst 2, 1, 0, 0) := by decide +kernel
theorem c218_551 : gP 218 551 = some (.iadd, 1, 0, 0) := by decide +kernel
theorem c218_552 : gP 218 552 = some (.iaload, 1, 0, 0) := by decide +kernel
theorem c218_553 : gP 218 553 = some (.invokeinterface 214 115, 3, 3, 1) := by decide +kernel
theorem c218_556 : gP 218 556 = some (.istore 6, 2, 0, 0) := by decide +kernel
theorem c218_558 : gP 218 558 = some (.aload 2, 1, 0, 0) := by decide +kernel
theorem c218_559 : gP 218 559 = some (.invokeinterface 26 116, 3, 1, 1) := by decide +kernel
theorem c218_562 : gP 218 562 = some (.iload 5, 2, 0, 0) := by decide +kernel
theorem c218_564 : gP 218 564 = some (.if_icmp .eq 569, 3, 0, 0) := by decide +kernel
theorem c218_567 : gP 218 567 = some (.iconst 0, 1, 0, 0) := by decide +kernel
theorem c218_568 : gP 218 568 = some (.ireturn, 1, 1, 0) := by decide +kernel
theorem c218_569 : gP 218 569 = some (.iload 5, 2, 0, 0) := by decide +kernel
theorem c218_571 : gP 218 571 = some (.ifCond .ne 586, 3, 0, 0) := by decide +kernel
theorem c218_574 : gP 218 574 = some (.aload 3, 1, 0, 0) := by decide +kernel
theorem c218_575 : gP 218 575 = some (.iconst 0, 1, 0, 0) := by decide +kernel
theorem c218_576 : gP 218 576 = some (.laload, 1, 0, 0) := by decide +kernel
theorem c218_577 : gP 218 577 = some (.iload 6, 2, 0, 0) := by decide +kernel
theorem c218_579 : gP 218 579 = some (.i2l, 1, 0, 0) := by decide +kernel
theorem c218_580 : gP 218 580 = some (.lcmp, 1, 0, 0) := by decide +kernel
theorem c218_581 : gP 218 581 = some (.ifCond .eq 586, 3, 0, 0) := by decide +kernel
theorem c218_584 : gP 218 584 = some (.iconst 0, 1, 0, 0) := by decide +kernel
theorem c218_585 : gP 218 585 = some (.ireturn, 1, 1, 0) := by decide +kernel
theorem c218_586 : gP 218 586 = some (.goto 617, 3, 0, 0) := by decide +kernel
theorem c218_589 : gP 218 589 = some (.aload 1, 1, 0, 0) := by decide +kernel
theorem c218_590 : gP 218 590 = some (.aload 0, 1, 0, 0) := by decide +kernel
theorem c218_591 : gP 218 591 = some (.iload 4, 2, 0, 0) := by decide +kernel
theorem c218_593 : gP 218 593 = some (.iconst 1, 1, 0, 0) := by decide +kernel
theorem c218_594 : gP 218 594 = some (.iadd, 1, 0, 0) := by decide +kernel
theorem c218_595 : gP 218 595 = some (.iaload, 1, 0, 0) := by decide +kernel
theorem c218_596 : gP 218 596 = some (.aload 3, 1, 0, 0) := by decide +kernel
theorem c218_597 : gP 218 597 = some (.invokeinterface 216 119, 3, 3, 0) := by decide +kernel
theorem c218_600 : gP 218 600 = some (.istore 5, 2, 0, 0) := by decide +kernel
theorem c218_602 : gP 218 602 = some (.aload 2, 1, 0, 0) := by decide +kernel
theorem c218_603 : gP 218 603 = some (.aload 0, 1, 0, 0) := by decide +kernel
theorem c218_604 : gP 218 604 = some (.iload 4, 2, 0, 0) := by decide +kernel
theorem c218_606 : gP 218 606 = some (.iconst 1, 1, 0, 0) := by decide +kernel
theorem c218_607 : gP 218 607 = some (.iadd, 1, 0, 0) := by decide +kernel
theorem c218_608 : gP 218 608 = some (.iaload, 1, 0, 0) := by decide +kernel
theorem c218_609 : gP 218 609 = some (.invokeinterface 217 121, 3, 2, 1) := by decide +kernel
theorem c218_612 : gP 218 612 = some (.istore 6, 2, 0, 0) := by decide +kernel
theorem c218_614 : gP 218 614 = some (.goto 617, 3, 0, 0) := by decide +kernel
theorem c218_617 : gP 218 617 = some (.iinc 4 4, 3, 0, 0) := by decide +kernel
theorem c218_620 : gP 218 620 = some (.goto 23, 3, 0, 0) := by decide +kernel
theorem c218_623 : gP 218 623 = some (.iconst 1, 1, 0, 0) := by decide +kernel
theorem c218_624 : gP 218 624 = some (.ireturn, 1, 1, 0) := by decide +kernel
theorem km16 : gMc 16 = some 7 := by decide +kernel
theorem kn16 : gMx 16 = 1 := by decide +kernel
theorem km17 : gMc 17 = some 8 := by decide +kernel
theorem kn17 : gMx 17 = 1 := by decide +kernel
end
section
/-! APPEND, with the types of places. Printed by wip/whole/gen9k.py out of the parts 75 to 77 -/
theorem t20lT {L : Nat} {xs : Nat → Int32} {d nn : Nat} {m : yM} {v : Int64} {n : Int} (ha : gApp v n) (h0 : 0 ≤ m 0 6) (h1 : m 0 6 + n ≤ 320) : ∀ (j : Nat) (i : Int) (mi : yM), i + j = n + 1 → 1 ≤ i → mi 0 6 = m 0 6 + i - 1 → (∀ a q, a ≠ 1 → ¬ (a = 0 ∧ q = 6) → mi a q = m a q) → (∀ q, q < (m 0 6).toNat → mi 1 q = m 1 q) → (∀ t, 1 ≤ t → t < i → mi 1 (m 0 6 + t - 1).toNat = bC v (n - t)) → Ty gT mi → YW (gZ L xs) 20 (d + 2) 50 [some (.ref 0), some (.long v), none, some (yI n), some (yI i)] [] mi nn (qT (fun r m' n' => n' = nn ∧ gApp v n ∧ m 0 6 + n ≤ 320 ∧ r = m 0 6 + n ∧ m' 0 6 = r ∧ (∀ a q, a ≠ 1 → ¬ (a = 0 ∧ q = 6) → m' a q = m a q) ∧ (∀ q, q < (m 0 6).toNat → m' 1 q = m 1 q) ∧ (∀ t, 1 ≤ t → t ≤ n → m' 1 (m 0 6 + t - 1).toNat = bC v (n - t)) ∧ Ty gT m') (fun e m' n' => n' = nn + 1 ∧ m' = m ∧ ((e = 9 ∧ ¬ gApp v n) ∨ (e = 10 ∧ gApp v n ∧ ¬ m 0 6 + n ≤ 320)))) := by
  intro j
  have hn8 := ha.2.1
  have hn1 := ha.1
  induction j with
  | zero =>
    intro i mi hj hi k1 k2 k3 k4 k5
    refine y_iload 52 c20_50 rfl rfl ?_
    refine y_iload 53 c20_52 rfl rfl ?_
    refine y_icmp 90 56 c20_53 rfl rfl (yc_gt (by omega) (by omega)) (fun hb => ?_) (fun hb => ?_)
    · refine y_aload 91 c20_90 rfl rfl rfl ?_
      refine y_getI 94 c20_91 rfl kf0_6 ?_
      exact y_retT c20_94 (y_fit0 _) ⟨rfl, ha, h1, by omega, rfl, k2, k3, fun t t1 t2 => k4 t t1 (by omega), k5⟩
    · exfalso; omega
  | succ j ih =>
    intro i mi hj hi k1 k2 k3 k4 k5
    have hb0 := bC_rng v (n - i)
    refine y_iload 52 c20_50 rfl rfl ?_
    refine y_iload 53 c20_52 rfl rfl ?_
    refine y_icmp 90 56 c20_53 rfl rfl (yc_gt (by omega) (by omega)) (fun hb => ?_) (fun hb => ?_)
    · refine y_aload 91 c20_90 rfl rfl rfl ?_
      refine y_getX 94 (mi 0 6) c20_91 rfl kf0_6 rfl ?_
      exfalso; omega
    · refine y_aload 57 c20_56 rfl rfl rfl ?_
      refine y_getR 60 c20_57 rfl kf0_0 ?_
      refine y_aload 61 c20_60 rfl rfl rfl ?_
      refine y_getX 64 (mi 0 6) c20_61 rfl kf0_6 rfl ?_
      refine y_lload 65 c20_64 rfl rfl ?_
      refine y_iload 66 c20_65 rfl rfl ?_
      refine y_iload 68 c20_66 rfl rfl ?_
      refine y_isub 69 c20_68 rfl ?_
      refine y_callP 72 [.long v, yI (n - i)] [yI (mi 0 6), .ref 1] c20_69 rfl rfl rfl rfl rfl (ycanS km18) t18 (fun r15 hr15 => ?_)
      subst hr15
      refine y_i2cN 73 c20_72 rfl (by omega) ?_
      refine y_iastore 74 c20_73 rfl ka1 (by omega) (y_nar3 (by omega)) ?_
      refine y_aload 75 c20_74 rfl rfl rfl ?_
      refine y_dup 76 c20_75 rfl rfl ?_
      refine y_getX 79 (mi 0 6) c20_76 rfl kf0_6 rfl ?_
      refine y_iconst 80 c20_79 rfl ?_
      refine y_iadd 81 c20_80 rfl ?_
      refine y_putI 84 c20_81 rfl kf0_6 (y_fit0 _) ?_
      refine y_iinc 87 c20_84 rfl rfl rfl ?_
      refine y_goto 50 c20_87 rfl ?_
      refine ih (i + 1) _ (by omega) (by omega) ?_ ?_ ?_ ?_ ((k5.up 1 _ _ 0 65535 rfl (by omega)).up 0 6 _ 0 320 rfl (by omega))
      · simp only [yup_eq]; omega
      · intro a q h2 h3
        rw [yup_ne h3, yup_na h2]
        exact k2 a q h2 h3
      · intro q hq
        rw [yup_na (by decide), yup_nk (by omega)]
        exact k3 q hq
      · intro t h2 h3
        rw [yup_na (by decide)]
        by_cases e : t = i
        · subst e
          rw [show (m 0 6 + t - 1).toNat = (mi 0 6).toNat by omega, yup_eq]
        · rw [yup_nk (by omega)]
          exact k4 t h2 (by omega)

theorem t20T {L : Nat} {xs : Nat → Int32} {d nn : Nat} {m : yM} {v : Int64} {n : Int} (hT : Ty gT m) (h0 : 0 ≤ m 0 6) (h1 : m 0 6 ≤ 320) (hn : -2147483648 ≤ n ∧ n < 2147483648) : YC (gZ L xs) (d + 2) 20 [.ref 0, .long v, yI n] m nn (qT (fun r m' n' => n' = nn ∧ gApp v n ∧ m 0 6 + n ≤ 320 ∧ r = m 0 6 + n ∧ m' 0 6 = r ∧ (∀ a q, a ≠ 1 → ¬ (a = 0 ∧ q = 6) → m' a q = m a q) ∧ (∀ q, q < (m 0 6).toNat → m' 1 q = m 1 q) ∧ (∀ t, 1 ≤ t → t ≤ n → m' 1 (m 0 6 + t - 1).toNat = bC v (n - t)) ∧ Ty gT m') (fun e m' n' => n' = nn + 1 ∧ m' = m ∧ ((e = 9 ∧ ¬ gApp v n) ∨ (e = 10 ∧ gApp v n ∧ ¬ m 0 6 + n ≤ 320)))) := by
  refine YC.mkB [some (.ref 0), some (.long v), none, some (yI n), none] kn20 rfl rfl ?_
  refine y_iload 1 c20_0 rfl rfl ?_
  refine y_iconst 2 c20_1 rfl ?_
  refine y_icmp 19 5 c20_2 rfl rfl (yc_lt (by omega) (by omega)) (fun hb => ?_) (fun hb => ?_)
  · exact y_thrT c20_19 rfl ⟨rfl, rfl, Or.inl ⟨rfl, fun hq => by
      obtain ⟨q1, q2, q3⟩ := hq
      first | omega | (rcases hrr with ⟨e, -⟩ | ⟨e, e2⟩ <;> first | omega | exact e2 q3)⟩⟩
  · refine y_iload 6 c20_5 rfl rfl ?_
    refine y_iconst 8 c20_6 rfl ?_
    refine y_icmp 19 11 c20_8 rfl rfl (yc_gt (by omega) (by omega)) (fun hb => ?_) (fun hb => ?_)
    · exact y_thrT c20_19 rfl ⟨rfl, rfl, Or.inl ⟨rfl, fun hq => by
        obtain ⟨q1, q2, q3⟩ := hq
        first | omega | (rcases hrr with ⟨e, -⟩ | ⟨e, e2⟩ <;> first | omega | exact e2 q3)⟩⟩
    · refine y_lload 12 c20_11 rfl rfl ?_
      refine y_iload 13 c20_12 rfl rfl ?_
      refine y_callP 16 [.long v, yI n] [] c20_13 rfl rfl rfl rfl rfl (ycanS km19) (t19 (by omega)) (fun r12 hr12 => ?_)
      have hrr := hr12
      refine y_if 27 19 c20_16 rfl rfl (yz_ne (by omega)) (fun hb => ?_) (fun hb => ?_)
      · have hgd : gGood v n := by
          rcases hrr with ⟨-, e⟩ | ⟨e, -⟩
          · exact e
          · omega
        refine y_aload 28 c20_27 rfl rfl rfl ?_
        refine y_getX 31 (m 0 6) c20_28 rfl kf0_6 rfl ?_
        refine y_iload 32 c20_31 rfl rfl ?_
        refine y_iadd 33 c20_32 rfl ?_
        refine y_iconst 36 c20_33 rfl ?_
        refine y_icmp 47 39 c20_36 rfl rfl (yc_le (by omega) (by omega)) (fun hb => ?_) (fun hb => ?_)
        · refine y_iconst 48 c20_47 rfl ?_
          refine y_istore 50 c20_48 rfl rfl ?_
          exact t20lT ⟨by omega, by omega, hgd⟩ h0 (by omega) n.toNat 1 m (by omega) (by omega) (by omega) (fun a q _ _ => rfl) (fun q _ => rfl) (fun t h2 h3 => by omega) hT
        · exact y_thrT c20_39 rfl ⟨rfl, rfl, Or.inr ⟨rfl, ⟨by omega, by omega, hgd⟩, by omega⟩⟩
      · exact y_thrT c20_19 rfl ⟨rfl, rfl, Or.inl ⟨rfl, fun hq => by
          obtain ⟨q1, q2, q3⟩ := hq
          first | omega | (rcases hrr with ⟨e, -⟩ | ⟨e, e2⟩ <;> first | omega | exact e2 q3)⟩⟩

theorem t21T {L : Nat} {xs : Nat → Int32} {d nn : Nat} {m : yM} {v : Int64} {n : Int} (hT : Ty gT m) (h0 : 0 ≤ m 0 6) (h1 : m 0 6 ≤ 320) (hn : -2147483648 ≤ n ∧ n < 2147483648) : YC (gZ L xs) (d + 3) 21 [.ref 0, .long v, yI n, .ref 413] m nn (qI (fun r m' n' => (r = 1 ∧ ¬ gApp v n ∧ m' = m ∧ n' = nn + 1) ∨ (r = 2 ∧ gApp v n ∧ ¬ m 0 6 + n ≤ 320 ∧ m' = m ∧ n' = nn + 1) ∨ (r = 0 ∧ gApp v n ∧ m 0 6 + n ≤ 320 ∧ n' = nn ∧ ∃ m1, m' = yup m1 413 0 (m 0 6 + n) ∧ m1 0 6 = m 0 6 + n ∧ (∀ a q, a ≠ 1 → ¬ (a = 0 ∧ q = 6) → m1 a q = m a q) ∧ (∀ q, q < (m 0 6).toNat → m1 1 q = m 1 q) ∧ (∀ t, 1 ≤ t → t ≤ n → m1 1 (m 0 6 + t - 1).toNat = bC v (n - t)) ∧ Ty gT m1))) := by
  refine YC.mkB [some (.ref 0), some (.long v), none, some (yI n), some (.ref 413), none] kn21 rfl rfl ?_
  refine y_aload 2 c21_0 rfl rfl rfl ?_
  refine y_iconst 3 c21_2 rfl ?_
  refine y_aload 4 c21_3 rfl rfl rfl ?_
  refine y_lload 5 c21_4 rfl rfl ?_
  refine y_iload 6 c21_5 rfl rfl ?_
  refine y_callTB 9 [.ref 0, .long v, yI n] [yI 0, .ref 413] c21_6 rfl rfl rfl rfl rfl (ycanO km20 ko0) (t20T hT h0 h1 hn) (fun r m1 n1 hr => ?_) (fun e a m1 n1 he => ?_)
  · obtain ⟨rfl, ha, hf, hr, hl, k2, k3, k4, k5⟩ := hr
    subst hr
    refine y_i2l 10 c21_9 rfl ?_
    refine y_lastoreN 11 (m 0 6 + n) c21_10 rfl kl413 (by decide) (by rw [Int32.toInt_toInt64]; have := ha.1; have := ha.2.1; exact y_rng (by omega)) ?_
    refine y_goto 22 c21_11 rfl ?_
    refine y_iconst 23 c21_22 rfl ?_
    exact y_retI c21_23 (y_fit0 _) (Or.inr (Or.inr ⟨rfl, ha, hf, rfl, m1, rfl, hl, k2, k3, k4, k5⟩))
  · obtain ⟨rfl, rfl, he⟩ := he
    rcases he with ⟨rfl, ha⟩ | ⟨rfl, ha, hf⟩
    · refine Or.inl ⟨14, kh21_6_9, ?_⟩
      refine y_astore 16 c21_14 rfl rfl rfl ?_
      refine y_iconst 17 c21_16 rfl ?_
      exact y_retI c21_17 (y_fit0 _) (Or.inl ⟨rfl, ha, rfl, rfl⟩)
    · refine Or.inl ⟨18, kh21_6_10, ?_⟩
      refine y_astore 20 c21_18 rfl rfl rfl ?_
      refine y_iconst 21 c21_20 rfl ?_
      exact y_retI c21_21 (y_fit0 _) (Or.inr (Or.inl ⟨rfl, ha, hf, rfl, rfl⟩))

theorem t25bT {L : Nat} {xs : Nat → Int32} {d nn : Nat} {m : yM} {v : Int64} {n : Int} (ha : gApp v n) (h0 : 0 ≤ m 376 1) (h1 : m 376 1 + n ≤ 320) : ∀ (j : Nat) (i : Int) (mi : yM), i + 1 = j → i < n → mi 376 57 = 0 → mi 376 1 = m 376 1 + n - 1 - i → (∀ a q, a ≠ 377 → ¬ (a = 376 ∧ (q = 1 ∨ q = 57)) → mi a q = m a q) → (∀ q, q < (m 376 1).toNat → mi 377 q = m 377 q) → (∀ t, 1 ≤ t → t < n - i → mi 377 (m 376 1 + t - 1).toNat = bC v (n - t)) → Ty gT mi → YW (gZ L xs) 25 (d + 1) 92 [some (.ref 376), some (.long v), none, some (yI n), some (yI i)] [] mi nn (qI (fun r m' n' => n' = nn ∧ ((¬ gApp v n ∧ m' = yup m 376 57 1) ∨ (gApp v n ∧ ¬ m 376 1 + n ≤ 320 ∧ m' = yup m 376 57 2) ∨ (gApp v n ∧ m 376 1 + n ≤ 320 ∧ m' 376 57 = 0 ∧ r = m 376 1 + n ∧ m' 376 1 = r ∧ (∀ a q, a ≠ 377 → ¬ (a = 376 ∧ (q = 1 ∨ q = 57)) → m' a q = m a q) ∧ (∀ q, q < (m 376 1).toNat → m' 377 q = m 377 q) ∧ (∀ t, 1 ≤ t → t ≤ n → m' 377 (m 376 1 + t - 1).toNat = bC v (n - t)) ∧ Ty gT m')))) := by
  intro j
  have hn8 := ha.2.1
  have hn1 := ha.1
  induction j with
  | zero =>
    intro i mi hj hi k0 k1 k2 k3 k4 k5
    refine y_iload 94 c25_92 rfl rfl ?_
    refine y_if 134 97 c25_94 rfl rfl (yz_lt (by omega)) (fun hb => ?_) (fun hb => ?_)
    · refine y_aload 135 c25_134 rfl rfl rfl ?_
      refine y_getI 138 c25_135 rfl kf376_1 ?_
      exact y_retI c25_138 (y_fit0 _) ⟨rfl, Or.inr (Or.inr ⟨ha, h1, k0, by omega, rfl, k2, k3, fun t t1 t2 => k4 t t1 (by omega), k5⟩)⟩
    · exfalso; omega
  | succ j ih =>
    intro i mi hj hi k0 k1 k2 k3 k4 k5
    have hb0 := bC_rng v i
    have hbe := rB_eq (v := v) (k := i) (by omega)
    have hb1 : 0 ≤ rB v i ∧ rB v i ≤ 255 := by omega
    refine y_iload 94 c25_92 rfl rfl ?_
    refine y_if 134 97 c25_94 rfl rfl (yz_lt (by omega)) (fun hb => ?_) (fun hb => ?_)
    · refine y_aload 135 c25_134 rfl rfl rfl ?_
      refine y_getX 138 (mi 376 1) c25_135 rfl kf376_1 rfl ?_
      exfalso; omega
    · refine y_aload 98 c25_97 rfl rfl rfl ?_
      refine y_getR 101 c25_98 rfl kf376_0 ?_
      refine y_aload 102 c25_101 rfl rfl rfl ?_
      refine y_getX 105 (mi 376 1) c25_102 rfl kf376_1 rfl ?_
      refine y_lload 106 c25_105 rfl rfl ?_
      refine y_iconst 108 c25_106 rfl ?_
      refine y_iload 110 c25_108 rfl rfl ?_
      refine y_imul 111 c25_110 rfl ?_
      refine y_lshr 112 c25_111 rfl ?_
      refine y_l2i 113 c25_112 rfl ?_
      refine y_iconst 116 c25_113 rfl ?_
      refine y_iand 117 c25_116 rfl ?_
      refine y_iastore 118 c25_117 rfl ka377 (by omega) (y_nar0 _) ?_
      refine y_aload 119 c25_118 rfl rfl rfl ?_
      refine y_dup 120 c25_119 rfl rfl ?_
      refine y_getX 123 (mi 376 1) c25_120 rfl kf376_1 rfl ?_
      refine y_iconst 124 c25_123 rfl ?_
      refine y_iadd 125 c25_124 rfl ?_
      refine y_putI 128 c25_125 rfl kf376_1 (y_fit0 _) ?_
      refine y_iinc 131 c25_128 rfl rfl rfl ?_
      refine y_goto 92 c25_131 rfl ?_
      refine ih (i + (-1)) _ (by omega) (by omega) ?_ ?_ ?_ ?_ ?_ ((k5.up 377 _ _ 0 255 rfl hb1).up 376 1 _ 0 320 rfl (by omega))
      · rw [yup_nk (by decide), yup_na (by decide)]; exact k0
      · simp only [yup_eq]; omega
      · intro a q h2 h3
        rw [yup_ne (fun e => h3 ⟨e.1, Or.inl e.2⟩), yup_na h2]
        exact k2 a q h2 h3
      · intro q hq
        rw [yup_na (by decide), yup_nk (by omega)]
        exact k3 q hq
      · intro t h2 h3
        rw [yup_na (by decide)]
        by_cases e : t = n - i
        · subst e
          rw [show (m 376 1 + (n - i) - 1).toNat = (mi 376 1).toNat by omega, yup_eq]
          rw [show n - (n - i) = i by omega]
          exact hbe
        · rw [yup_nk (by omega)]
          exact k4 t h2 (by omega)

theorem t25aT {L : Nat} {xs : Nat → Int32} {d nn : Nat} {m : yM} {v : Int64} {n : Int} (hT : Ty gT m) (h0 : 0 ≤ m 376 1) (h1 : m 376 1 ≤ 320) (hn : 1 ≤ n ∧ n ≤ 8) : ∀ (j : Nat) (i : Int), i + j = n → 0 ≤ i → (∀ k, 0 ≤ k → k < i → 32 ≤ bC v k ∧ bC v k ≤ 126) → YW (gZ L xs) 25 (d + 1) 20 [some (.ref 376), some (.long v), none, some (yI n), some (yI i)] [] (yup m 376 57 0) nn (qI (fun r m' n' => n' = nn ∧ ((¬ gApp v n ∧ m' = yup m 376 57 1) ∨ (gApp v n ∧ ¬ m 376 1 + n ≤ 320 ∧ m' = yup m 376 57 2) ∨ (gApp v n ∧ m 376 1 + n ≤ 320 ∧ m' 376 57 = 0 ∧ r = m 376 1 + n ∧ m' 376 1 = r ∧ (∀ a q, a ≠ 377 → ¬ (a = 376 ∧ (q = 1 ∨ q = 57)) → m' a q = m a q) ∧ (∀ q, q < (m 376 1).toNat → m' 377 q = m 377 q) ∧ (∀ t, 1 ≤ t → t ≤ n → m' 377 (m 376 1 + t - 1).toNat = bC v (n - t)) ∧ Ty gT m')))) := by
  intro j
  have e1 : yup m 376 57 0 376 1 = m 376 1 := yup_nk (by decide)
  induction j with
  | zero =>
    intro i hj hi hg
    have hb0 := bC_rng v i
    refine y_iload 22 c25_20 rfl rfl ?_
    refine y_iload 23 c25_22 rfl rfl ?_
    refine y_icmp 60 26 c25_23 rfl rfl (yc_ge (by omega) (by omega)) (fun hb => ?_) (fun hb => ?_)
    · have hgd : gGood v n := fun k h2 h3 => hg k h2 (by omega)
      refine y_aload 61 c25_60 rfl rfl rfl ?_
      refine y_aload 62 c25_61 rfl rfl rfl ?_
      refine y_getX 65 ((yup m 376 57 0) 376 1) c25_62 rfl kf376_1 rfl ?_
      refine y_iload 66 c25_65 rfl rfl ?_
      refine y_iadd 67 c25_66 rfl ?_
      refine y_iconst 70 c25_67 rfl ?_
      refine y_icmp 77 73 c25_70 rfl rfl (yc_gt (by omega) (by omega)) (fun hb => ?_) (fun hb => ?_)
      · refine y_iconst 78 c25_77 rfl ?_
        refine y_iconst 79 c25_78 rfl ?_
        refine y_callIB 82 [.ref 376, yI 0, yI 2] [] c25_79 rfl rfl rfl rfl rfl (ycanO km23 ko376) (t23 (by omega)) (fun r15 mr15 nr15 hr15 => ?_)
        obtain ⟨er15, rfl, hr15⟩ := hr15
        refine y_if 87 85 c25_82 rfl rfl (yz_ne (by omega)) (fun hb => ?_) (fun hb => ?_)
        · have hm : mr15 = yup m 376 57 0 := by
            rcases hr15 with ⟨-, q⟩ | ⟨q, -⟩
            · rw [q, yup_yup]
            · omega
          subst hm
          refine y_iload 88 c25_87 rfl rfl ?_
          refine y_iconst 89 c25_88 rfl ?_
          refine y_isub 90 c25_89 rfl ?_
          refine y_istore 92 c25_90 rfl rfl ?_
          exact t25bT ⟨by omega, by omega, hgd⟩ h0 (by omega) n.toNat (n - 1) _ (by omega) (by omega) (yup_eq _ _ _ _) (by omega) (fun a q _ h3 => yup_ne (fun e => h3 ⟨e.1, Or.inr e.2⟩)) (fun q _ => yup_na (by decide)) (fun t h2 h3 => by omega) (hT.up 376 57 0 0 4 rfl (by decide))
        · have hm : mr15 = yup m 376 57 2 := by
            rcases hr15 with ⟨q, -⟩ | ⟨-, q⟩
            · omega
            · rw [q, yup_yup]
          refine y_iconst 86 c25_85 rfl ?_
          exact y_retI c25_86 (y_fit0 _) ⟨rfl, Or.inr (Or.inl ⟨⟨by omega, by omega, hgd⟩, by omega, hm⟩)⟩
      · refine y_iconst 74 c25_73 rfl ?_
        refine y_goto 78 c25_74 rfl ?_
        refine y_iconst 79 c25_78 rfl ?_
        refine y_callIB 82 [.ref 376, yI 1, yI 2] [] c25_79 rfl rfl rfl rfl rfl (ycanO km23 ko376) (t23 (by omega)) (fun r31 mr31 nr31 hr31 => ?_)
        obtain ⟨er31, rfl, hr31⟩ := hr31
        refine y_if 87 85 c25_82 rfl rfl (yz_ne (by omega)) (fun hb => ?_) (fun hb => ?_)
        · have hm : mr31 = yup m 376 57 0 := by
            rcases hr31 with ⟨-, q⟩ | ⟨q, -⟩
            · rw [q, yup_yup]
            · omega
          subst hm
          refine y_iload 88 c25_87 rfl rfl ?_
          refine y_iconst 89 c25_88 rfl ?_
          refine y_isub 90 c25_89 rfl ?_
          refine y_istore 92 c25_90 rfl rfl ?_
          exact t25bT ⟨by omega, by omega, hgd⟩ h0 (by omega) n.toNat (n - 1) _ (by omega) (by omega) (yup_eq _ _ _ _) (by omega) (fun a q _ h3 => yup_ne (fun e => h3 ⟨e.1, Or.inr e.2⟩)) (fun q _ => yup_na (by decide)) (fun t h2 h3 => by omega) (hT.up 376 57 0 0 4 rfl (by decide))
        · have hm : mr31 = yup m 376 57 2 := by
            rcases hr31 with ⟨q, -⟩ | ⟨-, q⟩
            · omega
            · rw [q, yup_yup]
          refine y_iconst 86 c25_85 rfl ?_
          exact y_retI c25_86 (y_fit0 _) ⟨rfl, Or.inr (Or.inl ⟨⟨by omega, by omega, hgd⟩, by omega, hm⟩)⟩
    · exfalso; omega
  | succ j ih =>
    intro i hj hi hg
    have hb0 := bC_rng v i
    have hbe := rB_eq (v := v) (k := i) (by omega)
    unfold rB at hbe
    refine y_iload 22 c25_20 rfl rfl ?_
    refine y_iload 23 c25_22 rfl rfl ?_
    refine y_icmp 60 26 c25_23 rfl rfl (yc_ge (by omega) (by omega)) (fun hb => ?_) (fun hb => ?_)
    · exfalso; omega
    · refine y_lload 27 c25_26 rfl rfl ?_
      refine y_iconst 29 c25_27 rfl ?_
      refine y_iload 31 c25_29 rfl rfl ?_
      refine y_imul 32 c25_31 rfl ?_
      refine y_lshr 33 c25_32 rfl ?_
      refine y_l2i 34 c25_33 rfl ?_
      refine y_iconst 37 c25_34 rfl ?_
      refine y_iand 38 c25_37 rfl ?_
      refine y_iconst 40 c25_38 rfl ?_
      refine y_iconst 42 c25_40 rfl ?_
      refine y_callP 45 [yI ((Int32.ofInt ((v >>> ((Int32.ofInt (8 * i)).toInt64 &&& 63)).toInt32.toInt) &&& Int32.ofInt 255).toInt), yI 32, yI 126] [] c25_42 rfl rfl rfl rfl rfl (ycanS km22) (t22 (by omega) (by omega) (by omega)) (fun r15 hr15 => ?_)
      refine y_if 54 48 c25_45 rfl rfl (yz_ne (by omega)) (fun hb => ?_) (fun hb => ?_)
      · refine y_iinc 57 c25_54 rfl rfl rfl ?_
        refine y_goto 20 c25_57 rfl ?_
        exact ih (i + 1) (by omega) (by omega) (fun k h1 h2 => by
          by_cases e : k < i
          · exact hg k h1 e
          · have : k = i := by omega
            subst this
            omega)
      · refine y_aload 49 c25_48 rfl rfl rfl ?_
        refine y_iconst 50 c25_49 rfl ?_
        refine y_callIB 53 [.ref 376, yI 1] [] c25_50 rfl rfl rfl rfl rfl (ycanO km24 ko376) t24 (fun r23 mr23 nr23 hr23 => ?_)
        obtain ⟨er23, rfl, hr23⟩ := hr23
        exact y_retI c25_53 (y_fit0 _) ⟨rfl, Or.inl ⟨fun hq => by
          have := hq.2.2 i hi (by omega)
          omega, by rw [hr23, yup_yup]⟩⟩

theorem t25T {L : Nat} {xs : Nat → Int32} {d nn : Nat} {m : yM} {v : Int64} {n : Int} (hT : Ty gT m) (h0 : 0 ≤ m 376 1) (h1 : m 376 1 ≤ 320) (hn : -2147483648 ≤ n ∧ n < 2147483648) : YC (gZ L xs) (d + 1) 25 [.ref 376, .long v, yI n] m nn (qI (fun r m' n' => n' = nn ∧ ((¬ gApp v n ∧ m' = yup m 376 57 1) ∨ (gApp v n ∧ ¬ m 376 1 + n ≤ 320 ∧ m' = yup m 376 57 2) ∨ (gApp v n ∧ m 376 1 + n ≤ 320 ∧ m' 376 57 = 0 ∧ r = m 376 1 + n ∧ m' 376 1 = r ∧ (∀ a q, a ≠ 377 → ¬ (a = 376 ∧ (q = 1 ∨ q = 57)) → m' a q = m a q) ∧ (∀ q, q < (m 376 1).toNat → m' 377 q = m 377 q) ∧ (∀ t, 1 ≤ t → t ≤ n → m' 377 (m 376 1 + t - 1).toNat = bC v (n - t)) ∧ Ty gT m')))) := by
  refine YC.mkB [some (.ref 376), some (.long v), none, some (yI n), none] kn25 rfl rfl ?_
  refine y_aload 1 c25_0 rfl rfl rfl ?_
  refine y_iload 2 c25_1 rfl rfl ?_
  refine y_iconst 3 c25_2 rfl ?_
  refine y_iconst 5 c25_3 rfl ?_
  refine y_callP 8 [yI n, yI 1, yI 8] [.ref 376] c25_5 rfl rfl rfl rfl rfl (ycanS km22) (t22 (by omega) (by omega) (by omega)) (fun r4 hr4 => ?_)
  refine y_iconst 9 c25_8 rfl ?_
  refine y_callIB 12 [.ref 376, yI r4, yI 1] [] c25_9 rfl rfl rfl rfl rfl (ycanO km23 ko376) (t23 (by omega)) (fun r6 mr6 nr6 hr6 => ?_)
  obtain ⟨er6, rfl, hr6⟩ := hr6
  refine y_if 17 15 c25_12 rfl rfl (yz_ne (by omega)) (fun hb => ?_) (fun hb => ?_)
  · have hm : mr6 = yup m 376 57 0 := by
      rcases hr6 with ⟨-, q⟩ | ⟨q, -⟩
      · exact q
      · omega
    subst hm
    refine y_iconst 18 c25_17 rfl ?_
    refine y_istore 20 c25_18 rfl rfl ?_
    exact t25aT hT h0 h1 (by omega) n.toNat 0 (by omega) (by omega) (fun k h2 h3 => by omega)
  · have hm : mr6 = yup m 376 57 1 := by
      rcases hr6 with ⟨q, -⟩ | ⟨-, q⟩
      · omega
      · exact q
    refine y_iconst 16 c25_15 rfl ?_
    exact y_retI c25_16 (y_fit0 _) ⟨rfl, Or.inl ⟨fun hq => by
      obtain ⟨q1, q2, -⟩ := hq
      omega, hm⟩⟩
end
section
/-! THE LAW: what stands between its steps -/
def LI (m : yM) : Prop := CJ m ∧ MI m ∧ m 0 6 = m 376 1
theorem CJ.ty {m : yM} (h : CJ m) : Ty gT m := by
  rcases h with h | h
  · exact h.1
  · exact h.1
theorem CJ.fr {m m' : yM} (h : CJ m) (hT : Ty gT m') (e : ∀ a q, (a = 0 ∧ (q = 4 ∨ q = 5)) ∨ (a = 8 ∧ q = 4) ∨ (256 ≤ a ∧ a < 376) → m' a q = m a q) : CJ m' := by
  rcases h with h | h
  · exact Or.inl (h.fr (by decide) (h.1.atp 256 16 0 40 rfl).2 (h.1.atp 256 10 0 10 rfl).2 hT e)
  · exact Or.inr (h.fr (by decide) (h.1.atp 316 16 0 40 rfl).2 (h.1.atp 316 10 0 10 rfl).2 hT e)
theorem vG_a {a q : Nat} (h : (a = 376 ∧ (q = 18 ∨ q = 19)) ∨ vGq 0 a q = true ∨ vGq 1 a q = true) : 376 ≤ a ∧ a ≤ 403 ∧ a ≠ 377 ∧ ¬ (a = 376 ∧ (q = 1 ∨ q = 57)) := by
  simp [vGq] at h
  omega
theorem LI.cls {m m' : yM} (h : LI m) (F : Fr wCl m m') (hC : CJ m') : LI m' := by
  refine ⟨hC, h.2.1.fr hC.ty (fun a q ha => F a q ?_), ?_⟩
  · have hv := vG_a ha
    cases e : wCl a q with
    | false => rfl
    | true => simp [wCl] at e; omega
  · rw [F 0 6 rfl, F 376 1 rfl]
    exact h.2.2
theorem LI.mdl {m m' : yM} (h : LI m) (F : Fr wML m m') (hM : MI m') : LI m' := by
  refine ⟨h.1.fr hM.1 (fun a q ha => F a q ?_), hM, ?_⟩
  · cases e : wML a q with
    | false => rfl
    | true => simp [wML] at e; omega
  · rw [F 0 6 rfl, F 376 1 rfl]
    exact h.2.2
/-- both texts grow, or both are cut -/
theorem LI.app {m m1 m2 : yM} {n : Int} (h : LI m) (hT : Ty gT m2) (k1 : ∀ a q, a ≠ 1 → ¬ (a = 0 ∧ q = 6) → a ≠ 413 → m1 a q = m a q) (e1 : m1 0 6 = m 0 6 + n) (k2 : ∀ a q, a ≠ 377 → ¬ (a = 376 ∧ (q = 1 ∨ q = 57)) → m2 a q = m1 a q) (e2 : m2 376 1 = m 376 1 + n) : LI m2 := by
  refine ⟨h.1.fr hT (fun a q ha => ?_), h.2.1.fr hT (fun a q ha => ?_), ?_⟩
  · rw [k2 a q (by omega) (by omega), k1 a q (by omega) (by omega) (by omega)]
  · have hv := vG_a ha
    rw [k2 a q (by omega) (by omega), k1 a q (by omega) (by omega) (by omega)]
  · rw [e2, k2 0 6 (by decide) (by decide), e1, h.2.2]
/-- the model's code alone -/
theorem LI.cod {m : yM} {c : Int} (h : LI m) (hc : 0 ≤ c ∧ c ≤ 4) : LI (yup m 376 57 c) := by
  have hT := h.2.1.1.up 376 57 c 0 4 rfl hc
  refine h.mdl (Fr.rf.up 376 57 c rfl) (h.2.1.fr hT (fun a q ha => ?_))
  have hv := vG_a ha
  exact yup_ne (by omega)
theorem MI.g0 {m : yM} (h : MI m) (hp : m 376 18 = 0) : m 376 19 = 0 ∨ GQ 0 m := by
  rcases h.2 with q | ⟨q1, q2⟩ | ⟨q1, q2⟩
  · exact Or.inl q
  · exact Or.inr q2
  · omega
theorem MI.g1 {m : yM} (h : MI m) (hp : m 376 18 = 1) : m 376 19 = 0 ∨ GQ 1 m := by
  rcases h.2 with q | ⟨q1, q2⟩ | ⟨q1, q2⟩
  · exact Or.inl q
  · omega
  · exact Or.inr q2
def qL (nn : Nat) : xO → yM → Nat → Prop := qI (fun _ m' n' => n' ≤ nn + 1 ∧ LI m')
def qN (nn : Nat) : xO → yM → Nat → Prop := qI (fun _ m' n' => n' = nn ∧ LI m')
theorem qW_L {nn : Nat} {m : yM} (h : LI m) {o : xO} {m' : yM} {n' : Nat} (q : qW nn m o m' n') : qL nn o m' n' := by
  obtain ⟨z, e, -, hn, F, hC⟩ := q
  exact ⟨z, e, by omega, h.cls F hC⟩
theorem qMd_N {nn : Nat} {m : yM} (h : LI m) {o : xO} {m' : yM} {n' : Nat} (q : qMd nn m o m' n') : qN nn o m' n' := by
  obtain ⟨z, e, hn, F, hM⟩ := q
  exact ⟨z, e, hn, h.mdl F hM⟩
/-- the script -/
theorem s_sc {L : Nat} {xs : Nat → Int32} {i d pc w b : Nat} {ls : xL} {st : List Value} {m : yM} {n : Nat} {Q : xO → yM → Nat → Prop} {x : Int} (pc' : Nat) (ho : gP i pc = some (.iaload, w, 0, b)) (hp : pc + w = pc') (hL : L ≤ 2048) (hx : 0 ≤ x ∧ x < (L : Int)) (k : ∀ v : Int, (xs x.toNat).toInt = v → -2147483648 ≤ v ∧ v < 2147483648 → YW (gZ L xs) i d pc' ls (yI v :: st) m n Q) : YW (gZ L xs) i d pc ls (yI x :: .retAddr 0 :: st) m n Q := y_script pc' ho hp (by show L ≤ 100000; omega) (by show 0 ≤ x ∧ x < (L : Int); exact hx) (k _ rfl (i32r _))
theorem s_scX {L : Nat} {xs : Nat → Int32} {i d pc w b : Nat} {ls : xL} {st : List Value} {m : yM} {n : Nat} {Q : xO → yM → Nat → Prop} {x : Int} (pc' : Nat) (v : Int) (ho : gP i pc = some (.iaload, w, 0, b)) (hp : pc + w = pc') (hL : L ≤ 2048) (hx : 0 ≤ x ∧ x < (L : Int)) (hv : (xs x.toNat).toInt = v) (k : YW (gZ L xs) i d pc' ls (yI v :: st) m n Q) : YW (gZ L xs) i d pc ls (yI x :: .retAddr 0 :: st) m n Q := y_script pc' ho hp (by show L ≤ 100000; omega) (by show 0 ≤ x ∧ x < (L : Int); exact hx) (y_top v hv k)
theorem s_len {L : Nat} {xs : Nat → Int32} {i d pc w a b : Nat} {ls : xL} {st : List Value} {m : yM} {n : Nat} {Q : xO → yM → Nat → Prop} (pc' : Nat) (ho : gP i pc = some (.arraylength, w, a, b)) (hp : pc + w = pc') (k : YW (gZ L xs) i d pc' ls (yI (L : Int) :: st) m n Q) : YW (gZ L xs) i d pc ls (.retAddr 0 :: st) m n Q := y_slen pc' ho hp k
end
section
/-! CONTRACTS, as the law needs them. Printed by wip/whole/gen9k.py -/
def qLo (nn : Nat) : xO → yM → Nat → Prop := qI (fun r m' n' => (-2147483648 ≤ r ∧ r < 2147483648) ∧ n' ≤ nn + 1 ∧ LI m')
def qNo (nn : Nat) : xO → yM → Nat → Prop := qI (fun r m' n' => (-2147483648 ≤ r ∧ r < 2147483648) ∧ n' = nn ∧ LI m')
theorem qL_o {nn n : Nat} {o : xO} {m : yM} (q : qL nn o m n) : qLo nn o m n := by
  obtain ⟨z, e, h⟩ := q
  exact ⟨wr z, by rw [yI_wr]; exact e, rg_wr z, h⟩
theorem qN_o {nn n : Nat} {o : xO} {m : yM} (q : qN nn o m n) : qNo nn o m n := by
  obtain ⟨z, e, h⟩ := q
  exact ⟨wr z, by rw [yI_wr]; exact e, rg_wr z, h⟩
theorem y_lcmpU {Z : yZ} {i d pc w a b : Nat} {ls : xL} {st : List Value} {m : yM} {n : Nat} {Q : xO → yM → Nat → Prop} (pc' : Nat) {x y : Int64} (ho : zP Z i pc = some (.lcmp, w, a, b)) (hp : pc + w = pc') (k : ∀ r : Int, -2147483648 ≤ r ∧ r < 2147483648 → YW Z i d pc' ls (yI r :: st) m n Q) : YW Z i d pc ls (.long y :: .long x :: st) m n Q := y_lcmp pc' ho hp (k _ (i32r _))

theorem t159w {L : Nat} {xs : Nat → Int32} {nn : Nat} {m : yM} {a : Int} (ra : -2147483648 ≤ a ∧ a < 2147483648) {b : Int} (rb : -2147483648 ≤ b ∧ b < 2147483648) (h : LI m) : YC (gZ L xs) 1199 159 [.ref 0, yI a, yI b, .ref 413] m nn (qLo nn) := by
  rcases h.1 with hC | hC
  · exact YC.mono (t159_256 (d := 1196) ra rb hC) (fun o m' n' q => qL_o (qW_L h q))
  · exact YC.mono (t159_316 (d := 1196) ra rb hC) (fun o m' n' q => qL_o (qW_L h q))

theorem t165w {L : Nat} {xs : Nat → Int32} {nn : Nat} {m : yM} {a : Int} (ra : -2147483648 ≤ a ∧ a < 2147483648) {b : Int} (rb : -2147483648 ≤ b ∧ b < 2147483648) {c : Int} (rc : -2147483648 ≤ c ∧ c < 2147483648) (h : LI m) : YC (gZ L xs) 1199 165 [.ref 0, yI a, yI b, yI c, .ref 413] m nn (qLo nn) := by
  rcases h.1 with hC | hC
  · exact YC.mono (t165_256 (d := 1196) ra rb rc hC) (fun o m' n' q => qL_o (qW_L h q))
  · exact YC.mono (t165_316 (d := 1196) ra rb rc hC) (fun o m' n' q => qL_o (qW_L h q))

theorem t169w {L : Nat} {xs : Nat → Int32} {nn : Nat} {m : yM} {a : Int} (ra : -2147483648 ≤ a ∧ a < 2147483648) {b : Int} (rb : -2147483648 ≤ b ∧ b < 2147483648) (h : LI m) : YC (gZ L xs) 1199 169 [.ref 0, yI a, yI b, .ref 413] m nn (qLo nn) := by
  rcases h.1 with hC | hC
  · exact YC.mono (t169_256 (d := 1196) ra rb hC) (fun o m' n' q => qL_o (qW_L h q))
  · exact YC.mono (t169_316 (d := 1196) ra rb hC) (fun o m' n' q => qL_o (qW_L h q))

theorem t173w {L : Nat} {xs : Nat → Int32} {nn : Nat} {m : yM} {a : Int} (ra : -2147483648 ≤ a ∧ a < 2147483648) (h : LI m) : YC (gZ L xs) 1199 173 [.ref 0, yI a, .ref 413] m nn (qLo nn) := by
  rcases h.1 with hC | hC
  · exact YC.mono (t173_256 (d := 1196) ra hC) (fun o m' n' q => qL_o (qW_L h q))
  · exact YC.mono (t173_316 (d := 1196) ra hC) (fun o m' n' q => qL_o (qW_L h q))

theorem t177w {L : Nat} {xs : Nat → Int32} {nn : Nat} {m : yM} {a : Int} (ra : -2147483648 ≤ a ∧ a < 2147483648) (h : LI m) : YC (gZ L xs) 1199 177 [.ref 0, yI a, .ref 413] m nn (qLo nn) := by
  rcases h.1 with hC | hC
  · exact YC.mono (t177_256 (d := 1196) ra hC) (fun o m' n' q => qL_o (qW_L h q))
  · exact YC.mono (t177_316 (d := 1196) ra hC) (fun o m' n' q => qL_o (qW_L h q))

theorem t181w {L : Nat} {xs : Nat → Int32} {nn : Nat} {m : yM} {a : Int} (ra : -2147483648 ≤ a ∧ a < 2147483648) {b : Int} (rb : -2147483648 ≤ b ∧ b < 2147483648) (h : LI m) : YC (gZ L xs) 1199 181 [.ref 0, yI a, yI b, .ref 413] m nn (qLo nn) := by
  rcases h.1 with hC | hC
  · exact YC.mono (t181_256 (d := 1196) ra rb hC) (fun o m' n' q => qL_o (qW_L h q))
  · exact YC.mono (t181_316 (d := 1196) ra rb hC) (fun o m' n' q => qL_o (qW_L h q))

theorem t184w {L : Nat} {xs : Nat → Int32} {nn : Nat} {m : yM} {a : Int} (ra : -2147483648 ≤ a ∧ a < 2147483648) {b : Int} (rb : -2147483648 ≤ b ∧ b < 2147483648) (h : LI m) : YC (gZ L xs) 1199 184 [.ref 0, yI a, yI b, .ref 413] m nn (qLo nn) := by
  rcases h.1 with hC | hC
  · exact YC.mono (t184_256 (d := 1196) ra rb hC) (fun o m' n' q => qL_o (qW_L h q))
  · exact YC.mono (t184_316 (d := 1196) ra rb hC) (fun o m' n' q => qL_o (qW_L h q))

theorem t213w {L : Nat} {xs : Nat → Int32} {nn : Nat} {m : yM} {a : Int} (ra : -2147483648 ≤ a ∧ a < 2147483648) {b : Int} (rb : -2147483648 ≤ b ∧ b < 2147483648) (h : LI m) : YC (gZ L xs) 1199 213 [.ref 0, yI a, yI b, .ref 413] m nn (qLo nn) := by
  rcases h.1 with hC | hC
  · exact YC.mono (t213_256 (d := 1196) ra rb hC) (fun o m' n' q => qL_o (qW_L h q))
  · exact YC.mono (t213_316 (d := 1196) ra rb hC) (fun o m' n' q => qL_o (qW_L h q))

theorem t216w {L : Nat} {xs : Nat → Int32} {nn : Nat} {m : yM} {a : Int} (ra : -2147483648 ≤ a ∧ a < 2147483648) (h : LI m) : YC (gZ L xs) 1199 216 [.ref 0, yI a, .ref 413] m nn (qLo nn) := by
  rcases h.1 with hC | hC
  · exact YC.mono (t216_256 (d := 1196) ra hC) (fun o m' n' q => qL_o (qW_L h q))
  · exact YC.mono (t216_316 (d := 1196) ra hC) (fun o m' n' q => qL_o (qW_L h q))

theorem t95w {L : Nat} {xs : Nat → Int32} {nn : Nat} {m : yM} (h : LI m) : YC (gZ L xs) 1199 95 [.ref 0, .ref 413] m nn (qLo nn) := by
  rcases h.1 with hC | hC
  · exact YC.mono (t95_256 (d := 1182) hC) (fun o m' n' q => qL_o (qW_L h q))
  · exact YC.mono (t95_316 (d := 1182) hC) (fun o m' n' q => qL_o (qW_L h q))

theorem t200w {L : Nat} {xs : Nat → Int32} {nn : Nat} {m : yM} (h : LI m) : YC (gZ L xs) 1199 200 [.ref 0, .ref 413] m nn (qLo nn) := by
  rcases h.1 with hC | hC
  · exact YC.mono (t200_256 (d := 591) hC) (fun o m' n' q => qL_o (qW_L h q))
  · exact YC.mono (t200_316 (d := 591) hC) (fun o m' n' q => qL_o (qW_L h q))

theorem t163w {L : Nat} {xs : Nat → Int32} {nn : Nat} {m : yM} {a : Int} (ra : -2147483648 ≤ a ∧ a < 2147483648) {b : Int} (rb : -2147483648 ≤ b ∧ b < 2147483648) (h : LI m) : YC (gZ L xs) 1199 163 [.ref 376, yI a, yI b] m nn (qNo nn) := by
  have hp := h.2.1.1.atp 376 18 0 1 rfl
  rcases (show m 376 18 = 0 ∨ m 376 18 = 1 by omega) with q | q
  · exact YC.mono (t163_0 (d := 1193) h.2.1.1 q h.2.1 ra rb) (fun o m' n' q => qN_o (qMd_N h q))
  · exact YC.mono (t163_1 (d := 1193) h.2.1.1 q h.2.1 ra rb) (fun o m' n' q => qN_o (qMd_N h q))

theorem t166w {L : Nat} {xs : Nat → Int32} {nn : Nat} {m : yM} {a : Int} (ra : -2147483648 ≤ a ∧ a < 2147483648) {b : Int} (rb : -2147483648 ≤ b ∧ b < 2147483648) {c : Int} (rc : -2147483648 ≤ c ∧ c < 2147483648) (h : LI m) : YC (gZ L xs) 1199 166 [.ref 376, yI a, yI b, yI c] m nn (qNo nn) := by
  have hp := h.2.1.1.atp 376 18 0 1 rfl
  rcases (show m 376 18 = 0 ∨ m 376 18 = 1 by omega) with q | q
  · exact YC.mono (t166_0 (d := 1193) h.2.1.1 q h.2.1 ra rb rc) (fun o m' n' q => qN_o (qMd_N h q))
  · exact YC.mono (t166_1 (d := 1193) h.2.1.1 q h.2.1 ra rb rc) (fun o m' n' q => qN_o (qMd_N h q))

theorem t171w {L : Nat} {xs : Nat → Int32} {nn : Nat} {m : yM} {a : Int} (ra : -2147483648 ≤ a ∧ a < 2147483648) {b : Int} (rb : -2147483648 ≤ b ∧ b < 2147483648) (h : LI m) : YC (gZ L xs) 1199 171 [.ref 376, yI a, yI b] m nn (qNo nn) := by
  have hp := h.2.1.1.atp 376 18 0 1 rfl
  rcases (show m 376 18 = 0 ∨ m 376 18 = 1 by omega) with q | q
  · exact YC.mono (t171_0 (d := 1193) h.2.1.1 q h.2.1 ra rb) (fun o m' n' q => qN_o (qMd_N h q))
  · exact YC.mono (t171_1 (d := 1193) h.2.1.1 q h.2.1 ra rb) (fun o m' n' q => qN_o (qMd_N h q))

theorem t174w {L : Nat} {xs : Nat → Int32} {nn : Nat} {m : yM} {a : Int} (ra : -2147483648 ≤ a ∧ a < 2147483648) (h : LI m) : YC (gZ L xs) 1199 174 [.ref 376, yI a] m nn (qNo nn) := by
  have hp := h.2.1.1.atp 376 18 0 1 rfl
  rcases (show m 376 18 = 0 ∨ m 376 18 = 1 by omega) with q | q
  · exact YC.mono (t174_0 (d := 1193) h.2.1.1 q h.2.1 ra) (fun o m' n' q => qN_o (qMd_N h q))
  · exact YC.mono (t174_1 (d := 1193) h.2.1.1 q h.2.1 ra) (fun o m' n' q => qN_o (qMd_N h q))

theorem t178w {L : Nat} {xs : Nat → Int32} {nn : Nat} {m : yM} {a : Int} (ra : -2147483648 ≤ a ∧ a < 2147483648) (h : LI m) : YC (gZ L xs) 1199 178 [.ref 376, yI a] m nn (qNo nn) := by
  have hp := h.2.1.1.atp 376 18 0 1 rfl
  rcases (show m 376 18 = 0 ∨ m 376 18 = 1 by omega) with q | q
  · exact YC.mono (t178_0 (d := 1193) h.2.1.1 q h.2.1 ra) (fun o m' n' q => qN_o (qMd_N h q))
  · exact YC.mono (t178_1 (d := 1193) h.2.1.1 q h.2.1 ra) (fun o m' n' q => qN_o (qMd_N h q))

theorem t182w {L : Nat} {xs : Nat → Int32} {nn : Nat} {m : yM} {a : Int} (ra : -2147483648 ≤ a ∧ a < 2147483648) {b : Int} (rb : -2147483648 ≤ b ∧ b < 2147483648) (h : LI m) : YC (gZ L xs) 1199 182 [.ref 376, yI a, yI b] m nn (qNo nn) := by
  have hp := h.2.1.1.atp 376 18 0 1 rfl
  rcases (show m 376 18 = 0 ∨ m 376 18 = 1 by omega) with q | q
  · exact YC.mono (t182_0 (d := 1193) h.2.1.1 q h.2.1 ra rb) (fun o m' n' q => qN_o (qMd_N h q))
  · exact YC.mono (t182_1 (d := 1193) h.2.1.1 q h.2.1 ra rb) (fun o m' n' q => qN_o (qMd_N h q))

theorem t185w {L : Nat} {xs : Nat → Int32} {nn : Nat} {m : yM} {a : Int} (ra : -2147483648 ≤ a ∧ a < 2147483648) {b : Int} (rb : -2147483648 ≤ b ∧ b < 2147483648) (h : LI m) : YC (gZ L xs) 1199 185 [.ref 376, yI a, yI b] m nn (qNo nn) := by
  have hp := h.2.1.1.atp 376 18 0 1 rfl
  rcases (show m 376 18 = 0 ∨ m 376 18 = 1 by omega) with q | q
  · exact YC.mono (t185_0 (d := 1193) h.2.1.1 q h.2.1 ra rb) (fun o m' n' q => qN_o (qMd_N h q))
  · exact YC.mono (t185_1 (d := 1193) h.2.1.1 q h.2.1 ra rb) (fun o m' n' q => qN_o (qMd_N h q))

theorem t214w {L : Nat} {xs : Nat → Int32} {nn : Nat} {m : yM} {a : Int} (ra : -2147483648 ≤ a ∧ a < 2147483648) {b : Int} (rb : -2147483648 ≤ b ∧ b < 2147483648) (h : LI m) : YC (gZ L xs) 1199 214 [.ref 376, yI a, yI b] m nn (qNo nn) := by
  have hp := h.2.1.1.atp 376 18 0 1 rfl
  rcases (show m 376 18 = 0 ∨ m 376 18 = 1 by omega) with q | q
  · exact YC.mono (t214_0 (d := 1193) h.2.1.1 q h.2.1 ra rb) (fun o m' n' q => qN_o (qMd_N h q))
  · exact YC.mono (t214_1 (d := 1193) h.2.1.1 q h.2.1 ra rb) (fun o m' n' q => qN_o (qMd_N h q))

theorem t217w {L : Nat} {xs : Nat → Int32} {nn : Nat} {m : yM} {a : Int} (ra : -2147483648 ≤ a ∧ a < 2147483648) (h : LI m) : YC (gZ L xs) 1199 217 [.ref 376, yI a] m nn (qNo nn) := by
  have hp := h.2.1.1.atp 376 18 0 1 rfl
  rcases (show m 376 18 = 0 ∨ m 376 18 = 1 by omega) with q | q
  · exact YC.mono (t217_0 (d := 1193) h.2.1.1 q h.2.1 ra) (fun o m' n' q => qN_o (qMd_N h q))
  · exact YC.mono (t217_1 (d := 1193) h.2.1.1 q h.2.1 ra) (fun o m' n' q => qN_o (qMd_N h q))

theorem t152w {L : Nat} {xs : Nat → Int32} {nn : Nat} {m : yM} (h : LI m) : YC (gZ L xs) 1199 152 [.ref 376] m nn (qNo nn) := by
  have hp := h.2.1.1.atp 376 18 0 1 rfl
  rcases (show m 376 18 = 0 ∨ m 376 18 = 1 by omega) with q | q
  · exact YC.mono (t152_1 (d := 1186) h.2.1.1 q (h.2.1.g0 q)) (fun o m' n' q => qN_o (qMd_N h q))
  · exact YC.mono (t152_0 (d := 1186) h.2.1.1 q (h.2.1.g1 q)) (fun o m' n' q => qN_o (qMd_N h q))

theorem t211w {L : Nat} {xs : Nat → Int32} {nn : Nat} {m : yM} (h : LI m) : YC (gZ L xs) 1199 211 [.ref 376] m nn (qNo nn) := by
  have hp := h.2.1.1.atp 376 18 0 1 rfl
  rcases (show m 376 18 = 0 ∨ m 376 18 = 1 by omega) with q | q
  · exact YC.mono (t211_0 (d := 1193) h.2.1.1 q (h.2.1.g0 q) h.2.1) (fun o m' n' q => qN_o (qMd_N h q))
  · exact YC.mono (t211_1 (d := 1193) h.2.1.1 q (h.2.1.g1 q) h.2.1) (fun o m' n' q => qN_o (qMd_N h q))

theorem t29w {L : Nat} {xs : Nat → Int32} {nn : Nat} {m : yM} {a : Int} (ra : -2147483648 ≤ a ∧ a < 2147483648) (hT : Ty gT m) : YC (gZ L xs) 1199 29 [.ref 376, yI a] m nn (qI (fun r m' n' => n' = nn ∧ Ty gT m' ∧ ((¬ (0 ≤ a ∧ a ≤ m 376 1) ∧ r = 0 ∧ m' = yup m 376 57 1) ∨ ((0 ≤ a ∧ a ≤ m 376 1) ∧ r = m 376 1 - a ∧ m' = yup (yup m 376 57 0) 376 1 (m 376 1 - a))))) := by
  refine YC.mono (t29 (d := 1198) hT ra) (fun o m' n' q => ?_)
  obtain ⟨q1, q2, ⟨q3, q4, q5⟩ | ⟨q3, q4, q5⟩⟩ := q
  · exact ⟨_, q4, q1, q2, Or.inl ⟨q3, rfl, q5⟩⟩
  · exact ⟨_, q4, q1, q2, Or.inr ⟨q3, rfl, q5⟩⟩
end
section
/-! THE LAW, a step of the script. Printed by wip/whole/gen9k.py -/
set_option maxRecDepth 100000 in
theorem lc_0 {L : Nat} {xs : Nat → Int32} {nn : Nat} {m : yM} {Q : xO → yM → Nat → Prop} {i : Int} (hL : L ≤ 2048) (hi : 0 ≤ i ∧ i + 4 ≤ (L : Int)) (h : LI m) {x5 x6 : Option Value} (hK : ∀ (y5 y6 : Option Value) (m' : yM) (n' : Nat), LI m' → n' ≤ nn + 1 → YW (gZ L xs) 218 1200 617 [some (.retAddr 0), some (.ref 0), some (.ref 376), some (.ref 413), some (yI i), y5, y6] [] m' n' Q) (hZ : ∀ (m' : yM) (n' : Nat), n' ≤ nn + 1 → Q (.inl (some (yI 0))) m' n') : YW (gZ L xs) 218 1200 108 [some (.retAddr 0), some (.ref 0), some (.ref 376), some (.ref 413), some (yI i), x5, x6] [] m nn Q := by
  have hT := h.2.1.1
  have l0 := hT.atp 0 6 0 320 rfl
  have l1 := hT.atp 376 1 0 320 rfl
  have l2 := h.2.2
  refine y_aload 109 c218_108 rfl rfl rfl ?_
  refine y_aload 110 c218_109 rfl rfl rfl ?_
  refine y_iload 112 c218_110 rfl rfl ?_
  refine y_iconst 113 c218_112 rfl ?_
  refine y_iadd 114 c218_113 rfl ?_
  refine s_sc 115 c218_114 rfl hL (by omega) (fun s1 hs1 gs1 => ?_)
  refine y_i2l 116 c218_115 rfl ?_
  refine y_iconst 118 c218_116 rfl ?_
  refine y_lshl 119 c218_118 rfl ?_
  refine y_aload 120 c218_119 rfl rfl rfl ?_
  refine y_iload 122 c218_120 rfl rfl ?_
  refine y_iconst 123 c218_122 rfl ?_
  refine y_iadd 124 c218_123 rfl ?_
  refine s_sc 125 c218_124 rfl hL (by omega) (fun s2 hs2 gs2 => ?_)
  refine y_i2l 126 c218_125 rfl ?_
  refine y_lconst 129 c218_126 rfl ?_
  refine y_land 130 c218_129 rfl ?_
  refine y_lor 131 c218_130 rfl ?_
  refine y_aload 132 c218_131 rfl rfl rfl ?_
  refine y_iload 134 c218_132 rfl rfl ?_
  refine y_iconst 135 c218_134 rfl ?_
  refine y_iadd 136 c218_135 rfl ?_
  refine s_sc 137 c218_136 rfl hL (by omega) (fun s3 hs3 gs3 => ?_)
  refine y_aload 138 c218_137 rfl rfl rfl ?_
  refine y_callIB 141 [.ref 0, .long ((((Int32.ofInt s1).toInt64) <<< ((Int32.ofInt 32).toInt64 &&& 63)) ||| (((Int32.ofInt s2).toInt64) &&& (Int64.ofInt 4294967295))), yI s3, .ref 413] [] c218_138 rfl rfl rfl rfl rfl (ycanS km21) (t21T (d := 1196) hT (by omega) (by omega) (by omega)) (fun rq mq nq hq => ?_)
  rcases hq with ⟨e1, ha, e2, e3⟩ | ⟨e1, ha, hf, e2, e3⟩ | ⟨e1, ha, hf, e3, m1, e2, k1, k2, k3, k4, k5⟩
  · subst e1
    obtain rfl : m = mq := e2.symm
    refine y_istore 143 c218_141 rfl rfl ?_
    refine y_aload 144 c218_143 rfl rfl rfl ?_
    refine y_aload 145 c218_144 rfl rfl rfl ?_
    refine y_iload 147 c218_145 rfl rfl ?_
    refine y_iconst 148 c218_147 rfl ?_
    refine y_iadd 149 c218_148 rfl ?_
    refine s_scX 150 s1 c218_149 rfl hL (by omega) hs1 ?_
    refine y_i2l 151 c218_150 rfl ?_
    refine y_iconst 153 c218_151 rfl ?_
    refine y_lshl 154 c218_153 rfl ?_
    refine y_aload 155 c218_154 rfl rfl rfl ?_
    refine y_iload 157 c218_155 rfl rfl ?_
    refine y_iconst 158 c218_157 rfl ?_
    refine y_iadd 159 c218_158 rfl ?_
    refine s_scX 160 s2 c218_159 rfl hL (by omega) hs2 ?_
    refine y_i2l 161 c218_160 rfl ?_
    refine y_lconst 164 c218_161 rfl ?_
    refine y_land 165 c218_164 rfl ?_
    refine y_lor 166 c218_165 rfl ?_
    refine y_aload 167 c218_166 rfl rfl rfl ?_
    refine y_iload 169 c218_167 rfl rfl ?_
    refine y_iconst 170 c218_169 rfl ?_
    refine y_iadd 171 c218_170 rfl ?_
    refine s_scX 172 s3 c218_171 rfl hL (by omega) hs3 ?_
    refine y_callIB 175 [.ref 376, .long ((((Int32.ofInt s1).toInt64) <<< ((Int32.ofInt 32).toInt64 &&& 63)) ||| (((Int32.ofInt s2).toInt64) &&& (Int64.ofInt 4294967295))), yI s3] [] c218_172 rfl rfl rfl rfl rfl (ycanO km25 ko376) (t25T (d := 1198) hT (by omega) (by omega) (by omega)) (fun rz mz nz hz => ?_)
    obtain ⟨e5, hz⟩ := hz
    rcases hz with ⟨y1, e6⟩ | ⟨y1, y2, e6⟩ | ⟨y1, y2, z1, z2, z3, z4, z5, z6, z7⟩
    · have hz1 : mz 376 57 = 1 := by rw [e6]; exact yup_eq _ _ _ _
      have hz2 : LI mz := by rw [e6]; exact h.cod (by decide)
      have hTz := hz2.2.1.1
      refine y_istore 177 c218_175 rfl rfl ?_
      refine y_goto 617 c218_177 rfl ?_
      exact hK _ _ _ _ hz2 (by omega)
    · exact absurd y1 ha
    · exact absurd y1 ha
  · subst e1
    obtain rfl : m = mq := e2.symm
    refine y_istore 143 c218_141 rfl rfl ?_
    refine y_aload 144 c218_143 rfl rfl rfl ?_
    refine y_aload 145 c218_144 rfl rfl rfl ?_
    refine y_iload 147 c218_145 rfl rfl ?_
    refine y_iconst 148 c218_147 rfl ?_
    refine y_iadd 149 c218_148 rfl ?_
    refine s_scX 150 s1 c218_149 rfl hL (by omega) hs1 ?_
    refine y_i2l 151 c218_150 rfl ?_
    refine y_iconst 153 c218_151 rfl ?_
    refine y_lshl 154 c218_153 rfl ?_
    refine y_aload 155 c218_154 rfl rfl rfl ?_
    refine y_iload 157 c218_155 rfl rfl ?_
    refine y_iconst 158 c218_157 rfl ?_
    refine y_iadd 159 c218_158 rfl ?_
    refine s_scX 160 s2 c218_159 rfl hL (by omega) hs2 ?_
    refine y_i2l 161 c218_160 rfl ?_
    refine y_lconst 164 c218_161 rfl ?_
    refine y_land 165 c218_164 rfl ?_
    refine y_lor 166 c218_165 rfl ?_
    refine y_aload 167 c218_166 rfl rfl rfl ?_
    refine y_iload 169 c218_167 rfl rfl ?_
    refine y_iconst 170 c218_169 rfl ?_
    refine y_iadd 171 c218_170 rfl ?_
    refine s_scX 172 s3 c218_171 rfl hL (by omega) hs3 ?_
    refine y_callIB 175 [.ref 376, .long ((((Int32.ofInt s1).toInt64) <<< ((Int32.ofInt 32).toInt64 &&& 63)) ||| (((Int32.ofInt s2).toInt64) &&& (Int64.ofInt 4294967295))), yI s3] [] c218_172 rfl rfl rfl rfl rfl (ycanO km25 ko376) (t25T (d := 1198) hT (by omega) (by omega) (by omega)) (fun rz mz nz hz => ?_)
    obtain ⟨e5, hz⟩ := hz
    rcases hz with ⟨y1, e6⟩ | ⟨y1, y2, e6⟩ | ⟨y1, y2, z1, z2, z3, z4, z5, z6, z7⟩
    · exact absurd ha y1
    · have hz1 : mz 376 57 = 2 := by rw [e6]; exact yup_eq _ _ _ _
      have hz2 : LI mz := by rw [e6]; exact h.cod (by decide)
      have hTz := hz2.2.1.1
      refine y_istore 177 c218_175 rfl rfl ?_
      refine y_goto 617 c218_177 rfl ?_
      exact hK _ _ _ _ hz2 (by omega)
    · exfalso; omega
  · subst e1
    have ha1 := ha.1
    have ha2 := ha.2.1
    have hTq : Ty gT mq := by rw [e2]; exact k5.up 413 0 _ (-2147483648) 2147483647 rfl (by omega)
    have c1 : ∀ a q, a ≠ 1 → ¬ (a = 0 ∧ q = 6) → a ≠ 413 → mq a q = m a q := fun a q h1 h2 h3 => by rw [e2, yup_na h3]; exact k2 a q h1 h2
    have c2 : mq 0 6 = m 0 6 + s3 := by rw [e2, yup_na (by decide)]; exact k1
    have c3 : mq 413 0 = m 0 6 + s3 := by rw [e2]; exact yup_eq _ _ _ _
    have c4 : mq 376 1 = m 376 1 := c1 376 1 (by decide) (by decide) (by decide)
    refine y_istore 143 c218_141 rfl rfl ?_
    refine y_aload 144 c218_143 rfl rfl rfl ?_
    refine y_aload 145 c218_144 rfl rfl rfl ?_
    refine y_iload 147 c218_145 rfl rfl ?_
    refine y_iconst 148 c218_147 rfl ?_
    refine y_iadd 149 c218_148 rfl ?_
    refine s_scX 150 s1 c218_149 rfl hL (by omega) hs1 ?_
    refine y_i2l 151 c218_150 rfl ?_
    refine y_iconst 153 c218_151 rfl ?_
    refine y_lshl 154 c218_153 rfl ?_
    refine y_aload 155 c218_154 rfl rfl rfl ?_
    refine y_iload 157 c218_155 rfl rfl ?_
    refine y_iconst 158 c218_157 rfl ?_
    refine y_iadd 159 c218_158 rfl ?_
    refine s_scX 160 s2 c218_159 rfl hL (by omega) hs2 ?_
    refine y_i2l 161 c218_160 rfl ?_
    refine y_lconst 164 c218_161 rfl ?_
    refine y_land 165 c218_164 rfl ?_
    refine y_lor 166 c218_165 rfl ?_
    refine y_aload 167 c218_166 rfl rfl rfl ?_
    refine y_iload 169 c218_167 rfl rfl ?_
    refine y_iconst 170 c218_169 rfl ?_
    refine y_iadd 171 c218_170 rfl ?_
    refine s_scX 172 s3 c218_171 rfl hL (by omega) hs3 ?_
    refine y_callIB 175 [.ref 376, .long ((((Int32.ofInt s1).toInt64) <<< ((Int32.ofInt 32).toInt64 &&& 63)) ||| (((Int32.ofInt s2).toInt64) &&& (Int64.ofInt 4294967295))), yI s3] [] c218_172 rfl rfl rfl rfl rfl (ycanO km25 ko376) (t25T (d := 1198) hTq (by omega) (by omega) (by omega)) (fun rz mz nz hz => ?_)
    obtain ⟨e5, hz⟩ := hz
    rcases hz with ⟨y1, e6⟩ | ⟨y1, y2, e6⟩ | ⟨y1, y2, z1, z2, z3, z4, z5, z6, z7⟩
    · exact absurd ha y1
    · exfalso; omega
    · have hz1 := z1
      have hz2 : LI mz := h.app z7 c1 c2 z4 (by omega)
      have hTz := z7
      have hz3 : mz 413 0 = m 0 6 + s3 := (z4 413 0 (by decide) (by decide)).trans c3
      refine y_istore 177 c218_175 rfl rfl ?_
      refine y_goto 617 c218_177 rfl ?_
      exact hK _ _ _ _ hz2 (by omega)
set_option maxRecDepth 100000 in
theorem lc_1 {L : Nat} {xs : Nat → Int32} {nn : Nat} {m : yM} {Q : xO → yM → Nat → Prop} {i : Int} (hL : L ≤ 2048) (hi : 0 ≤ i ∧ i + 4 ≤ (L : Int)) (h : LI m) {x5 x6 : Option Value} (hK : ∀ (y5 y6 : Option Value) (m' : yM) (n' : Nat), LI m' → n' ≤ nn + 1 → YW (gZ L xs) 218 1200 617 [some (.retAddr 0), some (.ref 0), some (.ref 376), some (.ref 413), some (yI i), y5, y6] [] m' n' Q) (hZ : ∀ (m' : yM) (n' : Nat), n' ≤ nn + 1 → Q (.inl (some (yI 0))) m' n') : YW (gZ L xs) 218 1200 180 [some (.retAddr 0), some (.ref 0), some (.ref 376), some (.ref 413), some (yI i), x5, x6] [] m nn Q := by
  have hT := h.2.1.1
  have l0 := hT.atp 0 6 0 320 rfl
  have l1 := hT.atp 376 1 0 320 rfl
  have l2 := h.2.2
  refine y_aload 181 c218_180 rfl rfl rfl ?_
  refine y_aload 182 c218_181 rfl rfl rfl ?_
  refine y_iload 184 c218_182 rfl rfl ?_
  refine y_iconst 185 c218_184 rfl ?_
  refine y_iadd 186 c218_185 rfl ?_
  refine s_sc 187 c218_186 rfl hL (by omega) (fun s4 hs4 gs4 => ?_)
  refine y_aload 188 c218_187 rfl rfl rfl ?_
  refine y_callIB 191 [.ref 0, yI s4, .ref 413] [] c218_188 rfl rfl rfl rfl rfl (ycanS km28) (t28 (d := 1198) hT (by omega)) (fun rq mq nq hq => ?_)
  obtain ⟨hTq, hq⟩ := hq
  rcases hq with ⟨e1, hb, e3, e2⟩ | ⟨e1, hb, e3, e2⟩
  · subst e1
    obtain rfl : m = mq := e2.symm
    refine y_istore 193 c218_191 rfl rfl ?_
    refine y_aload 194 c218_193 rfl rfl rfl ?_
    refine y_aload 195 c218_194 rfl rfl rfl ?_
    refine y_iload 197 c218_195 rfl rfl ?_
    refine y_iconst 198 c218_197 rfl ?_
    refine y_iadd 199 c218_198 rfl ?_
    refine s_scX 200 s4 c218_199 rfl hL (by omega) hs4 ?_
    refine y_callIB 203 [.ref 376, yI s4] [] c218_200 rfl rfl rfl rfl rfl (ycanO km29 ko376) (t29w (by omega) hT) (fun rz mz nz hz => ?_)
    obtain ⟨e5, hTz, hz⟩ := hz
    rcases hz with ⟨y1, e7, e6⟩ | ⟨y1, e7, e6⟩
    · have hz1 : mz 376 57 = 1 := by rw [e6]; exact yup_eq _ _ _ _
      have hz2 : LI mz := by rw [e6]; exact h.cod (by decide)
      refine y_istore 205 c218_203 rfl rfl ?_
      refine y_goto 617 c218_205 rfl ?_
      exact hK _ _ _ _ hz2 (by omega)
    · exfalso; omega
  · subst e1
    have c1 : ∀ a q, a ≠ 1 → ¬ (a = 0 ∧ q = 6) → a ≠ 413 → mq a q = m a q := fun a q h1 h2 h3 => by rw [e2, yup_na h3, yup_ne h2]
    have c2 : mq 0 6 = m 0 6 + (-s4) := by rw [e2, yup_na (by decide), yup_eq]; omega
    have c3 : mq 413 0 = m 0 6 - s4 := by rw [e2]; exact yup_eq _ _ _ _
    have c4 : mq 376 1 = m 376 1 := c1 376 1 (by decide) (by decide) (by decide)
    refine y_istore 193 c218_191 rfl rfl ?_
    refine y_aload 194 c218_193 rfl rfl rfl ?_
    refine y_aload 195 c218_194 rfl rfl rfl ?_
    refine y_iload 197 c218_195 rfl rfl ?_
    refine y_iconst 198 c218_197 rfl ?_
    refine y_iadd 199 c218_198 rfl ?_
    refine s_scX 200 s4 c218_199 rfl hL (by omega) hs4 ?_
    refine y_callIB 203 [.ref 376, yI s4] [] c218_200 rfl rfl rfl rfl rfl (ycanO km29 ko376) (t29w (by omega) hTq) (fun rz mz nz hz => ?_)
    obtain ⟨e5, hTz, hz⟩ := hz
    rcases hz with ⟨y1, e7, e6⟩ | ⟨y1, e7, e6⟩
    · exfalso; omega
    · have hz1 : mz 376 57 = 0 := by rw [e6, yup_nk (by decide)]; exact yup_eq _ _ _ _
      have hz2 : LI mz := h.app (n := -s4) hTz c1 c2 (fun a q h1 h2 => by rw [e6, yup_ne (by omega), yup_ne (by omega)]) (by rw [e6, yup_eq]; omega)
      have hz3 : mz 413 0 = m 0 6 - s4 := by rw [e6, yup_na (by decide), yup_na (by decide)]; exact c3
      refine y_istore 205 c218_203 rfl rfl ?_
      refine y_goto 617 c218_205 rfl ?_
      exact hK _ _ _ _ hz2 (by omega)
set_option maxRecDepth 100000 in
theorem lc_2 {L : Nat} {xs : Nat → Int32} {nn : Nat} {m : yM} {Q : xO → yM → Nat → Prop} {i : Int} (hL : L ≤ 2048) (hi : 0 ≤ i ∧ i + 4 ≤ (L : Int)) (h : LI m) {x5 x6 : Option Value} (hK : ∀ (y5 y6 : Option Value) (m' : yM) (n' : Nat), LI m' → n' ≤ nn + 1 → YW (gZ L xs) 218 1200 617 [some (.retAddr 0), some (.ref 0), some (.ref 376), some (.ref 413), some (yI i), y5, y6] [] m' n' Q) (hZ : ∀ (m' : yM) (n' : Nat), n' ≤ nn + 1 → Q (.inl (some (yI 0))) m' n') : YW (gZ L xs) 218 1200 208 [some (.retAddr 0), some (.ref 0), some (.ref 376), some (.ref 413), some (yI i), x5, x6] [] m nn Q := by
  have hT := h.2.1.1
  have l0 := hT.atp 0 6 0 320 rfl
  have l1 := hT.atp 376 1 0 320 rfl
  have l2 := h.2.2
  refine y_aload 209 c218_208 rfl rfl rfl ?_
  refine y_aload 210 c218_209 rfl rfl rfl ?_
  refine y_callIB 213 [.ref 0, .ref 413] [] c218_210 rfl rfl rfl rfl rfl (ycanS km95) (t95w h) (fun rq5 mq5 nq5 hq5 => ?_)
  obtain ⟨hrq5, hnq5, hLq5⟩ := hq5
  have hTq5 := hLq5.2.1.1
  refine y_istore 215 c218_213 rfl rfl ?_
  refine y_aload 216 c218_215 rfl rfl rfl ?_
  refine y_callIB 219 [.ref 376] [] c218_216 rfl rfl rfl rfl rfl (ycanO km152 ko376) (t152w hLq5) (fun rq6 mq6 nq6 hq6 => ?_)
  obtain ⟨hrq6, hnq6, hLq6⟩ := hq6
  have hTq6 := hLq6.2.1.1
  refine y_istore 221 c218_219 rfl rfl ?_
  refine y_goto 617 c218_221 rfl ?_
  exact hK _ _ _ _ hLq6 (by omega)
set_option maxRecDepth 100000 in
theorem lc_3 {L : Nat} {xs : Nat → Int32} {nn : Nat} {m : yM} {Q : xO → yM → Nat → Prop} {i : Int} (hL : L ≤ 2048) (hi : 0 ≤ i ∧ i + 4 ≤ (L : Int)) (h : LI m) {x5 x6 : Option Value} (hK : ∀ (y5 y6 : Option Value) (m' : yM) (n' : Nat), LI m' → n' ≤ nn + 1 → YW (gZ L xs) 218 1200 617 [some (.retAddr 0), some (.ref 0), some (.ref 376), some (.ref 413), some (yI i), y5, y6] [] m' n' Q) (hZ : ∀ (m' : yM) (n' : Nat), n' ≤ nn + 1 → Q (.inl (some (yI 0))) m' n') : YW (gZ L xs) 218 1200 224 [some (.retAddr 0), some (.ref 0), some (.ref 376), some (.ref 413), some (yI i), x5, x6] [] m nn Q := by
  have hT := h.2.1.1
  have l0 := hT.atp 0 6 0 320 rfl
  have l1 := hT.atp 376 1 0 320 rfl
  have l2 := h.2.2
  refine y_aload 225 c218_224 rfl rfl rfl ?_
  refine y_inlB 228 [.ref 0] [] [some (.ref 0)] c218_225 rfl rfl rfl rfl rfl (ycanO km153 ko0) kn153 rfl rfl ?_
  refine y_aload 1 c153_0 rfl rfl rfl ?_
  refine y_getX 4 (m 0 7) c153_1 rfl kf0_7 rfl ?_
  have tb7 := hT.atp 0 7 ((-2147483648)) 2147483647 rfl
  refine y_ireturnK c153_4 (y_fit0 _) ?_
  refine y_pop 229 c218_228 rfl rfl ?_
  refine y_aload 230 c218_229 rfl rfl rfl ?_
  refine y_inlB 233 [.ref 376] [] [some (.ref 376)] c218_230 rfl rfl rfl rfl rfl (ycanO km154 ko376) kn154 rfl rfl ?_
  refine y_aload 1 c154_0 rfl rfl rfl ?_
  refine y_iconst 2 c154_1 rfl ?_
  refine y_putI 5 c154_2 rfl kf376_57 (y_fit0 _) ?_
  have hT8 := hT.up 376 57 0 0 4 rfl (by omega)
  refine y_aload 6 c154_5 rfl rfl rfl ?_
  refine y_getX 9 (m 376 2) c154_6 rfl kf376_2 rfl ?_
  have tb10 := hT.atp 376 2 ((-2147483648)) 2147483647 rfl
  refine y_ireturnK c154_9 (y_fit0 _) ?_
  refine y_pop 234 c218_233 rfl rfl ?_
  refine y_goto 617 c218_234 rfl ?_
  exact hK _ _ _ _ (h.cod (by decide)) (by omega)
set_option maxRecDepth 100000 in
theorem lc_4 {L : Nat} {xs : Nat → Int32} {nn : Nat} {m : yM} {Q : xO → yM → Nat → Prop} {i : Int} (hL : L ≤ 2048) (hi : 0 ≤ i ∧ i + 4 ≤ (L : Int)) (h : LI m) {x5 x6 : Option Value} (hK : ∀ (y5 y6 : Option Value) (m' : yM) (n' : Nat), LI m' → n' ≤ nn + 1 → YW (gZ L xs) 218 1200 617 [some (.retAddr 0), some (.ref 0), some (.ref 376), some (.ref 413), some (yI i), y5, y6] [] m' n' Q) (hZ : ∀ (m' : yM) (n' : Nat), n' ≤ nn + 1 → Q (.inl (some (yI 0))) m' n') : YW (gZ L xs) 218 1200 237 [some (.retAddr 0), some (.ref 0), some (.ref 376), some (.ref 413), some (yI i), x5, x6] [] m nn Q := by
  have hT := h.2.1.1
  have l0 := hT.atp 0 6 0 320 rfl
  have l1 := hT.atp 376 1 0 320 rfl
  have l2 := h.2.2
  refine y_aload 238 c218_237 rfl rfl rfl ?_
  refine y_aload 239 c218_238 rfl rfl rfl ?_
  refine y_iload 241 c218_239 rfl rfl ?_
  refine y_iconst 242 c218_241 rfl ?_
  refine y_iadd 243 c218_242 rfl ?_
  refine s_sc 244 c218_243 rfl hL (by omega) (fun s11 hs11 gs11 => ?_)
  refine y_aload 245 c218_244 rfl rfl rfl ?_
  refine y_iload 247 c218_245 rfl rfl ?_
  refine y_iconst 248 c218_247 rfl ?_
  refine y_iadd 249 c218_248 rfl ?_
  refine s_sc 250 c218_249 rfl hL (by omega) (fun s12 hs12 gs12 => ?_)
  refine y_aload 251 c218_250 rfl rfl rfl ?_
  refine y_callIB 254 [.ref 0, yI s11, yI s12, .ref 413] [] c218_251 rfl rfl rfl rfl rfl (ycanS km159) (t159w (by omega) (by omega) h) (fun rq13 mq13 nq13 hq13 => ?_)
  obtain ⟨hrq13, hnq13, hLq13⟩ := hq13
  have hTq13 := hLq13.2.1.1
  refine y_istore 256 c218_254 rfl rfl ?_
  refine y_aload 257 c218_256 rfl rfl rfl ?_
  refine y_aload 258 c218_257 rfl rfl rfl ?_
  refine y_iload 260 c218_258 rfl rfl ?_
  refine y_iconst 261 c218_260 rfl ?_
  refine y_iadd 262 c218_261 rfl ?_
  refine s_scX 263 s11 c218_262 rfl hL (by omega) hs11 ?_
  refine y_aload 264 c218_263 rfl rfl rfl ?_
  refine y_iload 266 c218_264 rfl rfl ?_
  refine y_iconst 267 c218_266 rfl ?_
  refine y_iadd 268 c218_267 rfl ?_
  refine s_scX 269 s12 c218_268 rfl hL (by omega) hs12 ?_
  refine y_callIB 272 [.ref 376, yI s11, yI s12] [] c218_269 rfl rfl rfl rfl rfl (ycanO km163 ko376) (t163w (by omega) (by omega) hLq13) (fun rq14 mq14 nq14 hq14 => ?_)
  obtain ⟨hrq14, hnq14, hLq14⟩ := hq14
  have hTq14 := hLq14.2.1.1
  refine y_istore 274 c218_272 rfl rfl ?_
  refine y_goto 617 c218_274 rfl ?_
  exact hK _ _ _ _ hLq14 (by omega)
set_option maxRecDepth 100000 in
theorem lc_5 {L : Nat} {xs : Nat → Int32} {nn : Nat} {m : yM} {Q : xO → yM → Nat → Prop} {i : Int} (hL : L ≤ 2048) (hi : 0 ≤ i ∧ i + 4 ≤ (L : Int)) (h : LI m) {x5 x6 : Option Value} (hK : ∀ (y5 y6 : Option Value) (m' : yM) (n' : Nat), LI m' → n' ≤ nn + 1 → YW (gZ L xs) 218 1200 617 [some (.retAddr 0), some (.ref 0), some (.ref 376), some (.ref 413), some (yI i), y5, y6] [] m' n' Q) (hZ : ∀ (m' : yM) (n' : Nat), n' ≤ nn + 1 → Q (.inl (some (yI 0))) m' n') : YW (gZ L xs) 218 1200 277 [some (.retAddr 0), some (.ref 0), some (.ref 376), some (.ref 413), some (yI i), x5, x6] [] m nn Q := by
  have hT := h.2.1.1
  have l0 := hT.atp 0 6 0 320 rfl
  have l1 := hT.atp 376 1 0 320 rfl
  have l2 := h.2.2
  refine y_aload 278 c218_277 rfl rfl rfl ?_
  refine y_aload 279 c218_278 rfl rfl rfl ?_
  refine y_iload 281 c218_279 rfl rfl ?_
  refine y_iconst 282 c218_281 rfl ?_
  refine y_iadd 283 c218_282 rfl ?_
  refine s_sc 284 c218_283 rfl hL (by omega) (fun s15 hs15 gs15 => ?_)
  refine y_aload 285 c218_284 rfl rfl rfl ?_
  refine y_iload 287 c218_285 rfl rfl ?_
  refine y_iconst 288 c218_287 rfl ?_
  refine y_iadd 289 c218_288 rfl ?_
  refine s_sc 290 c218_289 rfl hL (by omega) (fun s16 hs16 gs16 => ?_)
  refine y_aload 291 c218_290 rfl rfl rfl ?_
  refine y_iload 293 c218_291 rfl rfl ?_
  refine y_iconst 294 c218_293 rfl ?_
  refine y_iadd 295 c218_294 rfl ?_
  refine s_sc 296 c218_295 rfl hL (by omega) (fun s17 hs17 gs17 => ?_)
  refine y_aload 297 c218_296 rfl rfl rfl ?_
  refine y_callIB 300 [.ref 0, yI s15, yI s16, yI s17, .ref 413] [] c218_297 rfl rfl rfl rfl rfl (ycanS km165) (t165w (by omega) (by omega) (by omega) h) (fun rq18 mq18 nq18 hq18 => ?_)
  obtain ⟨hrq18, hnq18, hLq18⟩ := hq18
  have hTq18 := hLq18.2.1.1
  refine y_istore 302 c218_300 rfl rfl ?_
  refine y_aload 303 c218_302 rfl rfl rfl ?_
  refine y_aload 304 c218_303 rfl rfl rfl ?_
  refine y_iload 306 c218_304 rfl rfl ?_
  refine y_iconst 307 c218_306 rfl ?_
  refine y_iadd 308 c218_307 rfl ?_
  refine s_scX 309 s15 c218_308 rfl hL (by omega) hs15 ?_
  refine y_aload 310 c218_309 rfl rfl rfl ?_
  refine y_iload 312 c218_310 rfl rfl ?_
  refine y_iconst 313 c218_312 rfl ?_
  refine y_iadd 314 c218_313 rfl ?_
  refine s_scX 315 s16 c218_314 rfl hL (by omega) hs16 ?_
  refine y_aload 316 c218_315 rfl rfl rfl ?_
  refine y_iload 318 c218_316 rfl rfl ?_
  refine y_iconst 319 c218_318 rfl ?_
  refine y_iadd 320 c218_319 rfl ?_
  refine s_scX 321 s17 c218_320 rfl hL (by omega) hs17 ?_
  refine y_callIB 324 [.ref 376, yI s15, yI s16, yI s17] [] c218_321 rfl rfl rfl rfl rfl (ycanO km166 ko376) (t166w (by omega) (by omega) (by omega) hLq18) (fun rq19 mq19 nq19 hq19 => ?_)
  obtain ⟨hrq19, hnq19, hLq19⟩ := hq19
  have hTq19 := hLq19.2.1.1
  refine y_istore 326 c218_324 rfl rfl ?_
  refine y_goto 617 c218_326 rfl ?_
  exact hK _ _ _ _ hLq19 (by omega)
set_option maxRecDepth 100000 in
theorem lc_6 {L : Nat} {xs : Nat → Int32} {nn : Nat} {m : yM} {Q : xO → yM → Nat → Prop} {i : Int} (hL : L ≤ 2048) (hi : 0 ≤ i ∧ i + 4 ≤ (L : Int)) (h : LI m) {x5 x6 : Option Value} (hK : ∀ (y5 y6 : Option Value) (m' : yM) (n' : Nat), LI m' → n' ≤ nn + 1 → YW (gZ L xs) 218 1200 617 [some (.retAddr 0), some (.ref 0), some (.ref 376), some (.ref 413), some (yI i), y5, y6] [] m' n' Q) (hZ : ∀ (m' : yM) (n' : Nat), n' ≤ nn + 1 → Q (.inl (some (yI 0))) m' n') : YW (gZ L xs) 218 1200 329 [some (.retAddr 0), some (.ref 0), some (.ref 376), some (.ref 413), some (yI i), x5, x6] [] m nn Q := by
  have hT := h.2.1.1
  have l0 := hT.atp 0 6 0 320 rfl
  have l1 := hT.atp 376 1 0 320 rfl
  have l2 := h.2.2
  refine y_aload 330 c218_329 rfl rfl rfl ?_
  refine y_aload 331 c218_330 rfl rfl rfl ?_
  refine y_iload 333 c218_331 rfl rfl ?_
  refine y_iconst 334 c218_333 rfl ?_
  refine y_iadd 335 c218_334 rfl ?_
  refine s_sc 336 c218_335 rfl hL (by omega) (fun s20 hs20 gs20 => ?_)
  refine y_aload 337 c218_336 rfl rfl rfl ?_
  refine y_iload 339 c218_337 rfl rfl ?_
  refine y_iconst 340 c218_339 rfl ?_
  refine y_iadd 341 c218_340 rfl ?_
  refine s_sc 342 c218_341 rfl hL (by omega) (fun s21 hs21 gs21 => ?_)
  refine y_aload 343 c218_342 rfl rfl rfl ?_
  refine y_callIB 346 [.ref 0, yI s20, yI s21, .ref 413] [] c218_343 rfl rfl rfl rfl rfl (ycanS km169) (t169w (by omega) (by omega) h) (fun rq22 mq22 nq22 hq22 => ?_)
  obtain ⟨hrq22, hnq22, hLq22⟩ := hq22
  have hTq22 := hLq22.2.1.1
  refine y_istore 348 c218_346 rfl rfl ?_
  refine y_aload 349 c218_348 rfl rfl rfl ?_
  refine y_aload 350 c218_349 rfl rfl rfl ?_
  refine y_iload 352 c218_350 rfl rfl ?_
  refine y_iconst 353 c218_352 rfl ?_
  refine y_iadd 354 c218_353 rfl ?_
  refine s_scX 355 s20 c218_354 rfl hL (by omega) hs20 ?_
  refine y_aload 356 c218_355 rfl rfl rfl ?_
  refine y_iload 358 c218_356 rfl rfl ?_
  refine y_iconst 359 c218_358 rfl ?_
  refine y_iadd 360 c218_359 rfl ?_
  refine s_scX 361 s21 c218_360 rfl hL (by omega) hs21 ?_
  refine y_callIB 364 [.ref 376, yI s20, yI s21] [] c218_361 rfl rfl rfl rfl rfl (ycanO km171 ko376) (t171w (by omega) (by omega) hLq22) (fun rq23 mq23 nq23 hq23 => ?_)
  obtain ⟨hrq23, hnq23, hLq23⟩ := hq23
  have hTq23 := hLq23.2.1.1
  refine y_istore 366 c218_364 rfl rfl ?_
  refine y_goto 617 c218_366 rfl ?_
  exact hK _ _ _ _ hLq23 (by omega)
set_option maxRecDepth 100000 in
theorem lc_7 {L : Nat} {xs : Nat → Int32} {nn : Nat} {m : yM} {Q : xO → yM → Nat → Prop} {i : Int} (hL : L ≤ 2048) (hi : 0 ≤ i ∧ i + 4 ≤ (L : Int)) (h : LI m) {x5 x6 : Option Value} (hK : ∀ (y5 y6 : Option Value) (m' : yM) (n' : Nat), LI m' → n' ≤ nn + 1 → YW (gZ L xs) 218 1200 617 [some (.retAddr 0), some (.ref 0), some (.ref 376), some (.ref 413), some (yI i), y5, y6] [] m' n' Q) (hZ : ∀ (m' : yM) (n' : Nat), n' ≤ nn + 1 → Q (.inl (some (yI 0))) m' n') : YW (gZ L xs) 218 1200 369 [some (.retAddr 0), some (.ref 0), some (.ref 376), some (.ref 413), some (yI i), x5, x6] [] m nn Q := by
  have hT := h.2.1.1
  have l0 := hT.atp 0 6 0 320 rfl
  have l1 := hT.atp 376 1 0 320 rfl
  have l2 := h.2.2
  refine y_aload 370 c218_369 rfl rfl rfl ?_
  refine y_aload 371 c218_370 rfl rfl rfl ?_
  refine y_iload 373 c218_371 rfl rfl ?_
  refine y_iconst 374 c218_373 rfl ?_
  refine y_iadd 375 c218_374 rfl ?_
  refine s_sc 376 c218_375 rfl hL (by omega) (fun s24 hs24 gs24 => ?_)
  refine y_aload 377 c218_376 rfl rfl rfl ?_
  refine y_callIB 380 [.ref 0, yI s24, .ref 413] [] c218_377 rfl rfl rfl rfl rfl (ycanS km173) (t173w (by omega) h) (fun rq25 mq25 nq25 hq25 => ?_)
  obtain ⟨hrq25, hnq25, hLq25⟩ := hq25
  have hTq25 := hLq25.2.1.1
  refine y_istore 382 c218_380 rfl rfl ?_
  refine y_aload 383 c218_382 rfl rfl rfl ?_
  refine y_aload 384 c218_383 rfl rfl rfl ?_
  refine y_iload 386 c218_384 rfl rfl ?_
  refine y_iconst 387 c218_386 rfl ?_
  refine y_iadd 388 c218_387 rfl ?_
  refine s_scX 389 s24 c218_388 rfl hL (by omega) hs24 ?_
  refine y_callIB 392 [.ref 376, yI s24] [] c218_389 rfl rfl rfl rfl rfl (ycanO km174 ko376) (t174w (by omega) hLq25) (fun rq26 mq26 nq26 hq26 => ?_)
  obtain ⟨hrq26, hnq26, hLq26⟩ := hq26
  have hTq26 := hLq26.2.1.1
  refine y_istore 394 c218_392 rfl rfl ?_
  refine y_goto 617 c218_394 rfl ?_
  exact hK _ _ _ _ hLq26 (by omega)
set_option maxRecDepth 100000 in
theorem lc_8 {L : Nat} {xs : Nat → Int32} {nn : Nat} {m : yM} {Q : xO → yM → Nat → Prop} {i : Int} (hL : L ≤ 2048) (hi : 0 ≤ i ∧ i + 4 ≤ (L : Int)) (h : LI m) {x5 x6 : Option Value} (hK : ∀ (y5 y6 : Option Value) (m' : yM) (n' : Nat), LI m' → n' ≤ nn + 1 → YW (gZ L xs) 218 1200 617 [some (.retAddr 0), some (.ref 0), some (.ref 376), some (.ref 413), some (yI i), y5, y6] [] m' n' Q) (hZ : ∀ (m' : yM) (n' : Nat), n' ≤ nn + 1 → Q (.inl (some (yI 0))) m' n') : YW (gZ L xs) 218 1200 397 [some (.retAddr 0), some (.ref 0), some (.ref 376), some (.ref 413), some (yI i), x5, x6] [] m nn Q := by
  have hT := h.2.1.1
  have l0 := hT.atp 0 6 0 320 rfl
  have l1 := hT.atp 376 1 0 320 rfl
  have l2 := h.2.2
  refine y_aload 398 c218_397 rfl rfl rfl ?_
  refine y_aload 399 c218_398 rfl rfl rfl ?_
  refine y_iload 401 c218_399 rfl rfl ?_
  refine y_iconst 402 c218_401 rfl ?_
  refine y_iadd 403 c218_402 rfl ?_
  refine s_sc 404 c218_403 rfl hL (by omega) (fun s27 hs27 gs27 => ?_)
  refine y_aload 405 c218_404 rfl rfl rfl ?_
  refine y_callIB 408 [.ref 0, yI s27, .ref 413] [] c218_405 rfl rfl rfl rfl rfl (ycanS km177) (t177w (by omega) h) (fun rq28 mq28 nq28 hq28 => ?_)
  obtain ⟨hrq28, hnq28, hLq28⟩ := hq28
  have hTq28 := hLq28.2.1.1
  refine y_istore 410 c218_408 rfl rfl ?_
  refine y_aload 411 c218_410 rfl rfl rfl ?_
  refine y_aload 412 c218_411 rfl rfl rfl ?_
  refine y_iload 414 c218_412 rfl rfl ?_
  refine y_iconst 415 c218_414 rfl ?_
  refine y_iadd 416 c218_415 rfl ?_
  refine s_scX 417 s27 c218_416 rfl hL (by omega) hs27 ?_
  refine y_callIB 420 [.ref 376, yI s27] [] c218_417 rfl rfl rfl rfl rfl (ycanO km178 ko376) (t178w (by omega) hLq28) (fun rq29 mq29 nq29 hq29 => ?_)
  obtain ⟨hrq29, hnq29, hLq29⟩ := hq29
  have hTq29 := hLq29.2.1.1
  refine y_istore 422 c218_420 rfl rfl ?_
  refine y_goto 617 c218_422 rfl ?_
  exact hK _ _ _ _ hLq29 (by omega)
set_option maxRecDepth 100000 in
theorem lc_9 {L : Nat} {xs : Nat → Int32} {nn : Nat} {m : yM} {Q : xO → yM → Nat → Prop} {i : Int} (hL : L ≤ 2048) (hi : 0 ≤ i ∧ i + 4 ≤ (L : Int)) (h : LI m) {x5 x6 : Option Value} (hK : ∀ (y5 y6 : Option Value) (m' : yM) (n' : Nat), LI m' → n' ≤ nn + 1 → YW (gZ L xs) 218 1200 617 [some (.retAddr 0), some (.ref 0), some (.ref 376), some (.ref 413), some (yI i), y5, y6] [] m' n' Q) (hZ : ∀ (m' : yM) (n' : Nat), n' ≤ nn + 1 → Q (.inl (some (yI 0))) m' n') : YW (gZ L xs) 218 1200 425 [some (.retAddr 0), some (.ref 0), some (.ref 376), some (.ref 413), some (yI i), x5, x6] [] m nn Q := by
  have hT := h.2.1.1
  have l0 := hT.atp 0 6 0 320 rfl
  have l1 := hT.atp 376 1 0 320 rfl
  have l2 := h.2.2
  refine y_aload 426 c218_425 rfl rfl rfl ?_
  refine y_aload 427 c218_426 rfl rfl rfl ?_
  refine y_iload 429 c218_427 rfl rfl ?_
  refine y_iconst 430 c218_429 rfl ?_
  refine y_iadd 431 c218_430 rfl ?_
  refine s_sc 432 c218_431 rfl hL (by omega) (fun s30 hs30 gs30 => ?_)
  refine y_aload 433 c218_432 rfl rfl rfl ?_
  refine y_iload 435 c218_433 rfl rfl ?_
  refine y_iconst 436 c218_435 rfl ?_
  refine y_iadd 437 c218_436 rfl ?_
  refine s_sc 438 c218_437 rfl hL (by omega) (fun s31 hs31 gs31 => ?_)
  refine y_aload 439 c218_438 rfl rfl rfl ?_
  refine y_callIB 442 [.ref 0, yI s30, yI s31, .ref 413] [] c218_439 rfl rfl rfl rfl rfl (ycanS km181) (t181w (by omega) (by omega) h) (fun rq32 mq32 nq32 hq32 => ?_)
  obtain ⟨hrq32, hnq32, hLq32⟩ := hq32
  have hTq32 := hLq32.2.1.1
  refine y_istore 444 c218_442 rfl rfl ?_
  refine y_aload 445 c218_444 rfl rfl rfl ?_
  refine y_aload 446 c218_445 rfl rfl rfl ?_
  refine y_iload 448 c218_446 rfl rfl ?_
  refine y_iconst 449 c218_448 rfl ?_
  refine y_iadd 450 c218_449 rfl ?_
  refine s_scX 451 s30 c218_450 rfl hL (by omega) hs30 ?_
  refine y_aload 452 c218_451 rfl rfl rfl ?_
  refine y_iload 454 c218_452 rfl rfl ?_
  refine y_iconst 455 c218_454 rfl ?_
  refine y_iadd 456 c218_455 rfl ?_
  refine s_scX 457 s31 c218_456 rfl hL (by omega) hs31 ?_
  refine y_callIB 460 [.ref 376, yI s30, yI s31] [] c218_457 rfl rfl rfl rfl rfl (ycanO km182 ko376) (t182w (by omega) (by omega) hLq32) (fun rq33 mq33 nq33 hq33 => ?_)
  obtain ⟨hrq33, hnq33, hLq33⟩ := hq33
  have hTq33 := hLq33.2.1.1
  refine y_istore 462 c218_460 rfl rfl ?_
  refine y_goto 617 c218_462 rfl ?_
  exact hK _ _ _ _ hLq33 (by omega)
set_option maxRecDepth 100000 in
theorem lc_10 {L : Nat} {xs : Nat → Int32} {nn : Nat} {m : yM} {Q : xO → yM → Nat → Prop} {i : Int} (hL : L ≤ 2048) (hi : 0 ≤ i ∧ i + 4 ≤ (L : Int)) (h : LI m) {x5 x6 : Option Value} (hK : ∀ (y5 y6 : Option Value) (m' : yM) (n' : Nat), LI m' → n' ≤ nn + 1 → YW (gZ L xs) 218 1200 617 [some (.retAddr 0), some (.ref 0), some (.ref 376), some (.ref 413), some (yI i), y5, y6] [] m' n' Q) (hZ : ∀ (m' : yM) (n' : Nat), n' ≤ nn + 1 → Q (.inl (some (yI 0))) m' n') : YW (gZ L xs) 218 1200 465 [some (.retAddr 0), some (.ref 0), some (.ref 376), some (.ref 413), some (yI i), x5, x6] [] m nn Q := by
  have hT := h.2.1.1
  have l0 := hT.atp 0 6 0 320 rfl
  have l1 := hT.atp 376 1 0 320 rfl
  have l2 := h.2.2
  refine y_aload 466 c218_465 rfl rfl rfl ?_
  refine y_aload 467 c218_466 rfl rfl rfl ?_
  refine y_iload 469 c218_467 rfl rfl ?_
  refine y_iconst 470 c218_469 rfl ?_
  refine y_iadd 471 c218_470 rfl ?_
  refine s_sc 472 c218_471 rfl hL (by omega) (fun s34 hs34 gs34 => ?_)
  refine y_aload 473 c218_472 rfl rfl rfl ?_
  refine y_iload 475 c218_473 rfl rfl ?_
  refine y_iconst 476 c218_475 rfl ?_
  refine y_iadd 477 c218_476 rfl ?_
  refine s_sc 478 c218_477 rfl hL (by omega) (fun s35 hs35 gs35 => ?_)
  refine y_aload 479 c218_478 rfl rfl rfl ?_
  refine y_callIB 482 [.ref 0, yI s34, yI s35, .ref 413] [] c218_479 rfl rfl rfl rfl rfl (ycanS km184) (t184w (by omega) (by omega) h) (fun rq36 mq36 nq36 hq36 => ?_)
  obtain ⟨hrq36, hnq36, hLq36⟩ := hq36
  have hTq36 := hLq36.2.1.1
  refine y_istore 484 c218_482 rfl rfl ?_
  refine y_aload 485 c218_484 rfl rfl rfl ?_
  refine y_aload 486 c218_485 rfl rfl rfl ?_
  refine y_iload 488 c218_486 rfl rfl ?_
  refine y_iconst 489 c218_488 rfl ?_
  refine y_iadd 490 c218_489 rfl ?_
  refine s_scX 491 s34 c218_490 rfl hL (by omega) hs34 ?_
  refine y_aload 492 c218_491 rfl rfl rfl ?_
  refine y_iload 494 c218_492 rfl rfl ?_
  refine y_iconst 495 c218_494 rfl ?_
  refine y_iadd 496 c218_495 rfl ?_
  refine s_scX 497 s35 c218_496 rfl hL (by omega) hs35 ?_
  refine y_callIB 500 [.ref 376, yI s34, yI s35] [] c218_497 rfl rfl rfl rfl rfl (ycanO km185 ko376) (t185w (by omega) (by omega) hLq36) (fun rq37 mq37 nq37 hq37 => ?_)
  obtain ⟨hrq37, hnq37, hLq37⟩ := hq37
  have hTq37 := hLq37.2.1.1
  refine y_istore 502 c218_500 rfl rfl ?_
  refine y_goto 617 c218_502 rfl ?_
  exact hK _ _ _ _ hLq37 (by omega)
set_option maxRecDepth 100000 in
theorem lc_11 {L : Nat} {xs : Nat → Int32} {nn : Nat} {m : yM} {Q : xO → yM → Nat → Prop} {i : Int} (hL : L ≤ 2048) (hi : 0 ≤ i ∧ i + 4 ≤ (L : Int)) (h : LI m) {x5 x6 : Option Value} (hK : ∀ (y5 y6 : Option Value) (m' : yM) (n' : Nat), LI m' → n' ≤ nn + 1 → YW (gZ L xs) 218 1200 617 [some (.retAddr 0), some (.ref 0), some (.ref 376), some (.ref 413), some (yI i), y5, y6] [] m' n' Q) (hZ : ∀ (m' : yM) (n' : Nat), n' ≤ nn + 1 → Q (.inl (some (yI 0))) m' n') : YW (gZ L xs) 218 1200 505 [some (.retAddr 0), some (.ref 0), some (.ref 376), some (.ref 413), some (yI i), x5, x6] [] m nn Q := by
  have hT := h.2.1.1
  have l0 := hT.atp 0 6 0 320 rfl
  have l1 := hT.atp 376 1 0 320 rfl
  have l2 := h.2.2
  refine y_aload 506 c218_505 rfl rfl rfl ?_
  refine y_aload 507 c218_506 rfl rfl rfl ?_
  refine y_callIB 510 [.ref 0, .ref 413] [] c218_507 rfl rfl rfl rfl rfl (ycanS km200) (t200w h) (fun rq38 mq38 nq38 hq38 => ?_)
  obtain ⟨hrq38, hnq38, hLq38⟩ := hq38
  have hTq38 := hLq38.2.1.1
  refine y_istore 512 c218_510 rfl rfl ?_
  refine y_aload 513 c218_512 rfl rfl rfl ?_
  refine y_callIB 516 [.ref 376] [] c218_513 rfl rfl rfl rfl rfl (ycanO km211 ko376) (t211w hLq38) (fun rq39 mq39 nq39 hq39 => ?_)
  obtain ⟨hrq39, hnq39, hLq39⟩ := hq39
  have hTq39 := hLq39.2.1.1
  refine y_istore 518 c218_516 rfl rfl ?_
  refine y_goto 617 c218_518 rfl ?_
  exact hK _ _ _ _ hLq39 (by omega)
set_option maxRecDepth 100000 in
theorem lc_12 {L : Nat} {xs : Nat → Int32} {nn : Nat} {m : yM} {Q : xO → yM → Nat → Prop} {i : Int} (hL : L ≤ 2048) (hi : 0 ≤ i ∧ i + 4 ≤ (L : Int)) (h : LI m) {x5 x6 : Option Value} (hK : ∀ (y5 y6 : Option Value) (m' : yM) (n' : Nat), LI m' → n' ≤ nn + 1 → YW (gZ L xs) 218 1200 617 [some (.retAddr 0), some (.ref 0), some (.ref 376), some (.ref 413), some (yI i), y5, y6] [] m' n' Q) (hZ : ∀ (m' : yM) (n' : Nat), n' ≤ nn + 1 → Q (.inl (some (yI 0))) m' n') : YW (gZ L xs) 218 1200 521 [some (.retAddr 0), some (.ref 0), some (.ref 376), some (.ref 413), some (yI i), x5, x6] [] m nn Q := by
  have hT := h.2.1.1
  have l0 := hT.atp 0 6 0 320 rfl
  have l1 := hT.atp 376 1 0 320 rfl
  have l2 := h.2.2
  refine y_aload 522 c218_521 rfl rfl rfl ?_
  refine y_aload 523 c218_522 rfl rfl rfl ?_
  refine y_iload 525 c218_523 rfl rfl ?_
  refine y_iconst 526 c218_525 rfl ?_
  refine y_iadd 527 c218_526 rfl ?_
  refine s_sc 528 c218_527 rfl hL (by omega) (fun s40 hs40 gs40 => ?_)
  refine y_aload 529 c218_528 rfl rfl rfl ?_
  refine y_iload 531 c218_529 rfl rfl ?_
  refine y_iconst 532 c218_531 rfl ?_
  refine y_iadd 533 c218_532 rfl ?_
  refine s_sc 534 c218_533 rfl hL (by omega) (fun s41 hs41 gs41 => ?_)
  refine y_aload 535 c218_534 rfl rfl rfl ?_
  refine y_callIB 538 [.ref 0, yI s40, yI s41, .ref 413] [] c218_535 rfl rfl rfl rfl rfl (ycanS km213) (t213w (by omega) (by omega) h) (fun rq42 mq42 nq42 hq42 => ?_)
  obtain ⟨hrq42, hnq42, hLq42⟩ := hq42
  have hTq42 := hLq42.2.1.1
  refine y_istore 540 c218_538 rfl rfl ?_
  refine y_aload 541 c218_540 rfl rfl rfl ?_
  refine y_aload 542 c218_541 rfl rfl rfl ?_
  refine y_iload 544 c218_542 rfl rfl ?_
  refine y_iconst 545 c218_544 rfl ?_
  refine y_iadd 546 c218_545 rfl ?_
  refine s_scX 547 s40 c218_546 rfl hL (by omega) hs40 ?_
  refine y_aload 548 c218_547 rfl rfl rfl ?_
  refine y_iload 550 c218_548 rfl rfl ?_
  refine y_iconst 551 c218_550 rfl ?_
  refine y_iadd 552 c218_551 rfl ?_
  refine s_scX 553 s41 c218_552 rfl hL (by omega) hs41 ?_
  refine y_callIB 556 [.ref 376, yI s40, yI s41] [] c218_553 rfl rfl rfl rfl rfl (ycanO km214 ko376) (t214w (by omega) (by omega) hLq42) (fun rq43 mq43 nq43 hq43 => ?_)
  obtain ⟨hrq43, hnq43, hLq43⟩ := hq43
  have hTq43 := hLq43.2.1.1
  refine y_istore 558 c218_556 rfl rfl ?_
  refine y_aload 559 c218_558 rfl rfl rfl ?_
  refine y_inlB 562 [.ref 376] [] [some (.ref 376)] c218_559 rfl rfl rfl rfl rfl (ycanO km26 ko376) kn26 rfl rfl ?_
  refine y_aload 1 c26_0 rfl rfl rfl ?_
  refine y_getX 4 (mq43 376 57) c26_1 rfl kf376_57 rfl ?_
  have tb44 := hTq43.atp 376 57 0 4 rfl
  refine y_ireturnK c26_4 (y_fit0 _) ?_
  refine y_iload 564 c218_562 rfl rfl ?_
  refine y_icmp 569 567 c218_564 rfl rfl (yc_eq (by omega) (by omega)) (fun hb45 => ?_) (fun hb45 => ?_)
  · refine y_iload 571 c218_569 rfl rfl ?_
    refine y_if 586 574 c218_571 rfl rfl (yz_ne (by omega)) (fun hb46 => ?_) (fun hb46 => ?_)
    · refine y_goto 617 c218_586 rfl ?_
      exact hK _ _ _ _ hLq43 (by omega)
    · refine y_aload 575 c218_574 rfl rfl rfl ?_
      refine y_iconst 576 c218_575 rfl ?_
      refine y_laX 577 (mq43 413 0) c218_576 rfl kl413 (by decide) rfl ?_
      refine y_iload 579 c218_577 rfl rfl ?_
      refine y_i2l 580 c218_579 rfl ?_
      refine y_lcmpU 581 c218_580 rfl (fun zc47 gzc47 => ?_)
      refine y_if 586 584 c218_581 rfl rfl (yz_eq (by omega)) (fun hb48 => ?_) (fun hb48 => ?_)
      · refine y_goto 617 c218_586 rfl ?_
        exact hK _ _ _ _ hLq43 (by omega)
      · refine y_iconst 585 c218_584 rfl ?_
        exact y_ireturn c218_585 (y_fit1 (by omega)) (hZ _ _ (by omega))
  · refine y_iconst 568 c218_567 rfl ?_
    exact y_ireturn c218_568 (y_fit1 (by omega)) (hZ _ _ (by omega))
set_option maxRecDepth 100000 in
theorem lc_13 {L : Nat} {xs : Nat → Int32} {nn : Nat} {m : yM} {Q : xO → yM → Nat → Prop} {i : Int} (hL : L ≤ 2048) (hi : 0 ≤ i ∧ i + 4 ≤ (L : Int)) (h : LI m) {x5 x6 : Option Value} (hK : ∀ (y5 y6 : Option Value) (m' : yM) (n' : Nat), LI m' → n' ≤ nn + 1 → YW (gZ L xs) 218 1200 617 [some (.retAddr 0), some (.ref 0), some (.ref 376), some (.ref 413), some (yI i), y5, y6] [] m' n' Q) (hZ : ∀ (m' : yM) (n' : Nat), n' ≤ nn + 1 → Q (.inl (some (yI 0))) m' n') : YW (gZ L xs) 218 1200 589 [some (.retAddr 0), some (.ref 0), some (.ref 376), some (.ref 413), some (yI i), x5, x6] [] m nn Q := by
  have hT := h.2.1.1
  have l0 := hT.atp 0 6 0 320 rfl
  have l1 := hT.atp 376 1 0 320 rfl
  have l2 := h.2.2
  refine y_aload 590 c218_589 rfl rfl rfl ?_
  refine y_aload 591 c218_590 rfl rfl rfl ?_
  refine y_iload 593 c218_591 rfl rfl ?_
  refine y_iconst 594 c218_593 rfl ?_
  refine y_iadd 595 c218_594 rfl ?_
  refine s_sc 596 c218_595 rfl hL (by omega) (fun s49 hs49 gs49 => ?_)
  refine y_aload 597 c218_596 rfl rfl rfl ?_
  refine y_callIB 600 [.ref 0, yI s49, .ref 413] [] c218_597 rfl rfl rfl rfl rfl (ycanS km216) (t216w (by omega) h) (fun rq50 mq50 nq50 hq50 => ?_)
  obtain ⟨hrq50, hnq50, hLq50⟩ := hq50
  have hTq50 := hLq50.2.1.1
  refine y_istore 602 c218_600 rfl rfl ?_
  refine y_aload 603 c218_602 rfl rfl rfl ?_
  refine y_aload 604 c218_603 rfl rfl rfl ?_
  refine y_iload 606 c218_604 rfl rfl ?_
  refine y_iconst 607 c218_606 rfl ?_
  refine y_iadd 608 c218_607 rfl ?_
  refine s_scX 609 s49 c218_608 rfl hL (by omega) hs49 ?_
  refine y_callIB 612 [.ref 376, yI s49] [] c218_609 rfl rfl rfl rfl rfl (ycanO km217 ko376) (t217w (by omega) hLq50) (fun rq51 mq51 nq51 hq51 => ?_)
  obtain ⟨hrq51, hnq51, hLq51⟩ := hq51
  have hTq51 := hLq51.2.1.1
  refine y_istore 614 c218_612 rfl rfl ?_
  refine y_goto 617 c218_614 rfl ?_
  exact hK _ _ _ _ hLq51 (by omega)
end
section
/-! THE LAW, its loop. Printed by wip/whole/gen9k.py -/
abbrev gQ2 : xO → yM → Nat → Prop := fun r _ n => (r = .inl (some (yI 0)) ∨ r = .inl (some (yI 1))) ∧ n ≤ 2462
set_option maxRecDepth 100000 in
theorem lw_go {L : Nat} {xs : Nat → Int32} (hL : L ≤ 2048) : ∀ (k : Nat) (i : Int) (x5 x6 : Option Value) (m : yM) (n : Nat), (L : Int) - i = k → (0 ≤ i ∧ i ≤ (L : Int)) → LI m → (n : Int) ≤ 414 + i → YW (gZ L xs) 218 1200 23 [some (.retAddr 0), some (.ref 0), some (.ref 376), some (.ref 413), some (yI i), x5, x6] [] m n gQ2 := by
  intro k
  induction k using Nat.strongRecOn with
  | ind k ih =>
    intro i x5 x6 m n hk hi h hn
    refine y_iload 25 c218_23 rfl rfl ?_
    refine y_aload 26 c218_25 rfl rfl rfl ?_
    refine s_len 27 c218_26 rfl ?_
    refine y_iconst 28 c218_27 rfl ?_
    refine y_isub 29 c218_28 rfl ?_
    refine y_icmp 623 32 c218_29 rfl rfl (yc_gt (by omega) (by omega)) (fun hb52 => ?_) (fun hb52 => ?_)
    · refine y_iconst 624 c218_623 rfl ?_
      exact y_ireturn c218_624 (y_fit1 (by omega)) ⟨Or.inr rfl, by omega⟩
    · have hN : ∀ (y5 y6 : Option Value) (m' : yM) (n' : Nat), LI m' → n' ≤ n + 1 → YW (gZ L xs) 218 1200 617 [some (.retAddr 0), some (.ref 0), some (.ref 376), some (.ref 413), some (yI i), y5, y6] [] m' n' gQ2 := by
        intro y5 y6 m2 n2 h2 hn2
        refine y_iinc 620 c218_617 rfl rfl rfl ?_
        refine y_goto 23 c218_620 rfl ?_
        exact ih ((L : Int) - (i + 4)).toNat (by omega) (i + 4) y5 y6 m2 n2 (by omega) (by omega) h2 (by omega)
      refine y_aload 33 c218_32 rfl rfl rfl ?_
      refine y_iload 35 c218_33 rfl rfl ?_
      refine s_sc 36 c218_35 rfl hL (by omega) (fun s53 hs53 gs53 => ?_)
      refine y_iconst 38 c218_36 rfl ?_
      refine y_iand 39 c218_38 rfl ?_
      refine y_nam (fun b54 hb54 => ?_)
      have gb54 : -2147483648 ≤ b54 ∧ b54 < 2147483648 := by rw [hb54]; exact i32r _
      by_cases hk55 : b54 = 0
      · refine y_top 0 hk55 ?_
        refine y_tsw 108 c218_39 (by decide) (by decide) rfl rfl ?_
        exact lc_0 hL (by omega) h hN (fun m' n' z => ⟨Or.inl rfl, by omega⟩)
      by_cases hk56 : b54 = 1
      · refine y_top 1 hk56 ?_
        refine y_tsw 180 c218_39 (by decide) (by decide) rfl rfl ?_
        exact lc_1 hL (by omega) h hN (fun m' n' z => ⟨Or.inl rfl, by omega⟩)
      by_cases hk57 : b54 = 2
      · refine y_top 2 hk57 ?_
        refine y_tsw 208 c218_39 (by decide) (by decide) rfl rfl ?_
        exact lc_2 hL (by omega) h hN (fun m' n' z => ⟨Or.inl rfl, by omega⟩)
      by_cases hk58 : b54 = 3
      · refine y_top 3 hk58 ?_
        refine y_tsw 224 c218_39 (by decide) (by decide) rfl rfl ?_
        exact lc_3 hL (by omega) h hN (fun m' n' z => ⟨Or.inl rfl, by omega⟩)
      by_cases hk59 : b54 = 4
      · refine y_top 4 hk59 ?_
        refine y_tsw 237 c218_39 (by decide) (by decide) rfl rfl ?_
        exact lc_4 hL (by omega) h hN (fun m' n' z => ⟨Or.inl rfl, by omega⟩)
      by_cases hk60 : b54 = 5
      · refine y_top 5 hk60 ?_
        refine y_tsw 277 c218_39 (by decide) (by decide) rfl rfl ?_
        exact lc_5 hL (by omega) h hN (fun m' n' z => ⟨Or.inl rfl, by omega⟩)
      by_cases hk61 : b54 = 6
      · refine y_top 6 hk61 ?_
        refine y_tsw 329 c218_39 (by decide) (by decide) rfl rfl ?_
        exact lc_6 hL (by omega) h hN (fun m' n' z => ⟨Or.inl rfl, by omega⟩)
      by_cases hk62 : b54 = 7
      · refine y_top 7 hk62 ?_
        refine y_tsw 369 c218_39 (by decide) (by decide) rfl rfl ?_
        exact lc_7 hL (by omega) h hN (fun m' n' z => ⟨Or.inl rfl, by omega⟩)
      by_cases hk63 : b54 = 8
      · refine y_top 8 hk63 ?_
        refine y_tsw 397 c218_39 (by decide) (by decide) rfl rfl ?_
        exact lc_8 hL (by omega) h hN (fun m' n' z => ⟨Or.inl rfl, by omega⟩)
      by_cases hk64 : b54 = 9
      · refine y_top 9 hk64 ?_
        refine y_tsw 425 c218_39 (by decide) (by decide) rfl rfl ?_
        exact lc_9 hL (by omega) h hN (fun m' n' z => ⟨Or.inl rfl, by omega⟩)
      by_cases hk65 : b54 = 10
      · refine y_top 10 hk65 ?_
        refine y_tsw 465 c218_39 (by decide) (by decide) rfl rfl ?_
        exact lc_10 hL (by omega) h hN (fun m' n' z => ⟨Or.inl rfl, by omega⟩)
      by_cases hk66 : b54 = 11
      · refine y_top 11 hk66 ?_
        refine y_tsw 505 c218_39 (by decide) (by decide) rfl rfl ?_
        exact lc_11 hL (by omega) h hN (fun m' n' z => ⟨Or.inl rfl, by omega⟩)
      by_cases hk67 : b54 = 12
      · refine y_top 12 hk67 ?_
        refine y_tsw 521 c218_39 (by decide) (by decide) rfl rfl ?_
        exact lc_12 hL (by omega) h hN (fun m' n' z => ⟨Or.inl rfl, by omega⟩)
      by_cases hk68 : b54 = 13
      · refine y_top 13 hk68 ?_
        refine y_tsw 589 c218_39 (by decide) (by decide) rfl rfl ?_
        exact lc_13 hL (by omega) h hN (fun m' n' z => ⟨Or.inl rfl, by omega⟩)
      refine y_tswd 617 c218_39 (by omega) (by omega) rfl ?_
      exact hN _ _ _ _ h (by omega)
end
