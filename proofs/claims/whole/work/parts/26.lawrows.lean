/-! ===== the law: names, decode rows, rows for its script, the invariant ===== -/
abbrev YL_law : jY := (x, code, maxLocals, ret)
theorem dL_law_0 : decode code 0 = .ok (.new 7, 3) := by decide +kernel
theorem dL_law_3 : decode code 3 = .ok (.dup, 1) := by decide +kernel
theorem dL_law_4 : decode code 4 = .ok (.invokespecial 9, 3) := by decide +kernel
theorem dL_law_7 : decode code 7 = .ok (.astore_n 1, 1) := by decide +kernel
theorem dL_law_8 : decode code 8 = .ok (.new 10, 3) := by decide +kernel
theorem dL_law_11 : decode code 11 = .ok (.dup, 1) := by decide +kernel
theorem dL_law_12 : decode code 12 = .ok (.invokespecial 12, 3) := by decide +kernel
theorem dL_law_15 : decode code 15 = .ok (.astore_n 2, 1) := by decide +kernel
theorem dL_law_16 : decode code 16 = .ok (.iconst 0, 1) := by decide +kernel
theorem dL_law_17 : decode code 17 = .ok (.istore_n 3, 1) := by decide +kernel
theorem dL_law_18 : decode code 18 = .ok (.iload_n 3, 1) := by decide +kernel
theorem dL_law_19 : decode code 19 = .ok (.aload_n 0, 1) := by decide +kernel
theorem dL_law_20 : decode code 20 = .ok (.arraylength, 1) := by decide +kernel
theorem dL_law_21 : decode code 21 = .ok (.iconst 5, 1) := by decide +kernel
theorem dL_law_22 : decode code 22 = .ok (.isub, 1) := by decide +kernel
theorem dL_law_23 : decode code 23 = .ok (.if_icmp .gt 432, 3) := by decide +kernel
theorem dL_law_26 : decode code 26 = .ok (.aload_n 0, 1) := by decide +kernel
theorem dL_law_27 : decode code 27 = .ok (.iload_n 3, 1) := by decide +kernel
theorem dL_law_28 : decode code 28 = .ok (.iaload, 1) := by decide +kernel
theorem dL_law_29 : decode code 29 = .ok (.bipush 15, 2) := by decide +kernel
theorem dL_law_31 : decode code 31 = .ok (.iand, 1) := by decide +kernel
theorem dL_law_32 : decode code 32 = .ok (.tableswitch 417 0 12 #[68, 101, 124, 157, 180, 203, 256, 269, 302, 315, 328, 361, 394], 68) := by decide +kernel
theorem dL_law_100 : decode code 100 = .ok (.aload_n 1, 1) := by decide +kernel
theorem dL_law_101 : decode code 101 = .ok (.aload_n 0, 1) := by decide +kernel
theorem dL_law_102 : decode code 102 = .ok (.iload_n 3, 1) := by decide +kernel
theorem dL_law_103 : decode code 103 = .ok (.iconst 1, 1) := by decide +kernel
theorem dL_law_104 : decode code 104 = .ok (.iadd, 1) := by decide +kernel
theorem dL_law_105 : decode code 105 = .ok (.iaload, 1) := by decide +kernel
theorem dL_law_106 : decode code 106 = .ok (.aload_n 0, 1) := by decide +kernel
theorem dL_law_107 : decode code 107 = .ok (.iload_n 3, 1) := by decide +kernel
theorem dL_law_108 : decode code 108 = .ok (.iconst 2, 1) := by decide +kernel
theorem dL_law_109 : decode code 109 = .ok (.iadd, 1) := by decide +kernel
theorem dL_law_110 : decode code 110 = .ok (.iaload, 1) := by decide +kernel
theorem dL_law_111 : decode code 111 = .ok (.invokevirtual 13, 3) := by decide +kernel
theorem dL_law_114 : decode code 114 = .ok (.aload_n 2, 1) := by decide +kernel
theorem dL_law_115 : decode code 115 = .ok (.aload_n 0, 1) := by decide +kernel
theorem dL_law_116 : decode code 116 = .ok (.iload_n 3, 1) := by decide +kernel
theorem dL_law_117 : decode code 117 = .ok (.iconst 1, 1) := by decide +kernel
theorem dL_law_118 : decode code 118 = .ok (.iadd, 1) := by decide +kernel
theorem dL_law_119 : decode code 119 = .ok (.iaload, 1) := by decide +kernel
theorem dL_law_120 : decode code 120 = .ok (.aload_n 0, 1) := by decide +kernel
theorem dL_law_121 : decode code 121 = .ok (.iload_n 3, 1) := by decide +kernel
theorem dL_law_122 : decode code 122 = .ok (.iconst 2, 1) := by decide +kernel
theorem dL_law_123 : decode code 123 = .ok (.iadd, 1) := by decide +kernel
theorem dL_law_124 : decode code 124 = .ok (.iaload, 1) := by decide +kernel
theorem dL_law_125 : decode code 125 = .ok (.invokevirtual 17, 3) := by decide +kernel
theorem dL_law_128 : decode code 128 = .ok (.if_icmp .eq 321, 3) := by decide +kernel
theorem dL_law_131 : decode code 131 = .ok (.iconst 0, 1) := by decide +kernel
theorem dL_law_132 : decode code 132 = .ok (.ireturn, 1) := by decide +kernel
theorem dL_law_133 : decode code 133 = .ok (.aload_n 1, 1) := by decide +kernel
theorem dL_law_134 : decode code 134 = .ok (.aload_n 0, 1) := by decide +kernel
theorem dL_law_135 : decode code 135 = .ok (.iload_n 3, 1) := by decide +kernel
theorem dL_law_136 : decode code 136 = .ok (.iconst 1, 1) := by decide +kernel
theorem dL_law_137 : decode code 137 = .ok (.iadd, 1) := by decide +kernel
theorem dL_law_138 : decode code 138 = .ok (.iaload, 1) := by decide +kernel
theorem dL_law_139 : decode code 139 = .ok (.invokevirtual 18, 3) := by decide +kernel
theorem dL_law_142 : decode code 142 = .ok (.aload_n 2, 1) := by decide +kernel
theorem dL_law_143 : decode code 143 = .ok (.aload_n 0, 1) := by decide +kernel
theorem dL_law_144 : decode code 144 = .ok (.iload_n 3, 1) := by decide +kernel
theorem dL_law_145 : decode code 145 = .ok (.iconst 1, 1) := by decide +kernel
theorem dL_law_146 : decode code 146 = .ok (.iadd, 1) := by decide +kernel
theorem dL_law_147 : decode code 147 = .ok (.iaload, 1) := by decide +kernel
theorem dL_law_148 : decode code 148 = .ok (.invokevirtual 22, 3) := by decide +kernel
theorem dL_law_151 : decode code 151 = .ok (.if_icmp .eq 298, 3) := by decide +kernel
theorem dL_law_154 : decode code 154 = .ok (.iconst 0, 1) := by decide +kernel
theorem dL_law_155 : decode code 155 = .ok (.ireturn, 1) := by decide +kernel
theorem dL_law_156 : decode code 156 = .ok (.aload_n 1, 1) := by decide +kernel
theorem dL_law_157 : decode code 157 = .ok (.aload_n 0, 1) := by decide +kernel
theorem dL_law_158 : decode code 158 = .ok (.iload_n 3, 1) := by decide +kernel
theorem dL_law_159 : decode code 159 = .ok (.iconst 1, 1) := by decide +kernel
theorem dL_law_160 : decode code 160 = .ok (.iadd, 1) := by decide +kernel
theorem dL_law_161 : decode code 161 = .ok (.iaload, 1) := by decide +kernel
theorem dL_law_162 : decode code 162 = .ok (.aload_n 0, 1) := by decide +kernel
theorem dL_law_163 : decode code 163 = .ok (.iload_n 3, 1) := by decide +kernel
theorem dL_law_164 : decode code 164 = .ok (.iconst 2, 1) := by decide +kernel
theorem dL_law_165 : decode code 165 = .ok (.iadd, 1) := by decide +kernel
theorem dL_law_166 : decode code 166 = .ok (.iaload, 1) := by decide +kernel
theorem dL_law_167 : decode code 167 = .ok (.invokevirtual 23, 3) := by decide +kernel
theorem dL_law_170 : decode code 170 = .ok (.aload_n 2, 1) := by decide +kernel
theorem dL_law_171 : decode code 171 = .ok (.aload_n 0, 1) := by decide +kernel
theorem dL_law_172 : decode code 172 = .ok (.iload_n 3, 1) := by decide +kernel
theorem dL_law_173 : decode code 173 = .ok (.iconst 1, 1) := by decide +kernel
theorem dL_law_174 : decode code 174 = .ok (.iadd, 1) := by decide +kernel
theorem dL_law_175 : decode code 175 = .ok (.iaload, 1) := by decide +kernel
theorem dL_law_176 : decode code 176 = .ok (.aload_n 0, 1) := by decide +kernel
theorem dL_law_177 : decode code 177 = .ok (.iload_n 3, 1) := by decide +kernel
theorem dL_law_178 : decode code 178 = .ok (.iconst 2, 1) := by decide +kernel
theorem dL_law_179 : decode code 179 = .ok (.iadd, 1) := by decide +kernel
theorem dL_law_180 : decode code 180 = .ok (.iaload, 1) := by decide +kernel
theorem dL_law_181 : decode code 181 = .ok (.invokevirtual 26, 3) := by decide +kernel
theorem dL_law_184 : decode code 184 = .ok (.if_icmp .eq 265, 3) := by decide +kernel
theorem dL_law_187 : decode code 187 = .ok (.iconst 0, 1) := by decide +kernel
theorem dL_law_188 : decode code 188 = .ok (.ireturn, 1) := by decide +kernel
theorem dL_law_189 : decode code 189 = .ok (.aload_n 1, 1) := by decide +kernel
theorem dL_law_190 : decode code 190 = .ok (.aload_n 0, 1) := by decide +kernel
theorem dL_law_191 : decode code 191 = .ok (.iload_n 3, 1) := by decide +kernel
theorem dL_law_192 : decode code 192 = .ok (.iconst 1, 1) := by decide +kernel
theorem dL_law_193 : decode code 193 = .ok (.iadd, 1) := by decide +kernel
theorem dL_law_194 : decode code 194 = .ok (.iaload, 1) := by decide +kernel
theorem dL_law_195 : decode code 195 = .ok (.invokevirtual 27, 3) := by decide +kernel
theorem dL_law_198 : decode code 198 = .ok (.aload_n 2, 1) := by decide +kernel
theorem dL_law_199 : decode code 199 = .ok (.aload_n 0, 1) := by decide +kernel
theorem dL_law_200 : decode code 200 = .ok (.iload_n 3, 1) := by decide +kernel
theorem dL_law_201 : decode code 201 = .ok (.iconst 1, 1) := by decide +kernel
theorem dL_law_202 : decode code 202 = .ok (.iadd, 1) := by decide +kernel
theorem dL_law_203 : decode code 203 = .ok (.iaload, 1) := by decide +kernel
theorem dL_law_204 : decode code 204 = .ok (.invokevirtual 31, 3) := by decide +kernel
theorem dL_law_207 : decode code 207 = .ok (.if_icmp .eq 242, 3) := by decide +kernel
theorem dL_law_210 : decode code 210 = .ok (.iconst 0, 1) := by decide +kernel
theorem dL_law_211 : decode code 211 = .ok (.ireturn, 1) := by decide +kernel
theorem dL_law_212 : decode code 212 = .ok (.aload_n 1, 1) := by decide +kernel
theorem dL_law_213 : decode code 213 = .ok (.aload_n 0, 1) := by decide +kernel
theorem dL_law_214 : decode code 214 = .ok (.iload_n 3, 1) := by decide +kernel
theorem dL_law_215 : decode code 215 = .ok (.iconst 1, 1) := by decide +kernel
theorem dL_law_216 : decode code 216 = .ok (.iadd, 1) := by decide +kernel
theorem dL_law_217 : decode code 217 = .ok (.iaload, 1) := by decide +kernel
theorem dL_law_218 : decode code 218 = .ok (.invokevirtual 32, 3) := by decide +kernel
theorem dL_law_221 : decode code 221 = .ok (.aload_n 2, 1) := by decide +kernel
theorem dL_law_222 : decode code 222 = .ok (.aload_n 0, 1) := by decide +kernel
theorem dL_law_223 : decode code 223 = .ok (.iload_n 3, 1) := by decide +kernel
theorem dL_law_224 : decode code 224 = .ok (.iconst 1, 1) := by decide +kernel
theorem dL_law_225 : decode code 225 = .ok (.iadd, 1) := by decide +kernel
theorem dL_law_226 : decode code 226 = .ok (.iaload, 1) := by decide +kernel
theorem dL_law_227 : decode code 227 = .ok (.invokevirtual 35, 3) := by decide +kernel
theorem dL_law_230 : decode code 230 = .ok (.if_icmp .eq 219, 3) := by decide +kernel
theorem dL_law_233 : decode code 233 = .ok (.iconst 0, 1) := by decide +kernel
theorem dL_law_234 : decode code 234 = .ok (.ireturn, 1) := by decide +kernel
theorem dL_law_235 : decode code 235 = .ok (.aload_n 1, 1) := by decide +kernel
theorem dL_law_236 : decode code 236 = .ok (.aload_n 0, 1) := by decide +kernel
theorem dL_law_237 : decode code 237 = .ok (.iload_n 3, 1) := by decide +kernel
theorem dL_law_238 : decode code 238 = .ok (.iconst 1, 1) := by decide +kernel
theorem dL_law_239 : decode code 239 = .ok (.iadd, 1) := by decide +kernel
theorem dL_law_240 : decode code 240 = .ok (.iaload, 1) := by decide +kernel
theorem dL_law_241 : decode code 241 = .ok (.aload_n 0, 1) := by decide +kernel
theorem dL_law_242 : decode code 242 = .ok (.iload_n 3, 1) := by decide +kernel
theorem dL_law_243 : decode code 243 = .ok (.iconst 2, 1) := by decide +kernel
theorem dL_law_244 : decode code 244 = .ok (.iadd, 1) := by decide +kernel
theorem dL_law_245 : decode code 245 = .ok (.iaload, 1) := by decide +kernel
theorem dL_law_246 : decode code 246 = .ok (.aload_n 0, 1) := by decide +kernel
theorem dL_law_247 : decode code 247 = .ok (.iload_n 3, 1) := by decide +kernel
theorem dL_law_248 : decode code 248 = .ok (.iconst 3, 1) := by decide +kernel
theorem dL_law_249 : decode code 249 = .ok (.iadd, 1) := by decide +kernel
theorem dL_law_250 : decode code 250 = .ok (.iaload, 1) := by decide +kernel
theorem dL_law_251 : decode code 251 = .ok (.aload_n 0, 1) := by decide +kernel
theorem dL_law_252 : decode code 252 = .ok (.iload_n 3, 1) := by decide +kernel
theorem dL_law_253 : decode code 253 = .ok (.iconst 4, 1) := by decide +kernel
theorem dL_law_254 : decode code 254 = .ok (.iadd, 1) := by decide +kernel
theorem dL_law_255 : decode code 255 = .ok (.iaload, 1) := by decide +kernel
theorem dL_law_256 : decode code 256 = .ok (.invokevirtual 36, 3) := by decide +kernel
theorem dL_law_259 : decode code 259 = .ok (.aload_n 2, 1) := by decide +kernel
theorem dL_law_260 : decode code 260 = .ok (.aload_n 0, 1) := by decide +kernel
theorem dL_law_261 : decode code 261 = .ok (.iload_n 3, 1) := by decide +kernel
theorem dL_law_262 : decode code 262 = .ok (.iconst 1, 1) := by decide +kernel
theorem dL_law_263 : decode code 263 = .ok (.iadd, 1) := by decide +kernel
theorem dL_law_264 : decode code 264 = .ok (.iaload, 1) := by decide +kernel
theorem dL_law_265 : decode code 265 = .ok (.aload_n 0, 1) := by decide +kernel
theorem dL_law_266 : decode code 266 = .ok (.iload_n 3, 1) := by decide +kernel
theorem dL_law_267 : decode code 267 = .ok (.iconst 2, 1) := by decide +kernel
theorem dL_law_268 : decode code 268 = .ok (.iadd, 1) := by decide +kernel
theorem dL_law_269 : decode code 269 = .ok (.iaload, 1) := by decide +kernel
theorem dL_law_270 : decode code 270 = .ok (.aload_n 0, 1) := by decide +kernel
theorem dL_law_271 : decode code 271 = .ok (.iload_n 3, 1) := by decide +kernel
theorem dL_law_272 : decode code 272 = .ok (.iconst 3, 1) := by decide +kernel
theorem dL_law_273 : decode code 273 = .ok (.iadd, 1) := by decide +kernel
theorem dL_law_274 : decode code 274 = .ok (.iaload, 1) := by decide +kernel
theorem dL_law_275 : decode code 275 = .ok (.aload_n 0, 1) := by decide +kernel
theorem dL_law_276 : decode code 276 = .ok (.iload_n 3, 1) := by decide +kernel
theorem dL_law_277 : decode code 277 = .ok (.iconst 4, 1) := by decide +kernel
theorem dL_law_278 : decode code 278 = .ok (.iadd, 1) := by decide +kernel
theorem dL_law_279 : decode code 279 = .ok (.iaload, 1) := by decide +kernel
theorem dL_law_280 : decode code 280 = .ok (.invokevirtual 40, 3) := by decide +kernel
theorem dL_law_283 : decode code 283 = .ok (.if_icmp .eq 166, 3) := by decide +kernel
theorem dL_law_286 : decode code 286 = .ok (.iconst 0, 1) := by decide +kernel
theorem dL_law_287 : decode code 287 = .ok (.ireturn, 1) := by decide +kernel
theorem dL_law_288 : decode code 288 = .ok (.aload_n 1, 1) := by decide +kernel
theorem dL_law_289 : decode code 289 = .ok (.invokevirtual 41, 3) := by decide +kernel
theorem dL_law_292 : decode code 292 = .ok (.aload_n 2, 1) := by decide +kernel
theorem dL_law_293 : decode code 293 = .ok (.invokevirtual 45, 3) := by decide +kernel
theorem dL_law_296 : decode code 296 = .ok (.if_icmp .eq 153, 3) := by decide +kernel
theorem dL_law_299 : decode code 299 = .ok (.iconst 0, 1) := by decide +kernel
theorem dL_law_300 : decode code 300 = .ok (.ireturn, 1) := by decide +kernel
theorem dL_law_301 : decode code 301 = .ok (.aload_n 1, 1) := by decide +kernel
theorem dL_law_302 : decode code 302 = .ok (.aload_n 0, 1) := by decide +kernel
theorem dL_law_303 : decode code 303 = .ok (.iload_n 3, 1) := by decide +kernel
theorem dL_law_304 : decode code 304 = .ok (.iconst 1, 1) := by decide +kernel
theorem dL_law_305 : decode code 305 = .ok (.iadd, 1) := by decide +kernel
theorem dL_law_306 : decode code 306 = .ok (.iaload, 1) := by decide +kernel
theorem dL_law_307 : decode code 307 = .ok (.aload_n 0, 1) := by decide +kernel
theorem dL_law_308 : decode code 308 = .ok (.iload_n 3, 1) := by decide +kernel
theorem dL_law_309 : decode code 309 = .ok (.iconst 2, 1) := by decide +kernel
theorem dL_law_310 : decode code 310 = .ok (.iadd, 1) := by decide +kernel
theorem dL_law_311 : decode code 311 = .ok (.iaload, 1) := by decide +kernel
theorem dL_law_312 : decode code 312 = .ok (.invokevirtual 46, 3) := by decide +kernel
theorem dL_law_315 : decode code 315 = .ok (.aload_n 2, 1) := by decide +kernel
theorem dL_law_316 : decode code 316 = .ok (.aload_n 0, 1) := by decide +kernel
theorem dL_law_317 : decode code 317 = .ok (.iload_n 3, 1) := by decide +kernel
theorem dL_law_318 : decode code 318 = .ok (.iconst 1, 1) := by decide +kernel
theorem dL_law_319 : decode code 319 = .ok (.iadd, 1) := by decide +kernel
theorem dL_law_320 : decode code 320 = .ok (.iaload, 1) := by decide +kernel
theorem dL_law_321 : decode code 321 = .ok (.aload_n 0, 1) := by decide +kernel
theorem dL_law_322 : decode code 322 = .ok (.iload_n 3, 1) := by decide +kernel
theorem dL_law_323 : decode code 323 = .ok (.iconst 2, 1) := by decide +kernel
theorem dL_law_324 : decode code 324 = .ok (.iadd, 1) := by decide +kernel
theorem dL_law_325 : decode code 325 = .ok (.iaload, 1) := by decide +kernel
theorem dL_law_326 : decode code 326 = .ok (.invokevirtual 49, 3) := by decide +kernel
theorem dL_law_329 : decode code 329 = .ok (.if_icmp .eq 120, 3) := by decide +kernel
theorem dL_law_332 : decode code 332 = .ok (.iconst 0, 1) := by decide +kernel
theorem dL_law_333 : decode code 333 = .ok (.ireturn, 1) := by decide +kernel
theorem dL_law_334 : decode code 334 = .ok (.aload_n 1, 1) := by decide +kernel
theorem dL_law_335 : decode code 335 = .ok (.invokevirtual 50, 3) := by decide +kernel
theorem dL_law_338 : decode code 338 = .ok (.aload_n 2, 1) := by decide +kernel
theorem dL_law_339 : decode code 339 = .ok (.invokevirtual 53, 3) := by decide +kernel
theorem dL_law_342 : decode code 342 = .ok (.if_icmp .eq 107, 3) := by decide +kernel
theorem dL_law_345 : decode code 345 = .ok (.iconst 0, 1) := by decide +kernel
theorem dL_law_346 : decode code 346 = .ok (.ireturn, 1) := by decide +kernel
theorem dL_law_347 : decode code 347 = .ok (.aload_n 1, 1) := by decide +kernel
theorem dL_law_348 : decode code 348 = .ok (.invokevirtual 54, 3) := by decide +kernel
theorem dL_law_351 : decode code 351 = .ok (.aload_n 2, 1) := by decide +kernel
theorem dL_law_352 : decode code 352 = .ok (.invokevirtual 57, 3) := by decide +kernel
theorem dL_law_355 : decode code 355 = .ok (.if_icmp .eq 94, 3) := by decide +kernel
theorem dL_law_358 : decode code 358 = .ok (.iconst 0, 1) := by decide +kernel
theorem dL_law_359 : decode code 359 = .ok (.ireturn, 1) := by decide +kernel
theorem dL_law_360 : decode code 360 = .ok (.aload_n 1, 1) := by decide +kernel
theorem dL_law_361 : decode code 361 = .ok (.aload_n 0, 1) := by decide +kernel
theorem dL_law_362 : decode code 362 = .ok (.iload_n 3, 1) := by decide +kernel
theorem dL_law_363 : decode code 363 = .ok (.iconst 1, 1) := by decide +kernel
theorem dL_law_364 : decode code 364 = .ok (.iadd, 1) := by decide +kernel
theorem dL_law_365 : decode code 365 = .ok (.iaload, 1) := by decide +kernel
theorem dL_law_366 : decode code 366 = .ok (.aload_n 0, 1) := by decide +kernel
theorem dL_law_367 : decode code 367 = .ok (.iload_n 3, 1) := by decide +kernel
theorem dL_law_368 : decode code 368 = .ok (.iconst 2, 1) := by decide +kernel
theorem dL_law_369 : decode code 369 = .ok (.iadd, 1) := by decide +kernel
theorem dL_law_370 : decode code 370 = .ok (.iaload, 1) := by decide +kernel
theorem dL_law_371 : decode code 371 = .ok (.invokevirtual 58, 3) := by decide +kernel
theorem dL_law_374 : decode code 374 = .ok (.aload_n 2, 1) := by decide +kernel
theorem dL_law_375 : decode code 375 = .ok (.aload_n 0, 1) := by decide +kernel
theorem dL_law_376 : decode code 376 = .ok (.iload_n 3, 1) := by decide +kernel
theorem dL_law_377 : decode code 377 = .ok (.iconst 1, 1) := by decide +kernel
theorem dL_law_378 : decode code 378 = .ok (.iadd, 1) := by decide +kernel
theorem dL_law_379 : decode code 379 = .ok (.iaload, 1) := by decide +kernel
theorem dL_law_380 : decode code 380 = .ok (.aload_n 0, 1) := by decide +kernel
theorem dL_law_381 : decode code 381 = .ok (.iload_n 3, 1) := by decide +kernel
theorem dL_law_382 : decode code 382 = .ok (.iconst 2, 1) := by decide +kernel
theorem dL_law_383 : decode code 383 = .ok (.iadd, 1) := by decide +kernel
theorem dL_law_384 : decode code 384 = .ok (.iaload, 1) := by decide +kernel
theorem dL_law_385 : decode code 385 = .ok (.invokevirtual 61, 3) := by decide +kernel
theorem dL_law_388 : decode code 388 = .ok (.if_icmp .eq 61, 3) := by decide +kernel
theorem dL_law_391 : decode code 391 = .ok (.iconst 0, 1) := by decide +kernel
theorem dL_law_392 : decode code 392 = .ok (.ireturn, 1) := by decide +kernel
theorem dL_law_393 : decode code 393 = .ok (.aload_n 1, 1) := by decide +kernel
theorem dL_law_394 : decode code 394 = .ok (.aload_n 0, 1) := by decide +kernel
theorem dL_law_395 : decode code 395 = .ok (.iload_n 3, 1) := by decide +kernel
theorem dL_law_396 : decode code 396 = .ok (.iconst 1, 1) := by decide +kernel
theorem dL_law_397 : decode code 397 = .ok (.iadd, 1) := by decide +kernel
theorem dL_law_398 : decode code 398 = .ok (.iaload, 1) := by decide +kernel
theorem dL_law_399 : decode code 399 = .ok (.aload_n 0, 1) := by decide +kernel
theorem dL_law_400 : decode code 400 = .ok (.iload_n 3, 1) := by decide +kernel
theorem dL_law_401 : decode code 401 = .ok (.iconst 2, 1) := by decide +kernel
theorem dL_law_402 : decode code 402 = .ok (.iadd, 1) := by decide +kernel
theorem dL_law_403 : decode code 403 = .ok (.iaload, 1) := by decide +kernel
theorem dL_law_404 : decode code 404 = .ok (.invokevirtual 62, 3) := by decide +kernel
theorem dL_law_407 : decode code 407 = .ok (.aload_n 2, 1) := by decide +kernel
theorem dL_law_408 : decode code 408 = .ok (.aload_n 0, 1) := by decide +kernel
theorem dL_law_409 : decode code 409 = .ok (.iload_n 3, 1) := by decide +kernel
theorem dL_law_410 : decode code 410 = .ok (.iconst 1, 1) := by decide +kernel
theorem dL_law_411 : decode code 411 = .ok (.iadd, 1) := by decide +kernel
theorem dL_law_412 : decode code 412 = .ok (.iaload, 1) := by decide +kernel
theorem dL_law_413 : decode code 413 = .ok (.aload_n 0, 1) := by decide +kernel
theorem dL_law_414 : decode code 414 = .ok (.iload_n 3, 1) := by decide +kernel
theorem dL_law_415 : decode code 415 = .ok (.iconst 2, 1) := by decide +kernel
theorem dL_law_416 : decode code 416 = .ok (.iadd, 1) := by decide +kernel
theorem dL_law_417 : decode code 417 = .ok (.iaload, 1) := by decide +kernel
theorem dL_law_418 : decode code 418 = .ok (.invokevirtual 65, 3) := by decide +kernel
theorem dL_law_421 : decode code 421 = .ok (.if_icmp .eq 28, 3) := by decide +kernel
theorem dL_law_424 : decode code 424 = .ok (.iconst 0, 1) := by decide +kernel
theorem dL_law_425 : decode code 425 = .ok (.ireturn, 1) := by decide +kernel
theorem dL_law_426 : decode code 426 = .ok (.aload_n 1, 1) := by decide +kernel
theorem dL_law_427 : decode code 427 = .ok (.aload_n 0, 1) := by decide +kernel
theorem dL_law_428 : decode code 428 = .ok (.iload_n 3, 1) := by decide +kernel
theorem dL_law_429 : decode code 429 = .ok (.iconst 1, 1) := by decide +kernel
theorem dL_law_430 : decode code 430 = .ok (.iadd, 1) := by decide +kernel
theorem dL_law_431 : decode code 431 = .ok (.iaload, 1) := by decide +kernel
theorem dL_law_432 : decode code 432 = .ok (.invokevirtual 66, 3) := by decide +kernel
theorem dL_law_435 : decode code 435 = .ok (.aload_n 2, 1) := by decide +kernel
theorem dL_law_436 : decode code 436 = .ok (.aload_n 0, 1) := by decide +kernel
theorem dL_law_437 : decode code 437 = .ok (.iload_n 3, 1) := by decide +kernel
theorem dL_law_438 : decode code 438 = .ok (.iconst 1, 1) := by decide +kernel
theorem dL_law_439 : decode code 439 = .ok (.iadd, 1) := by decide +kernel
theorem dL_law_440 : decode code 440 = .ok (.iaload, 1) := by decide +kernel
theorem dL_law_441 : decode code 441 = .ok (.invokevirtual 69, 3) := by decide +kernel
theorem dL_law_444 : decode code 444 = .ok (.if_icmp .eq 5, 3) := by decide +kernel
theorem dL_law_447 : decode code 447 = .ok (.iconst 0, 1) := by decide +kernel
theorem dL_law_448 : decode code 448 = .ok (.ireturn, 1) := by decide +kernel
theorem dL_law_449 : decode code 449 = .ok (.iinc 3 5, 3) := by decide +kernel
theorem dL_law_452 : decode code 452 = .ok (.goto (-434), 3) := by decide +kernel
theorem dL_law_455 : decode code 455 = .ok (.iconst 1, 1) := by decide +kernel
theorem dL_law_456 : decode code 456 = .ok (.ireturn, 1) := by decide +kernel
theorem okX4_init : jOk YX4_init 0 := ⟨by decide +kernel, by decide +kernel, by decide +kernel⟩
theorem coX4_init : jCo YX4_init := ⟨wdX4_init, wzX4⟩
theorem ciL_9 : jCI RL 9 YX4_init 0 := ⟨coX4_init, okX4_init, wmL_9, woX4_init, rfl, rfl⟩
theorem okX5_init : jOk YX5_init 0 := ⟨by decide +kernel, by decide +kernel, by decide +kernel⟩
theorem coX5_init : jCo YX5_init := ⟨wdX5_init, wzX5⟩
theorem ciL_12 : jCI RL 12 YX5_init 0 := ⟨coX5_init, okX5_init, wmL_12, woX5_init, rfl, rfl⟩
theorem okX4_put : jOk YX4_put 2 := ⟨by decide +kernel, by decide +kernel, by decide +kernel⟩
theorem coX4_put : jCo YX4_put := ⟨wdX4_put, wzX4⟩
theorem cvL_13 : jCV RL 13 YX4_put 2 := ⟨coX4_put, okX4_put, wmL_13, woX4_put, wxX4_put⟩
theorem okX5_put : jOk YX5_put 2 := ⟨by decide +kernel, by decide +kernel, by decide +kernel⟩
theorem coX5_put : jCo YX5_put := ⟨wdX5_put, wzX5⟩
theorem cvL_17 : jCV RL 17 YX5_put 2 := ⟨coX5_put, okX5_put, wmL_17, woX5_put, wxX5_put⟩
theorem okX4_cut : jOk YX4_cut 1 := ⟨by decide +kernel, by decide +kernel, by decide +kernel⟩
theorem coX4_cut : jCo YX4_cut := ⟨wdX4_cut, wzX4⟩
theorem cvL_18 : jCV RL 18 YX4_cut 1 := ⟨coX4_cut, okX4_cut, wmL_18, woX4_cut, wxX4_cut⟩
theorem okX5_cut : jOk YX5_cut 1 := ⟨by decide +kernel, by decide +kernel, by decide +kernel⟩
theorem coX5_cut : jCo YX5_cut := ⟨wdX5_cut, wzX5⟩
theorem cvL_22 : jCV RL 22 YX5_cut 1 := ⟨coX5_cut, okX5_cut, wmL_22, woX5_cut, wxX5_cut⟩
theorem okX4_letter : jOk YX4_letter 2 := ⟨by decide +kernel, by decide +kernel, by decide +kernel⟩
theorem coX4_letter : jCo YX4_letter := ⟨wdX4_letter, wzX4⟩
theorem cvL_23 : jCV RL 23 YX4_letter 2 := ⟨coX4_letter, okX4_letter, wmL_23, woX4_letter, wxX4_letter⟩
theorem okX5_letter : jOk YX5_letter 2 := ⟨by decide +kernel, by decide +kernel, by decide +kernel⟩
theorem coX5_letter : jCo YX5_letter := ⟨wdX5_letter, wzX5⟩
theorem cvL_26 : jCV RL 26 YX5_letter 2 := ⟨coX5_letter, okX5_letter, wmL_26, woX5_letter, wxX5_letter⟩
theorem okX4_seeds : jOk YX4_seeds 1 := ⟨by decide +kernel, by decide +kernel, by decide +kernel⟩
theorem coX4_seeds : jCo YX4_seeds := ⟨wdX4_seeds, wzX4⟩
theorem cvL_27 : jCV RL 27 YX4_seeds 1 := ⟨coX4_seeds, okX4_seeds, wmL_27, woX4_seeds, wxX4_seeds⟩
theorem okX5_seeds : jOk YX5_seeds 1 := ⟨by decide +kernel, by decide +kernel, by decide +kernel⟩
theorem coX5_seeds : jCo YX5_seeds := ⟨wdX5_seeds, wzX5⟩
theorem cvL_31 : jCV RL 31 YX5_seeds 1 := ⟨coX5_seeds, okX5_seeds, wmL_31, woX5_seeds, wxX5_seeds⟩
theorem okX4_penalty : jOk YX4_penalty 1 := ⟨by decide +kernel, by decide +kernel, by decide +kernel⟩
theorem coX4_penalty : jCo YX4_penalty := ⟨wdX4_penalty, wzX4⟩
theorem cvL_32 : jCV RL 32 YX4_penalty 1 := ⟨coX4_penalty, okX4_penalty, wmL_32, woX4_penalty, wxX4_penalty⟩
theorem okX5_penalty : jOk YX5_penalty 1 := ⟨by decide +kernel, by decide +kernel, by decide +kernel⟩
theorem coX5_penalty : jCo YX5_penalty := ⟨wdX5_penalty, wzX5⟩
theorem cvL_35 : jCV RL 35 YX5_penalty 1 := ⟨coX5_penalty, okX5_penalty, wmL_35, woX5_penalty, wxX5_penalty⟩
theorem okX4_scores : jOk YX4_scores 4 := ⟨by decide +kernel, by decide +kernel, by decide +kernel⟩
theorem coX4_scores : jCo YX4_scores := ⟨wdX4_scores, wzX4⟩
theorem cvL_36 : jCV RL 36 YX4_scores 4 := ⟨coX4_scores, okX4_scores, wmL_36, woX4_scores, wxX4_scores⟩
theorem okX5_scores : jOk YX5_scores 4 := ⟨by decide +kernel, by decide +kernel, by decide +kernel⟩
theorem coX5_scores : jCo YX5_scores := ⟨wdX5_scores, wzX5⟩
theorem cvL_40 : jCV RL 40 YX5_scores 4 := ⟨coX5_scores, okX5_scores, wmL_40, woX5_scores, wxX5_scores⟩
theorem okX4_anchors : jOk YX4_anchors 0 := ⟨by decide +kernel, by decide +kernel, by decide +kernel⟩
theorem coX4_anchors : jCo YX4_anchors := ⟨wdX4_anchors, wzX4⟩
theorem cvL_41 : jCV RL 41 YX4_anchors 0 := ⟨coX4_anchors, okX4_anchors, wmL_41, woX4_anchors, wxX4_anchors⟩
theorem okX5_anchors : jOk YX5_anchors 0 := ⟨by decide +kernel, by decide +kernel, by decide +kernel⟩
theorem coX5_anchors : jCo YX5_anchors := ⟨wdX5_anchors, wzX5⟩
theorem cvL_45 : jCV RL 45 YX5_anchors 0 := ⟨coX5_anchors, okX5_anchors, wmL_45, woX5_anchors, wxX5_anchors⟩
theorem okX4_anchor : jOk YX4_anchor 2 := ⟨by decide +kernel, by decide +kernel, by decide +kernel⟩
theorem coX4_anchor : jCo YX4_anchor := ⟨wdX4_anchor, wzX4⟩
theorem cvL_46 : jCV RL 46 YX4_anchor 2 := ⟨coX4_anchor, okX4_anchor, wmL_46, woX4_anchor, wxX4_anchor⟩
theorem okX5_anchor : jOk YX5_anchor 2 := ⟨by decide +kernel, by decide +kernel, by decide +kernel⟩
theorem coX5_anchor : jCo YX5_anchor := ⟨wdX5_anchor, wzX5⟩
theorem cvL_49 : jCV RL 49 YX5_anchor 2 := ⟨coX5_anchor, okX5_anchor, wmL_49, woX5_anchor, wxX5_anchor⟩
theorem okX4_chain : jOk YX4_chain 0 := ⟨by decide +kernel, by decide +kernel, by decide +kernel⟩
theorem coX4_chain : jCo YX4_chain := ⟨wdX4_chain, wzX4⟩
theorem cvL_50 : jCV RL 50 YX4_chain 0 := ⟨coX4_chain, okX4_chain, wmL_50, woX4_chain, wxX4_chain⟩
theorem okX5_chain : jOk YX5_chain 0 := ⟨by decide +kernel, by decide +kernel, by decide +kernel⟩
theorem coX5_chain : jCo YX5_chain := ⟨wdX5_chain, wzX5⟩
theorem cvL_53 : jCV RL 53 YX5_chain 0 := ⟨coX5_chain, okX5_chain, wmL_53, woX5_chain, wxX5_chain⟩
theorem okX4_links : jOk YX4_links 0 := ⟨by decide +kernel, by decide +kernel, by decide +kernel⟩
theorem coX4_links : jCo YX4_links := ⟨wdX4_links, wzX4⟩
theorem cvL_54 : jCV RL 54 YX4_links 0 := ⟨coX4_links, okX4_links, wmL_54, woX4_links, wxX4_links⟩
theorem okX5_links : jOk YX5_links 0 := ⟨by decide +kernel, by decide +kernel, by decide +kernel⟩
theorem coX5_links : jCo YX5_links := ⟨wdX5_links, wzX5⟩
theorem cvL_57 : jCV RL 57 YX5_links 0 := ⟨coX5_links, okX5_links, wmL_57, woX5_links, wxX5_links⟩
theorem okX4_link : jOk YX4_link 2 := ⟨by decide +kernel, by decide +kernel, by decide +kernel⟩
theorem coX4_link : jCo YX4_link := ⟨wdX4_link, wzX4⟩
theorem cvL_58 : jCV RL 58 YX4_link 2 := ⟨coX4_link, okX4_link, wmL_58, woX4_link, wxX4_link⟩
theorem okX5_link : jOk YX5_link 2 := ⟨by decide +kernel, by decide +kernel, by decide +kernel⟩
theorem coX5_link : jCo YX5_link := ⟨wdX5_link, wzX5⟩
theorem cvL_61 : jCV RL 61 YX5_link 2 := ⟨coX5_link, okX5_link, wmL_61, woX5_link, wxX5_link⟩
theorem okX4_reach : jOk YX4_reach 2 := ⟨by decide +kernel, by decide +kernel, by decide +kernel⟩
theorem coX4_reach : jCo YX4_reach := ⟨wdX4_reach, wzX4⟩
theorem cvL_62 : jCV RL 62 YX4_reach 2 := ⟨coX4_reach, okX4_reach, wmL_62, woX4_reach, wxX4_reach⟩
theorem okX5_reach : jOk YX5_reach 2 := ⟨by decide +kernel, by decide +kernel, by decide +kernel⟩
theorem coX5_reach : jCo YX5_reach := ⟨wdX5_reach, wzX5⟩
theorem cvL_65 : jCV RL 65 YX5_reach 2 := ⟨coX5_reach, okX5_reach, wmL_65, woX5_reach, wxX5_reach⟩
theorem okX4_reached : jOk YX4_reached 1 := ⟨by decide +kernel, by decide +kernel, by decide +kernel⟩
theorem coX4_reached : jCo YX4_reached := ⟨wdX4_reached, wzX4⟩
theorem cvL_66 : jCV RL 66 YX4_reached 1 := ⟨coX4_reached, okX4_reached, wmL_66, woX4_reached, wxX4_reached⟩
theorem okX5_reached : jOk YX5_reached 1 := ⟨by decide +kernel, by decide +kernel, by decide +kernel⟩
theorem coX5_reached : jCo YX5_reached := ⟨wdX5_reached, wzX5⟩
theorem cvL_69 : jCV RL 69 YX5_reached 1 := ⟨coX5_reached, okX5_reached, wmL_69, woX5_reached, wxX5_reached⟩
def zx (xs : Nat → Int32) (z : Int) : Int := (xs z.toNat).toInt
theorem zx_r (xs : Nat → Int32) (z : Int) : -2147483648 ≤ zx xs z ∧ zx xs z < 2147483648 := jI_rg _
theorem jI_nat {n : Nat} (h : n < 2147483648) : Int32.ofNat n = jI (n : Int) := by
  have h1 : (nI n).toInt = (n : Int) := nI_toInt h
  have h2 : (jI (n : Int)).toInt = (n : Int) := jI_toInt (by omega)
  exact Int32.toInt_inj.1 (h1.trans h2.symm)
section JL
variable {p : Program} {l : Launch} {e : Env} {R : Room} {s : State} {m : MethodId} {args : Array Value} {below : List Frame} {meth : Method} {c : Code} {H : Heap} {locs : List Loc} {cells slots : Nat} {Q : State → Prop}
variable {pc : Nat} {ls : Array Slot} {rest : List Value} {A : Nat → Prop} {H0 : Heap} {D : va_G} {cA : ClassId} {Y : jY} {z : Int} {b L : Nat} {xs : Nat → Int32}
theorem jv_sld (F : jF p s m args meth c Y D cA) (hX : va_X b L xs s H0) (hbl : b < H0.size) (hbA : ¬ A b) (hS : va_S A H0 H locs) (hz : 0 ≤ z ∧ z < (L : Int)) (hL : L < 2147483648) (hdg : decode Y.2.1 pc = .ok (.iaload, 1))
    (kk : W p l e R s m args below meth c H locs cells slots Q (F0 m (pc + 1) ls (.int (jI (zx xs z)) :: rest))) : W p l e R s m args below meth c H locs cells slots Q (F0 m pc ls (.int (jI z) :: .ref b :: rest)) :=
  va_sld F.1 F.2.1 hX hbl hbA hS (jI_in hz hL) hdg (by rw [jI_clamp ⟨hz.1, by omega⟩, ← jI_of (xs z.toNat)]; exact kk)
theorem jv_slen (F : jF p s m args meth c Y D cA) (hX : va_X b L xs s H0) (hbl : b < H0.size) (hbA : ¬ A b) (hS : va_S A H0 H locs) (hL : L < 2147483648) (hdg : decode Y.2.1 pc = .ok (.arraylength, 1))
    (kk : W p l e R s m args below meth c H locs cells slots Q (F0 m (pc + 1) ls (.int (jI (L : Int)) :: rest))) : W p l e R s m args below meth c H locs cells slots Q (F0 m pc ls (.ref b :: rest)) :=
  va_slen F.1 F.2.1 hX hbl hbA hS hdg (by rw [jI_nat hL]; exact kk)
theorem jv_same {cc : ByteArray} {u v : Int} {off : Int} {tgt : Nat} (hx : p.tables.exec = Jvm.exec) (hb : c.code = cc) (hdg : decode cc pc = .ok (.if_icmp .eq off, 3)) (ht : (pc : Int) + off = (tgt : Int)) (huv : u = v)
    (k : W p l e R s m args below meth c H locs cells slots Q (F0 m tgt ls rest)) : W p l e R s m args below meth c H locs cells slots Q (F0 m pc ls (.int (jI v) :: .int (jI u) :: rest)) :=
  lv_icmp_eq hx hb hdg ht (fun _ => k) (fun h => absurd (by rw [huv]) h)
theorem jv_and15 {cc : ByteArray} (hx : p.tables.exec = Jvm.exec) (hb : c.code = cc) (hdg : decode cc pc = .ok (.iand, 1)) (kk : ∀ k : Int, 0 ≤ k ∧ k < 16 → W p l e R s m args below meth c H locs cells slots Q (F0 m (pc + 1) ls (.int (jI k) :: rest))) : W p l e R s m args below meth c H locs cells slots Q (F0 m pc ls (.int (jI 15) :: .int (jI z) :: rest)) := by
  obtain ⟨j, hj, ej⟩ := pk_andE (jI z) (m := jI 15) 4 (by decide +kernel)
  have e1 : nI j = jI (j : Int) := jI_nat (by omega)
  refine lv_iand hx hb hdg ?_
  rw [ej, e1]
  exact kk j (by omega)
end JL
/-- the worlds between two calls of the script -/
def Inv (cA : ClassId) (h4 mo : Nat) (wd : va_W) : Prop := ∃ (r0 a0 r1 a1 sp be ah pa re t2 t1 t0 ml mn mf mt mw mk mz : Nat) (n0 n1 K g fr sz to ga lo gp li es ep eq al la fo ln bs kn rd me mq ma mx : Int) (L0 L1 Ah Pa E2 E1 E0 M N f sf wf lk sc : Int → Int), wd = [(h4, .inr (4, [.ref r0, .ref r1, .ref sp, .ref be, .ref re, .int (jI g), .int (jI fr)])), (r0, .inr (1, [.ref a0, .int (jI n0)])), (a0, .inl (cA, 48, .inl (jA L0))), (r1, .inr (1, [.ref a1, .int (jI n1)])), (a1, .inl (cA, 48, .inl (jA L1))), (sp, .inr (3, [.ref r0, .ref r1, .int (jI K)])), (be, .inr (0, [.ref ah, .ref pa, .int (jI sz), .int (jI to)])), (ah, .inl (cA, 2401, .inl (jA Ah))), (pa, .inl (cA, 48, .inl (jA Pa))), (re, .inr (2, [.int (jI ga), .int (jI lo), .int (jI gp), .int (jI li), .ref t2, .ref t1, .ref t0, .int (jI es), .int (jI ep), .int (jI eq), .int (jI al), .int (jI la)])), (t2, .inl (cA, 49, .inl (jA E2))), (t1, .inl (cA, 49, .inl (jA E1))), (t0, .inl (cA, 49, .inl (jA E0))), (mo, .inr (5, [.ref ml, .ref mn, .int (jI K), .int (jI g), .int (jI ga), .int (jI lo), .int (jI gp), .int (jI li), .ref mf, .ref mt, .ref mw, .int (jI fo), .ref mk, .int (jI ln), .int (jI bs), .int (jI kn), .ref mz, .int (jI rd), .int (jI me), .int (jI mq), .int (jI ma), .int (jI mx)])), (ml, .inl (cA, 96, .inl (jA M))), (mn, .inl (cA, 2, .inl (jA N))), (mf, .inl (cA, 2304, .inl (jA f))), (mt, .inl (cA, 2304, .inl (jA sf))), (mw, .inl (cA, 2304, .inl (jA wf))), (mk, .inl (cA, 48, .inl (jA lk))), (mz, .inl (cA, 2401, .inl (jA sc)))] ∧ Base n0 n1 K g ga lo gp li L0 L1 M N ∧ (fr = 0 ∨ (fr = 1 ∧ fin (anc L0 L1 n0 n1 K) K g sz to Pa)) ∧ (kn = 0 ∨ (kn = 1 ∧ knw (anc L0 L1 n0 n1 K) n0 n1 K g f sf fo lk ln bs)) ∧ ((rd = 0 ∧ ep = -1 ∧ eq = -1 ∧ al = -1 ∧ la = -1) ∨ (rd = 1 ∧ me = ep ∧ mq = eq ∧ ma = al ∧ mx = la))
theorem Inv.mk {cA : ClassId} {h4 mo : Nat} {r0 a0 r1 a1 sp be ah pa re t2 t1 t0 ml mn mf mt mw mk mz : Nat} {n0 n1 K g fr sz to ga lo gp li es ep eq al la fo ln bs kn rd me mq ma mx : Int} {L0 L1 Ah Pa E2 E1 E0 M N f sf wf lk sc : Int → Int} (h1 : Base n0 n1 K g ga lo gp li L0 L1 M N) (h2 : fr = 0 ∨ (fr = 1 ∧ fin (anc L0 L1 n0 n1 K) K g sz to Pa)) (h3 : kn = 0 ∨ (kn = 1 ∧ knw (anc L0 L1 n0 n1 K) n0 n1 K g f sf fo lk ln bs)) (h4' : (rd = 0 ∧ ep = -1 ∧ eq = -1 ∧ al = -1 ∧ la = -1) ∨ (rd = 1 ∧ me = ep ∧ mq = eq ∧ ma = al ∧ mx = la)) : Inv cA h4 mo [(h4, .inr (4, [.ref r0, .ref r1, .ref sp, .ref be, .ref re, .int (jI g), .int (jI fr)])), (r0, .inr (1, [.ref a0, .int (jI n0)])), (a0, .inl (cA, 48, .inl (jA L0))), (r1, .inr (1, [.ref a1, .int (jI n1)])), (a1, .inl (cA, 48, .inl (jA L1))), (sp, .inr (3, [.ref r0, .ref r1, .int (jI K)])), (be, .inr (0, [.ref ah, .ref pa, .int (jI sz), .int (jI to)])), (ah, .inl (cA, 2401, .inl (jA Ah))), (pa, .inl (cA, 48, .inl (jA Pa))), (re, .inr (2, [.int (jI ga), .int (jI lo), .int (jI gp), .int (jI li), .ref t2, .ref t1, .ref t0, .int (jI es), .int (jI ep), .int (jI eq), .int (jI al), .int (jI la)])), (t2, .inl (cA, 49, .inl (jA E2))), (t1, .inl (cA, 49, .inl (jA E1))), (t0, .inl (cA, 49, .inl (jA E0))), (mo, .inr (5, [.ref ml, .ref mn, .int (jI K), .int (jI g), .int (jI ga), .int (jI lo), .int (jI gp), .int (jI li), .ref mf, .ref mt, .ref mw, .int (jI fo), .ref mk, .int (jI ln), .int (jI bs), .int (jI kn), .ref mz, .int (jI rd), .int (jI me), .int (jI mq), .int (jI ma), .int (jI mx)])), (ml, .inl (cA, 96, .inl (jA M))), (mn, .inl (cA, 2, .inl (jA N))), (mf, .inl (cA, 2304, .inl (jA f))), (mt, .inl (cA, 2304, .inl (jA sf))), (mw, .inl (cA, 2304, .inl (jA wf))), (mk, .inl (cA, 48, .inl (jA lk))), (mz, .inl (cA, 2401, .inl (jA sc)))] :=
  ⟨r0, a0, r1, a1, sp, be, ah, pa, re, t2, t1, t0, ml, mn, mf, mt, mw, mk, mz, n0, n1, K, g, fr, sz, to, ga, lo, gp, li, es, ep, eq, al, la, fo, ln, bs, kn, rd, me, mq, ma, mx, L0, L1, Ah, Pa, E2, E1, E0, M, N, f, sf, wf, lk, sc, rfl, h1, h2, h3, h4'⟩
