theorem dL_law_0 : decode cL_law 0 = .ok (.new 7, 3) := by decide +kernel
theorem dL_law_3 : decode cL_law 3 = .ok (.dup, 1) := by decide +kernel
theorem dL_law_4 : decode cL_law 4 = .ok (.invokespecial 9, 3) := by decide +kernel
theorem dL_law_7 : decode cL_law 7 = .ok (.astore_n 1, 1) := by decide +kernel
theorem dL_law_8 : decode cL_law 8 = .ok (.new 10, 3) := by decide +kernel
theorem dL_law_11 : decode cL_law 11 = .ok (.dup, 1) := by decide +kernel
theorem dL_law_12 : decode cL_law 12 = .ok (.invokespecial 12, 3) := by decide +kernel
theorem dL_law_15 : decode cL_law 15 = .ok (.astore_n 2, 1) := by decide +kernel
theorem dL_law_16 : decode cL_law 16 = .ok (.iconst 0, 1) := by decide +kernel
theorem dL_law_17 : decode cL_law 17 = .ok (.istore_n 3, 1) := by decide +kernel
theorem dL_law_18 : decode cL_law 18 = .ok (.iload_n 3, 1) := by decide +kernel
theorem dL_law_19 : decode cL_law 19 = .ok (.aload_n 0, 1) := by decide +kernel
theorem dL_law_20 : decode cL_law 20 = .ok (.arraylength, 1) := by decide +kernel
theorem dL_law_21 : decode cL_law 21 = .ok (.iconst 4, 1) := by decide +kernel
theorem dL_law_22 : decode cL_law 22 = .ok (.isub, 1) := by decide +kernel
theorem dL_law_23 : decode cL_law 23 = .ok (.if_icmp .gt 510, 3) := by decide +kernel
theorem dL_law_26 : decode cL_law 26 = .ok (.aload_n 0, 1) := by decide +kernel
theorem dL_law_27 : decode cL_law 27 = .ok (.iload_n 3, 1) := by decide +kernel
theorem dL_law_28 : decode cL_law 28 = .ok (.iaload, 1) := by decide +kernel
theorem dL_law_29 : decode cL_law 29 = .ok (.bipush 31, 2) := by decide +kernel
theorem dL_law_31 : decode cL_law 31 = .ok (.iand, 1) := by decide +kernel
theorem dL_law_32 : decode cL_law 32 = .ok (.tableswitch 495 0 16 #[84, 107, 120, 133, 166, 199, 222, 235, 258, 291, 334, 357, 380, 413, 436, 449, 472], 84) := by decide +kernel
theorem dL_law_116 : decode cL_law 116 = .ok (.aload_n 1, 1) := by decide +kernel
theorem dL_law_117 : decode cL_law 117 = .ok (.aload_n 0, 1) := by decide +kernel
theorem dL_law_118 : decode cL_law 118 = .ok (.iload_n 3, 1) := by decide +kernel
theorem dL_law_119 : decode cL_law 119 = .ok (.iconst 1, 1) := by decide +kernel
theorem dL_law_120 : decode cL_law 120 = .ok (.iadd, 1) := by decide +kernel
theorem dL_law_121 : decode cL_law 121 = .ok (.iaload, 1) := by decide +kernel
theorem dL_law_122 : decode cL_law 122 = .ok (.invokevirtual 13, 3) := by decide +kernel
theorem dL_law_125 : decode cL_law 125 = .ok (.aload_n 2, 1) := by decide +kernel
theorem dL_law_126 : decode cL_law 126 = .ok (.aload_n 0, 1) := by decide +kernel
theorem dL_law_127 : decode cL_law 127 = .ok (.iload_n 3, 1) := by decide +kernel
theorem dL_law_128 : decode cL_law 128 = .ok (.iconst 1, 1) := by decide +kernel
theorem dL_law_129 : decode cL_law 129 = .ok (.iadd, 1) := by decide +kernel
theorem dL_law_130 : decode cL_law 130 = .ok (.iaload, 1) := by decide +kernel
theorem dL_law_131 : decode cL_law 131 = .ok (.invokevirtual 17, 3) := by decide +kernel
theorem dL_law_134 : decode cL_law 134 = .ok (.if_icmp .eq 393, 3) := by decide +kernel
theorem dL_law_137 : decode cL_law 137 = .ok (.iconst 0, 1) := by decide +kernel
theorem dL_law_138 : decode cL_law 138 = .ok (.ireturn, 1) := by decide +kernel
theorem dL_law_139 : decode cL_law 139 = .ok (.aload_n 1, 1) := by decide +kernel
theorem dL_law_140 : decode cL_law 140 = .ok (.invokevirtual 18, 3) := by decide +kernel
theorem dL_law_143 : decode cL_law 143 = .ok (.aload_n 2, 1) := by decide +kernel
theorem dL_law_144 : decode cL_law 144 = .ok (.invokevirtual 22, 3) := by decide +kernel
theorem dL_law_147 : decode cL_law 147 = .ok (.if_icmp .eq 380, 3) := by decide +kernel
theorem dL_law_150 : decode cL_law 150 = .ok (.iconst 0, 1) := by decide +kernel
theorem dL_law_151 : decode cL_law 151 = .ok (.ireturn, 1) := by decide +kernel
theorem dL_law_152 : decode cL_law 152 = .ok (.aload_n 1, 1) := by decide +kernel
theorem dL_law_153 : decode cL_law 153 = .ok (.invokevirtual 23, 3) := by decide +kernel
theorem dL_law_156 : decode cL_law 156 = .ok (.aload_n 2, 1) := by decide +kernel
theorem dL_law_157 : decode cL_law 157 = .ok (.invokevirtual 26, 3) := by decide +kernel
theorem dL_law_160 : decode cL_law 160 = .ok (.if_icmp .eq 367, 3) := by decide +kernel
theorem dL_law_163 : decode cL_law 163 = .ok (.iconst 0, 1) := by decide +kernel
theorem dL_law_164 : decode cL_law 164 = .ok (.ireturn, 1) := by decide +kernel
theorem dL_law_165 : decode cL_law 165 = .ok (.aload_n 1, 1) := by decide +kernel
theorem dL_law_166 : decode cL_law 166 = .ok (.aload_n 0, 1) := by decide +kernel
theorem dL_law_167 : decode cL_law 167 = .ok (.iload_n 3, 1) := by decide +kernel
theorem dL_law_168 : decode cL_law 168 = .ok (.iconst 1, 1) := by decide +kernel
theorem dL_law_169 : decode cL_law 169 = .ok (.iadd, 1) := by decide +kernel
theorem dL_law_170 : decode cL_law 170 = .ok (.iaload, 1) := by decide +kernel
theorem dL_law_171 : decode cL_law 171 = .ok (.aload_n 0, 1) := by decide +kernel
theorem dL_law_172 : decode cL_law 172 = .ok (.iload_n 3, 1) := by decide +kernel
theorem dL_law_173 : decode cL_law 173 = .ok (.iconst 2, 1) := by decide +kernel
theorem dL_law_174 : decode cL_law 174 = .ok (.iadd, 1) := by decide +kernel
theorem dL_law_175 : decode cL_law 175 = .ok (.iaload, 1) := by decide +kernel
theorem dL_law_176 : decode cL_law 176 = .ok (.invokevirtual 27, 3) := by decide +kernel
theorem dL_law_179 : decode cL_law 179 = .ok (.aload_n 2, 1) := by decide +kernel
theorem dL_law_180 : decode cL_law 180 = .ok (.aload_n 0, 1) := by decide +kernel
theorem dL_law_181 : decode cL_law 181 = .ok (.iload_n 3, 1) := by decide +kernel
theorem dL_law_182 : decode cL_law 182 = .ok (.iconst 1, 1) := by decide +kernel
theorem dL_law_183 : decode cL_law 183 = .ok (.iadd, 1) := by decide +kernel
theorem dL_law_184 : decode cL_law 184 = .ok (.iaload, 1) := by decide +kernel
theorem dL_law_185 : decode cL_law 185 = .ok (.aload_n 0, 1) := by decide +kernel
theorem dL_law_186 : decode cL_law 186 = .ok (.iload_n 3, 1) := by decide +kernel
theorem dL_law_187 : decode cL_law 187 = .ok (.iconst 2, 1) := by decide +kernel
theorem dL_law_188 : decode cL_law 188 = .ok (.iadd, 1) := by decide +kernel
theorem dL_law_189 : decode cL_law 189 = .ok (.iaload, 1) := by decide +kernel
theorem dL_law_190 : decode cL_law 190 = .ok (.invokevirtual 31, 3) := by decide +kernel
theorem dL_law_193 : decode cL_law 193 = .ok (.if_icmp .eq 334, 3) := by decide +kernel
theorem dL_law_196 : decode cL_law 196 = .ok (.iconst 0, 1) := by decide +kernel
theorem dL_law_197 : decode cL_law 197 = .ok (.ireturn, 1) := by decide +kernel
theorem dL_law_198 : decode cL_law 198 = .ok (.aload_n 1, 1) := by decide +kernel
theorem dL_law_199 : decode cL_law 199 = .ok (.aload_n 0, 1) := by decide +kernel
theorem dL_law_200 : decode cL_law 200 = .ok (.iload_n 3, 1) := by decide +kernel
theorem dL_law_201 : decode cL_law 201 = .ok (.iconst 1, 1) := by decide +kernel
theorem dL_law_202 : decode cL_law 202 = .ok (.iadd, 1) := by decide +kernel
theorem dL_law_203 : decode cL_law 203 = .ok (.iaload, 1) := by decide +kernel
theorem dL_law_204 : decode cL_law 204 = .ok (.aload_n 0, 1) := by decide +kernel
theorem dL_law_205 : decode cL_law 205 = .ok (.iload_n 3, 1) := by decide +kernel
theorem dL_law_206 : decode cL_law 206 = .ok (.iconst 2, 1) := by decide +kernel
theorem dL_law_207 : decode cL_law 207 = .ok (.iadd, 1) := by decide +kernel
theorem dL_law_208 : decode cL_law 208 = .ok (.iaload, 1) := by decide +kernel
theorem dL_law_209 : decode cL_law 209 = .ok (.invokevirtual 32, 3) := by decide +kernel
theorem dL_law_212 : decode cL_law 212 = .ok (.aload_n 2, 1) := by decide +kernel
theorem dL_law_213 : decode cL_law 213 = .ok (.aload_n 0, 1) := by decide +kernel
theorem dL_law_214 : decode cL_law 214 = .ok (.iload_n 3, 1) := by decide +kernel
theorem dL_law_215 : decode cL_law 215 = .ok (.iconst 1, 1) := by decide +kernel
theorem dL_law_216 : decode cL_law 216 = .ok (.iadd, 1) := by decide +kernel
theorem dL_law_217 : decode cL_law 217 = .ok (.iaload, 1) := by decide +kernel
theorem dL_law_218 : decode cL_law 218 = .ok (.aload_n 0, 1) := by decide +kernel
theorem dL_law_219 : decode cL_law 219 = .ok (.iload_n 3, 1) := by decide +kernel
theorem dL_law_220 : decode cL_law 220 = .ok (.iconst 2, 1) := by decide +kernel
theorem dL_law_221 : decode cL_law 221 = .ok (.iadd, 1) := by decide +kernel
theorem dL_law_222 : decode cL_law 222 = .ok (.iaload, 1) := by decide +kernel
theorem dL_law_223 : decode cL_law 223 = .ok (.invokevirtual 35, 3) := by decide +kernel
theorem dL_law_226 : decode cL_law 226 = .ok (.if_icmp .eq 301, 3) := by decide +kernel
theorem dL_law_229 : decode cL_law 229 = .ok (.iconst 0, 1) := by decide +kernel
theorem dL_law_230 : decode cL_law 230 = .ok (.ireturn, 1) := by decide +kernel
theorem dL_law_231 : decode cL_law 231 = .ok (.aload_n 1, 1) := by decide +kernel
theorem dL_law_232 : decode cL_law 232 = .ok (.aload_n 0, 1) := by decide +kernel
theorem dL_law_233 : decode cL_law 233 = .ok (.iload_n 3, 1) := by decide +kernel
theorem dL_law_234 : decode cL_law 234 = .ok (.iconst 1, 1) := by decide +kernel
theorem dL_law_235 : decode cL_law 235 = .ok (.iadd, 1) := by decide +kernel
theorem dL_law_236 : decode cL_law 236 = .ok (.iaload, 1) := by decide +kernel
theorem dL_law_237 : decode cL_law 237 = .ok (.invokevirtual 36, 3) := by decide +kernel
theorem dL_law_240 : decode cL_law 240 = .ok (.aload_n 2, 1) := by decide +kernel
theorem dL_law_241 : decode cL_law 241 = .ok (.aload_n 0, 1) := by decide +kernel
theorem dL_law_242 : decode cL_law 242 = .ok (.iload_n 3, 1) := by decide +kernel
theorem dL_law_243 : decode cL_law 243 = .ok (.iconst 1, 1) := by decide +kernel
theorem dL_law_244 : decode cL_law 244 = .ok (.iadd, 1) := by decide +kernel
theorem dL_law_245 : decode cL_law 245 = .ok (.iaload, 1) := by decide +kernel
theorem dL_law_246 : decode cL_law 246 = .ok (.invokevirtual 39, 3) := by decide +kernel
theorem dL_law_249 : decode cL_law 249 = .ok (.if_icmp .eq 278, 3) := by decide +kernel
theorem dL_law_252 : decode cL_law 252 = .ok (.iconst 0, 1) := by decide +kernel
theorem dL_law_253 : decode cL_law 253 = .ok (.ireturn, 1) := by decide +kernel
theorem dL_law_254 : decode cL_law 254 = .ok (.aload_n 1, 1) := by decide +kernel
theorem dL_law_255 : decode cL_law 255 = .ok (.invokevirtual 40, 3) := by decide +kernel
theorem dL_law_258 : decode cL_law 258 = .ok (.aload_n 2, 1) := by decide +kernel
theorem dL_law_259 : decode cL_law 259 = .ok (.invokevirtual 43, 3) := by decide +kernel
theorem dL_law_262 : decode cL_law 262 = .ok (.if_icmp .eq 265, 3) := by decide +kernel
theorem dL_law_265 : decode cL_law 265 = .ok (.iconst 0, 1) := by decide +kernel
theorem dL_law_266 : decode cL_law 266 = .ok (.ireturn, 1) := by decide +kernel
theorem dL_law_267 : decode cL_law 267 = .ok (.aload_n 1, 1) := by decide +kernel
theorem dL_law_268 : decode cL_law 268 = .ok (.aload_n 0, 1) := by decide +kernel
theorem dL_law_269 : decode cL_law 269 = .ok (.iload_n 3, 1) := by decide +kernel
theorem dL_law_270 : decode cL_law 270 = .ok (.iconst 1, 1) := by decide +kernel
theorem dL_law_271 : decode cL_law 271 = .ok (.iadd, 1) := by decide +kernel
theorem dL_law_272 : decode cL_law 272 = .ok (.iaload, 1) := by decide +kernel
theorem dL_law_273 : decode cL_law 273 = .ok (.invokevirtual 44, 3) := by decide +kernel
theorem dL_law_276 : decode cL_law 276 = .ok (.aload_n 2, 1) := by decide +kernel
theorem dL_law_277 : decode cL_law 277 = .ok (.aload_n 0, 1) := by decide +kernel
theorem dL_law_278 : decode cL_law 278 = .ok (.iload_n 3, 1) := by decide +kernel
theorem dL_law_279 : decode cL_law 279 = .ok (.iconst 1, 1) := by decide +kernel
theorem dL_law_280 : decode cL_law 280 = .ok (.iadd, 1) := by decide +kernel
theorem dL_law_281 : decode cL_law 281 = .ok (.iaload, 1) := by decide +kernel
theorem dL_law_282 : decode cL_law 282 = .ok (.invokevirtual 47, 3) := by decide +kernel
theorem dL_law_285 : decode cL_law 285 = .ok (.if_icmp .eq 242, 3) := by decide +kernel
theorem dL_law_288 : decode cL_law 288 = .ok (.iconst 0, 1) := by decide +kernel
theorem dL_law_289 : decode cL_law 289 = .ok (.ireturn, 1) := by decide +kernel
theorem dL_law_290 : decode cL_law 290 = .ok (.aload_n 1, 1) := by decide +kernel
theorem dL_law_291 : decode cL_law 291 = .ok (.aload_n 0, 1) := by decide +kernel
theorem dL_law_292 : decode cL_law 292 = .ok (.iload_n 3, 1) := by decide +kernel
theorem dL_law_293 : decode cL_law 293 = .ok (.iconst 1, 1) := by decide +kernel
theorem dL_law_294 : decode cL_law 294 = .ok (.iadd, 1) := by decide +kernel
theorem dL_law_295 : decode cL_law 295 = .ok (.iaload, 1) := by decide +kernel
theorem dL_law_296 : decode cL_law 296 = .ok (.aload_n 0, 1) := by decide +kernel
theorem dL_law_297 : decode cL_law 297 = .ok (.iload_n 3, 1) := by decide +kernel
theorem dL_law_298 : decode cL_law 298 = .ok (.iconst 2, 1) := by decide +kernel
theorem dL_law_299 : decode cL_law 299 = .ok (.iadd, 1) := by decide +kernel
theorem dL_law_300 : decode cL_law 300 = .ok (.iaload, 1) := by decide +kernel
theorem dL_law_301 : decode cL_law 301 = .ok (.invokevirtual 48, 3) := by decide +kernel
theorem dL_law_304 : decode cL_law 304 = .ok (.aload_n 2, 1) := by decide +kernel
theorem dL_law_305 : decode cL_law 305 = .ok (.aload_n 0, 1) := by decide +kernel
theorem dL_law_306 : decode cL_law 306 = .ok (.iload_n 3, 1) := by decide +kernel
theorem dL_law_307 : decode cL_law 307 = .ok (.iconst 1, 1) := by decide +kernel
theorem dL_law_308 : decode cL_law 308 = .ok (.iadd, 1) := by decide +kernel
theorem dL_law_309 : decode cL_law 309 = .ok (.iaload, 1) := by decide +kernel
theorem dL_law_310 : decode cL_law 310 = .ok (.aload_n 0, 1) := by decide +kernel
theorem dL_law_311 : decode cL_law 311 = .ok (.iload_n 3, 1) := by decide +kernel
theorem dL_law_312 : decode cL_law 312 = .ok (.iconst 2, 1) := by decide +kernel
theorem dL_law_313 : decode cL_law 313 = .ok (.iadd, 1) := by decide +kernel
theorem dL_law_314 : decode cL_law 314 = .ok (.iaload, 1) := by decide +kernel
theorem dL_law_315 : decode cL_law 315 = .ok (.invokevirtual 51, 3) := by decide +kernel
theorem dL_law_318 : decode cL_law 318 = .ok (.if_icmp .eq 209, 3) := by decide +kernel
theorem dL_law_321 : decode cL_law 321 = .ok (.iconst 0, 1) := by decide +kernel
theorem dL_law_322 : decode cL_law 322 = .ok (.ireturn, 1) := by decide +kernel
theorem dL_law_323 : decode cL_law 323 = .ok (.aload_n 1, 1) := by decide +kernel
theorem dL_law_324 : decode cL_law 324 = .ok (.aload_n 0, 1) := by decide +kernel
theorem dL_law_325 : decode cL_law 325 = .ok (.iload_n 3, 1) := by decide +kernel
theorem dL_law_326 : decode cL_law 326 = .ok (.iconst 1, 1) := by decide +kernel
theorem dL_law_327 : decode cL_law 327 = .ok (.iadd, 1) := by decide +kernel
theorem dL_law_328 : decode cL_law 328 = .ok (.iaload, 1) := by decide +kernel
theorem dL_law_329 : decode cL_law 329 = .ok (.aload_n 0, 1) := by decide +kernel
theorem dL_law_330 : decode cL_law 330 = .ok (.iload_n 3, 1) := by decide +kernel
theorem dL_law_331 : decode cL_law 331 = .ok (.iconst 2, 1) := by decide +kernel
theorem dL_law_332 : decode cL_law 332 = .ok (.iadd, 1) := by decide +kernel
theorem dL_law_333 : decode cL_law 333 = .ok (.iaload, 1) := by decide +kernel
theorem dL_law_334 : decode cL_law 334 = .ok (.aload_n 0, 1) := by decide +kernel
theorem dL_law_335 : decode cL_law 335 = .ok (.iload_n 3, 1) := by decide +kernel
theorem dL_law_336 : decode cL_law 336 = .ok (.iconst 3, 1) := by decide +kernel
theorem dL_law_337 : decode cL_law 337 = .ok (.iadd, 1) := by decide +kernel
theorem dL_law_338 : decode cL_law 338 = .ok (.iaload, 1) := by decide +kernel
theorem dL_law_339 : decode cL_law 339 = .ok (.invokevirtual 52, 3) := by decide +kernel
theorem dL_law_342 : decode cL_law 342 = .ok (.aload_n 2, 1) := by decide +kernel
theorem dL_law_343 : decode cL_law 343 = .ok (.aload_n 0, 1) := by decide +kernel
theorem dL_law_344 : decode cL_law 344 = .ok (.iload_n 3, 1) := by decide +kernel
theorem dL_law_345 : decode cL_law 345 = .ok (.iconst 1, 1) := by decide +kernel
theorem dL_law_346 : decode cL_law 346 = .ok (.iadd, 1) := by decide +kernel
theorem dL_law_347 : decode cL_law 347 = .ok (.iaload, 1) := by decide +kernel
theorem dL_law_348 : decode cL_law 348 = .ok (.aload_n 0, 1) := by decide +kernel
theorem dL_law_349 : decode cL_law 349 = .ok (.iload_n 3, 1) := by decide +kernel
theorem dL_law_350 : decode cL_law 350 = .ok (.iconst 2, 1) := by decide +kernel
theorem dL_law_351 : decode cL_law 351 = .ok (.iadd, 1) := by decide +kernel
theorem dL_law_352 : decode cL_law 352 = .ok (.iaload, 1) := by decide +kernel
theorem dL_law_353 : decode cL_law 353 = .ok (.aload_n 0, 1) := by decide +kernel
theorem dL_law_354 : decode cL_law 354 = .ok (.iload_n 3, 1) := by decide +kernel
theorem dL_law_355 : decode cL_law 355 = .ok (.iconst 3, 1) := by decide +kernel
theorem dL_law_356 : decode cL_law 356 = .ok (.iadd, 1) := by decide +kernel
theorem dL_law_357 : decode cL_law 357 = .ok (.iaload, 1) := by decide +kernel
theorem dL_law_358 : decode cL_law 358 = .ok (.invokevirtual 56, 3) := by decide +kernel
theorem dL_law_361 : decode cL_law 361 = .ok (.if_icmp .eq 166, 3) := by decide +kernel
theorem dL_law_364 : decode cL_law 364 = .ok (.iconst 0, 1) := by decide +kernel
theorem dL_law_365 : decode cL_law 365 = .ok (.ireturn, 1) := by decide +kernel
theorem dL_law_366 : decode cL_law 366 = .ok (.aload_n 1, 1) := by decide +kernel
theorem dL_law_367 : decode cL_law 367 = .ok (.aload_n 0, 1) := by decide +kernel
theorem dL_law_368 : decode cL_law 368 = .ok (.iload_n 3, 1) := by decide +kernel
theorem dL_law_369 : decode cL_law 369 = .ok (.iconst 1, 1) := by decide +kernel
theorem dL_law_370 : decode cL_law 370 = .ok (.iadd, 1) := by decide +kernel
theorem dL_law_371 : decode cL_law 371 = .ok (.iaload, 1) := by decide +kernel
theorem dL_law_372 : decode cL_law 372 = .ok (.invokevirtual 57, 3) := by decide +kernel
theorem dL_law_375 : decode cL_law 375 = .ok (.aload_n 2, 1) := by decide +kernel
theorem dL_law_376 : decode cL_law 376 = .ok (.aload_n 0, 1) := by decide +kernel
theorem dL_law_377 : decode cL_law 377 = .ok (.iload_n 3, 1) := by decide +kernel
theorem dL_law_378 : decode cL_law 378 = .ok (.iconst 1, 1) := by decide +kernel
theorem dL_law_379 : decode cL_law 379 = .ok (.iadd, 1) := by decide +kernel
theorem dL_law_380 : decode cL_law 380 = .ok (.iaload, 1) := by decide +kernel
theorem dL_law_381 : decode cL_law 381 = .ok (.invokevirtual 60, 3) := by decide +kernel
theorem dL_law_384 : decode cL_law 384 = .ok (.if_icmp .eq 143, 3) := by decide +kernel
theorem dL_law_387 : decode cL_law 387 = .ok (.iconst 0, 1) := by decide +kernel
theorem dL_law_388 : decode cL_law 388 = .ok (.ireturn, 1) := by decide +kernel
theorem dL_law_389 : decode cL_law 389 = .ok (.aload_n 1, 1) := by decide +kernel
theorem dL_law_390 : decode cL_law 390 = .ok (.aload_n 0, 1) := by decide +kernel
theorem dL_law_391 : decode cL_law 391 = .ok (.iload_n 3, 1) := by decide +kernel
theorem dL_law_392 : decode cL_law 392 = .ok (.iconst 1, 1) := by decide +kernel
theorem dL_law_393 : decode cL_law 393 = .ok (.iadd, 1) := by decide +kernel
theorem dL_law_394 : decode cL_law 394 = .ok (.iaload, 1) := by decide +kernel
theorem dL_law_395 : decode cL_law 395 = .ok (.invokevirtual 61, 3) := by decide +kernel
theorem dL_law_398 : decode cL_law 398 = .ok (.aload_n 2, 1) := by decide +kernel
theorem dL_law_399 : decode cL_law 399 = .ok (.aload_n 0, 1) := by decide +kernel
theorem dL_law_400 : decode cL_law 400 = .ok (.iload_n 3, 1) := by decide +kernel
theorem dL_law_401 : decode cL_law 401 = .ok (.iconst 1, 1) := by decide +kernel
theorem dL_law_402 : decode cL_law 402 = .ok (.iadd, 1) := by decide +kernel
theorem dL_law_403 : decode cL_law 403 = .ok (.iaload, 1) := by decide +kernel
theorem dL_law_404 : decode cL_law 404 = .ok (.invokevirtual 64, 3) := by decide +kernel
theorem dL_law_407 : decode cL_law 407 = .ok (.if_icmp .eq 120, 3) := by decide +kernel
theorem dL_law_410 : decode cL_law 410 = .ok (.iconst 0, 1) := by decide +kernel
theorem dL_law_411 : decode cL_law 411 = .ok (.ireturn, 1) := by decide +kernel
theorem dL_law_412 : decode cL_law 412 = .ok (.aload_n 1, 1) := by decide +kernel
theorem dL_law_413 : decode cL_law 413 = .ok (.aload_n 0, 1) := by decide +kernel
theorem dL_law_414 : decode cL_law 414 = .ok (.iload_n 3, 1) := by decide +kernel
theorem dL_law_415 : decode cL_law 415 = .ok (.iconst 1, 1) := by decide +kernel
theorem dL_law_416 : decode cL_law 416 = .ok (.iadd, 1) := by decide +kernel
theorem dL_law_417 : decode cL_law 417 = .ok (.iaload, 1) := by decide +kernel
theorem dL_law_418 : decode cL_law 418 = .ok (.aload_n 0, 1) := by decide +kernel
theorem dL_law_419 : decode cL_law 419 = .ok (.iload_n 3, 1) := by decide +kernel
theorem dL_law_420 : decode cL_law 420 = .ok (.iconst 2, 1) := by decide +kernel
theorem dL_law_421 : decode cL_law 421 = .ok (.iadd, 1) := by decide +kernel
theorem dL_law_422 : decode cL_law 422 = .ok (.iaload, 1) := by decide +kernel
theorem dL_law_423 : decode cL_law 423 = .ok (.invokevirtual 65, 3) := by decide +kernel
theorem dL_law_426 : decode cL_law 426 = .ok (.aload_n 2, 1) := by decide +kernel
theorem dL_law_427 : decode cL_law 427 = .ok (.aload_n 0, 1) := by decide +kernel
theorem dL_law_428 : decode cL_law 428 = .ok (.iload_n 3, 1) := by decide +kernel
theorem dL_law_429 : decode cL_law 429 = .ok (.iconst 1, 1) := by decide +kernel
theorem dL_law_430 : decode cL_law 430 = .ok (.iadd, 1) := by decide +kernel
theorem dL_law_431 : decode cL_law 431 = .ok (.iaload, 1) := by decide +kernel
theorem dL_law_432 : decode cL_law 432 = .ok (.aload_n 0, 1) := by decide +kernel
theorem dL_law_433 : decode cL_law 433 = .ok (.iload_n 3, 1) := by decide +kernel
theorem dL_law_434 : decode cL_law 434 = .ok (.iconst 2, 1) := by decide +kernel
theorem dL_law_435 : decode cL_law 435 = .ok (.iadd, 1) := by decide +kernel
theorem dL_law_436 : decode cL_law 436 = .ok (.iaload, 1) := by decide +kernel
theorem dL_law_437 : decode cL_law 437 = .ok (.invokevirtual 68, 3) := by decide +kernel
theorem dL_law_440 : decode cL_law 440 = .ok (.if_icmp .eq 87, 3) := by decide +kernel
theorem dL_law_443 : decode cL_law 443 = .ok (.iconst 0, 1) := by decide +kernel
theorem dL_law_444 : decode cL_law 444 = .ok (.ireturn, 1) := by decide +kernel
theorem dL_law_445 : decode cL_law 445 = .ok (.aload_n 1, 1) := by decide +kernel
theorem dL_law_446 : decode cL_law 446 = .ok (.aload_n 0, 1) := by decide +kernel
theorem dL_law_447 : decode cL_law 447 = .ok (.iload_n 3, 1) := by decide +kernel
theorem dL_law_448 : decode cL_law 448 = .ok (.iconst 1, 1) := by decide +kernel
theorem dL_law_449 : decode cL_law 449 = .ok (.iadd, 1) := by decide +kernel
theorem dL_law_450 : decode cL_law 450 = .ok (.iaload, 1) := by decide +kernel
theorem dL_law_451 : decode cL_law 451 = .ok (.invokevirtual 69, 3) := by decide +kernel
theorem dL_law_454 : decode cL_law 454 = .ok (.aload_n 2, 1) := by decide +kernel
theorem dL_law_455 : decode cL_law 455 = .ok (.aload_n 0, 1) := by decide +kernel
theorem dL_law_456 : decode cL_law 456 = .ok (.iload_n 3, 1) := by decide +kernel
theorem dL_law_457 : decode cL_law 457 = .ok (.iconst 1, 1) := by decide +kernel
theorem dL_law_458 : decode cL_law 458 = .ok (.iadd, 1) := by decide +kernel
theorem dL_law_459 : decode cL_law 459 = .ok (.iaload, 1) := by decide +kernel
theorem dL_law_460 : decode cL_law 460 = .ok (.invokevirtual 72, 3) := by decide +kernel
theorem dL_law_463 : decode cL_law 463 = .ok (.if_icmp .eq 64, 3) := by decide +kernel
theorem dL_law_466 : decode cL_law 466 = .ok (.iconst 0, 1) := by decide +kernel
theorem dL_law_467 : decode cL_law 467 = .ok (.ireturn, 1) := by decide +kernel
theorem dL_law_468 : decode cL_law 468 = .ok (.aload_n 1, 1) := by decide +kernel
theorem dL_law_469 : decode cL_law 469 = .ok (.invokevirtual 73, 3) := by decide +kernel
theorem dL_law_472 : decode cL_law 472 = .ok (.aload_n 2, 1) := by decide +kernel
theorem dL_law_473 : decode cL_law 473 = .ok (.invokevirtual 76, 3) := by decide +kernel
theorem dL_law_476 : decode cL_law 476 = .ok (.if_icmp .eq 51, 3) := by decide +kernel
theorem dL_law_479 : decode cL_law 479 = .ok (.iconst 0, 1) := by decide +kernel
theorem dL_law_480 : decode cL_law 480 = .ok (.ireturn, 1) := by decide +kernel
theorem dL_law_481 : decode cL_law 481 = .ok (.aload_n 1, 1) := by decide +kernel
theorem dL_law_482 : decode cL_law 482 = .ok (.aload_n 0, 1) := by decide +kernel
theorem dL_law_483 : decode cL_law 483 = .ok (.iload_n 3, 1) := by decide +kernel
theorem dL_law_484 : decode cL_law 484 = .ok (.iconst 1, 1) := by decide +kernel
theorem dL_law_485 : decode cL_law 485 = .ok (.iadd, 1) := by decide +kernel
theorem dL_law_486 : decode cL_law 486 = .ok (.iaload, 1) := by decide +kernel
theorem dL_law_487 : decode cL_law 487 = .ok (.invokevirtual 77, 3) := by decide +kernel
theorem dL_law_490 : decode cL_law 490 = .ok (.aload_n 2, 1) := by decide +kernel
theorem dL_law_491 : decode cL_law 491 = .ok (.aload_n 0, 1) := by decide +kernel
theorem dL_law_492 : decode cL_law 492 = .ok (.iload_n 3, 1) := by decide +kernel
theorem dL_law_493 : decode cL_law 493 = .ok (.iconst 1, 1) := by decide +kernel
theorem dL_law_494 : decode cL_law 494 = .ok (.iadd, 1) := by decide +kernel
theorem dL_law_495 : decode cL_law 495 = .ok (.iaload, 1) := by decide +kernel
theorem dL_law_496 : decode cL_law 496 = .ok (.invokevirtual 80, 3) := by decide +kernel
theorem dL_law_499 : decode cL_law 499 = .ok (.if_icmp .eq 28, 3) := by decide +kernel
theorem dL_law_502 : decode cL_law 502 = .ok (.iconst 0, 1) := by decide +kernel
theorem dL_law_503 : decode cL_law 503 = .ok (.ireturn, 1) := by decide +kernel
theorem dL_law_504 : decode cL_law 504 = .ok (.aload_n 1, 1) := by decide +kernel
theorem dL_law_505 : decode cL_law 505 = .ok (.aload_n 0, 1) := by decide +kernel
theorem dL_law_506 : decode cL_law 506 = .ok (.iload_n 3, 1) := by decide +kernel
theorem dL_law_507 : decode cL_law 507 = .ok (.iconst 1, 1) := by decide +kernel
theorem dL_law_508 : decode cL_law 508 = .ok (.iadd, 1) := by decide +kernel
theorem dL_law_509 : decode cL_law 509 = .ok (.iaload, 1) := by decide +kernel
theorem dL_law_510 : decode cL_law 510 = .ok (.invokevirtual 81, 3) := by decide +kernel
theorem dL_law_513 : decode cL_law 513 = .ok (.aload_n 2, 1) := by decide +kernel
theorem dL_law_514 : decode cL_law 514 = .ok (.aload_n 0, 1) := by decide +kernel
theorem dL_law_515 : decode cL_law 515 = .ok (.iload_n 3, 1) := by decide +kernel
theorem dL_law_516 : decode cL_law 516 = .ok (.iconst 1, 1) := by decide +kernel
theorem dL_law_517 : decode cL_law 517 = .ok (.iadd, 1) := by decide +kernel
theorem dL_law_518 : decode cL_law 518 = .ok (.iaload, 1) := by decide +kernel
theorem dL_law_519 : decode cL_law 519 = .ok (.invokevirtual 84, 3) := by decide +kernel
theorem dL_law_522 : decode cL_law 522 = .ok (.if_icmp .eq 5, 3) := by decide +kernel
theorem dL_law_525 : decode cL_law 525 = .ok (.iconst 0, 1) := by decide +kernel
theorem dL_law_526 : decode cL_law 526 = .ok (.ireturn, 1) := by decide +kernel
theorem dL_law_527 : decode cL_law 527 = .ok (.iinc 3 4, 3) := by decide +kernel
theorem dL_law_530 : decode cL_law 530 = .ok (.goto (-512), 3) := by decide +kernel
theorem dL_law_533 : decode cL_law 533 = .ok (.iconst 1, 1) := by decide +kernel
theorem dL_law_534 : decode cL_law 534 = .ok (.ireturn, 1) := by decide +kernel
theorem dX0_init_0 : decode cX0_init 0 = .ok (.aload_n 0, 1) := by decide +kernel
theorem dX0_init_1 : decode cX0_init 1 = .ok (.invokespecial 3, 3) := by decide +kernel
theorem dX0_init_4 : decode cX0_init 4 = .ok (.aload_n 0, 1) := by decide +kernel
theorem dX0_init_5 : decode cX0_init 5 = .ok (.new 9, 3) := by decide +kernel
theorem dX0_init_8 : decode cX0_init 8 = .ok (.dup, 1) := by decide +kernel
theorem dX0_init_9 : decode cX0_init 9 = .ok (.bipush 60, 2) := by decide +kernel
theorem dX0_init_11 : decode cX0_init 11 = .ok (.invokespecial 11, 3) := by decide +kernel
theorem dX0_init_14 : decode cX0_init 14 = .ok (.putfield 14, 3) := by decide +kernel
theorem dX0_init_17 : decode cX0_init 17 = .ok (.aload_n 0, 1) := by decide +kernel
theorem dX0_init_18 : decode cX0_init 18 = .ok (.bipush 60, 2) := by decide +kernel
theorem dX0_init_20 : decode cX0_init 20 = .ok (.newarray .int, 2) := by decide +kernel
theorem dX0_init_22 : decode cX0_init 22 = .ok (.putfield 20, 3) := by decide +kernel
theorem dX0_init_25 : decode cX0_init 25 = .ok (.aload_n 0, 1) := by decide +kernel
theorem dX0_init_26 : decode cX0_init 26 = .ok (.bipush 60, 2) := by decide +kernel
theorem dX0_init_28 : decode cX0_init 28 = .ok (.newarray .int, 2) := by decide +kernel
theorem dX0_init_30 : decode cX0_init 30 = .ok (.putfield 24, 3) := by decide +kernel
theorem dX0_init_33 : decode cX0_init 33 = .ok (.aload_n 0, 1) := by decide +kernel
theorem dX0_init_34 : decode cX0_init 34 = .ok (.bipush 60, 2) := by decide +kernel
theorem dX0_init_36 : decode cX0_init 36 = .ok (.newarray .int, 2) := by decide +kernel
theorem dX0_init_38 : decode cX0_init 38 = .ok (.putfield 27, 3) := by decide +kernel
theorem dX0_init_41 : decode cX0_init 41 = .ok (.aload_n 0, 1) := by decide +kernel
theorem dX0_init_42 : decode cX0_init 42 = .ok (.bipush 60, 2) := by decide +kernel
theorem dX0_init_44 : decode cX0_init 44 = .ok (.newarray .int, 2) := by decide +kernel
theorem dX0_init_46 : decode cX0_init 46 = .ok (.putfield 30, 3) := by decide +kernel
theorem dX0_init_49 : decode cX0_init 49 = .ok (.aload_n 0, 1) := by decide +kernel
theorem dX0_init_50 : decode cX0_init 50 = .ok (.iload_n 1, 1) := by decide +kernel
theorem dX0_init_51 : decode cX0_init 51 = .ok (.putfield 33, 3) := by decide +kernel
theorem dX0_init_54 : decode cX0_init 54 = .ok (.aload_n 0, 1) := by decide +kernel
theorem dX0_init_55 : decode cX0_init 55 = .ok (.getfield 20, 3) := by decide +kernel
theorem dX0_init_58 : decode cX0_init 58 = .ok (.iconst 0, 1) := by decide +kernel
theorem dX0_init_59 : decode cX0_init 59 = .ok (.iconst 1, 1) := by decide +kernel
theorem dX0_init_60 : decode cX0_init 60 = .ok (.iastore, 1) := by decide +kernel
theorem dX0_init_61 : decode cX0_init 61 = .ok (.aload_n 0, 1) := by decide +kernel
theorem dX0_init_62 : decode cX0_init 62 = .ok (.getfield 24, 3) := by decide +kernel
theorem dX0_init_65 : decode cX0_init 65 = .ok (.iconst 0, 1) := by decide +kernel
theorem dX0_init_66 : decode cX0_init 66 = .ok (.iconst 1, 1) := by decide +kernel
theorem dX0_init_67 : decode cX0_init 67 = .ok (.iastore, 1) := by decide +kernel
theorem dX0_init_68 : decode cX0_init 68 = .ok (.aload_n 0, 1) := by decide +kernel
theorem dX0_init_69 : decode cX0_init 69 = .ok (.getfield 27, 3) := by decide +kernel
theorem dX0_init_72 : decode cX0_init 72 = .ok (.iconst 0, 1) := by decide +kernel
theorem dX0_init_73 : decode cX0_init 73 = .ok (.iconst 1, 1) := by decide +kernel
theorem dX0_init_74 : decode cX0_init 74 = .ok (.iastore, 1) := by decide +kernel
theorem dX0_init_75 : decode cX0_init 75 = .ok (.return_, 1) := by decide +kernel
theorem dX0_entry_0 : decode cX0_entry 0 = .ok (.iload_n 1, 1) := by decide +kernel
theorem dX0_entry_1 : decode cX0_entry 1 = .ok (.ifCond .lt 15, 3) := by decide +kernel
theorem dX0_entry_4 : decode cX0_entry 4 = .ok (.iload_n 1, 1) := by decide +kernel
theorem dX0_entry_5 : decode cX0_entry 5 = .ok (.aload_n 0, 1) := by decide +kernel
theorem dX0_entry_6 : decode cX0_entry 6 = .ok (.arraylength, 1) := by decide +kernel
theorem dX0_entry_7 : decode cX0_entry 7 = .ok (.if_icmp .ge 9, 3) := by decide +kernel
theorem dX0_entry_10 : decode cX0_entry 10 = .ok (.aload_n 0, 1) := by decide +kernel
theorem dX0_entry_11 : decode cX0_entry 11 = .ok (.iload_n 1, 1) := by decide +kernel
theorem dX0_entry_12 : decode cX0_entry 12 = .ok (.iaload, 1) := by decide +kernel
theorem dX0_entry_13 : decode cX0_entry 13 = .ok (.goto 4, 3) := by decide +kernel
theorem dX0_entry_16 : decode cX0_entry 16 = .ok (.iconst 0, 1) := by decide +kernel
theorem dX0_entry_17 : decode cX0_entry 17 = .ok (.ireturn, 1) := by decide +kernel
theorem dX0_sizeOf_0 : decode cX0_sizeOf 0 = .ok (.aload_n 0, 1) := by decide +kernel
theorem dX0_sizeOf_1 : decode cX0_sizeOf 1 = .ok (.getfield 20, 3) := by decide +kernel
theorem dX0_sizeOf_4 : decode cX0_sizeOf 4 = .ok (.iload_n 1, 1) := by decide +kernel
theorem dX0_sizeOf_5 : decode cX0_sizeOf 5 = .ok (.invokestatic 37, 3) := by decide +kernel
theorem dX0_sizeOf_8 : decode cX0_sizeOf 8 = .ok (.ireturn, 1) := by decide +kernel
theorem dX0_needOf_0 : decode cX0_needOf 0 = .ok (.aload_n 0, 1) := by decide +kernel
theorem dX0_needOf_1 : decode cX0_needOf 1 = .ok (.getfield 24, 3) := by decide +kernel
theorem dX0_needOf_4 : decode cX0_needOf 4 = .ok (.iload_n 1, 1) := by decide +kernel
theorem dX0_needOf_5 : decode cX0_needOf 5 = .ok (.invokestatic 37, 3) := by decide +kernel
theorem dX0_needOf_8 : decode cX0_needOf 8 = .ok (.ireturn, 1) := by decide +kernel
theorem dX0_depthOf_0 : decode cX0_depthOf 0 = .ok (.aload_n 0, 1) := by decide +kernel
theorem dX0_depthOf_1 : decode cX0_depthOf 1 = .ok (.getfield 27, 3) := by decide +kernel
theorem dX0_depthOf_4 : decode cX0_depthOf 4 = .ok (.iload_n 1, 1) := by decide +kernel
theorem dX0_depthOf_5 : decode cX0_depthOf 5 = .ok (.invokestatic 37, 3) := by decide +kernel
theorem dX0_depthOf_8 : decode cX0_depthOf 8 = .ok (.ireturn, 1) := by decide +kernel
theorem dX0_valueOf_0 : decode cX0_valueOf 0 = .ok (.aload_n 0, 1) := by decide +kernel
theorem dX0_valueOf_1 : decode cX0_valueOf 1 = .ok (.getfield 30, 3) := by decide +kernel
theorem dX0_valueOf_4 : decode cX0_valueOf 4 = .ok (.iload_n 1, 1) := by decide +kernel
theorem dX0_valueOf_5 : decode cX0_valueOf 5 = .ok (.invokestatic 37, 3) := by decide +kernel
theorem dX0_valueOf_8 : decode cX0_valueOf 8 = .ok (.ireturn, 1) := by decide +kernel
theorem dX0_rightOf_0 : decode cX0_rightOf 0 = .ok (.iload_n 1, 1) := by decide +kernel
theorem dX0_rightOf_1 : decode cX0_rightOf 1 = .ok (.iconst 1, 1) := by decide +kernel
theorem dX0_rightOf_2 : decode cX0_rightOf 2 = .ok (.iadd, 1) := by decide +kernel
theorem dX0_rightOf_3 : decode cX0_rightOf 3 = .ok (.aload_n 0, 1) := by decide +kernel
theorem dX0_rightOf_4 : decode cX0_rightOf 4 = .ok (.iload_n 1, 1) := by decide +kernel
theorem dX0_rightOf_5 : decode cX0_rightOf 5 = .ok (.iconst 1, 1) := by decide +kernel
theorem dX0_rightOf_6 : decode cX0_rightOf 6 = .ok (.iadd, 1) := by decide +kernel
theorem dX0_rightOf_7 : decode cX0_rightOf 7 = .ok (.invokevirtual 41, 3) := by decide +kernel
theorem dX0_rightOf_10 : decode cX0_rightOf 10 = .ok (.iadd, 1) := by decide +kernel
theorem dX0_rightOf_11 : decode cX0_rightOf 11 = .ok (.ireturn, 1) := by decide +kernel
theorem dX0_pairs_0 : decode cX0_pairs 0 = .ok (.iconst 0, 1) := by decide +kernel
theorem dX0_pairs_1 : decode cX0_pairs 1 = .ok (.istore_n 1, 1) := by decide +kernel
theorem dX0_pairs_2 : decode cX0_pairs 2 = .ok (.iconst 0, 1) := by decide +kernel
theorem dX0_pairs_3 : decode cX0_pairs 3 = .ok (.istore_n 2, 1) := by decide +kernel
theorem dX0_pairs_4 : decode cX0_pairs 4 = .ok (.iload_n 2, 1) := by decide +kernel
theorem dX0_pairs_5 : decode cX0_pairs 5 = .ok (.aload_n 0, 1) := by decide +kernel
theorem dX0_pairs_6 : decode cX0_pairs 6 = .ok (.getfield 14, 3) := by decide +kernel
theorem dX0_pairs_9 : decode cX0_pairs 9 = .ok (.getfield 45, 3) := by decide +kernel
theorem dX0_pairs_12 : decode cX0_pairs 12 = .ok (.if_icmp .ge 32, 3) := by decide +kernel
theorem dX0_pairs_15 : decode cX0_pairs 15 = .ok (.iload_n 1, 1) := by decide +kernel
theorem dX0_pairs_16 : decode cX0_pairs 16 = .ok (.aload_n 0, 1) := by decide +kernel
theorem dX0_pairs_17 : decode cX0_pairs 17 = .ok (.getfield 14, 3) := by decide +kernel
theorem dX0_pairs_20 : decode cX0_pairs 20 = .ok (.iload_n 2, 1) := by decide +kernel
theorem dX0_pairs_21 : decode cX0_pairs 21 = .ok (.invokevirtual 48, 3) := by decide +kernel
theorem dX0_pairs_24 : decode cX0_pairs 24 = .ok (.invokestatic 51, 3) := by decide +kernel
theorem dX0_pairs_27 : decode cX0_pairs 27 = .ok (.iconst 2, 1) := by decide +kernel
theorem dX0_pairs_28 : decode cX0_pairs 28 = .ok (.if_icmp .ne 7, 3) := by decide +kernel
theorem dX0_pairs_31 : decode cX0_pairs 31 = .ok (.iconst 1, 1) := by decide +kernel
theorem dX0_pairs_32 : decode cX0_pairs 32 = .ok (.goto 4, 3) := by decide +kernel
theorem dX0_pairs_35 : decode cX0_pairs 35 = .ok (.iconst 0, 1) := by decide +kernel
theorem dX0_pairs_36 : decode cX0_pairs 36 = .ok (.iadd, 1) := by decide +kernel
theorem dX0_pairs_37 : decode cX0_pairs 37 = .ok (.istore_n 1, 1) := by decide +kernel
theorem dX0_pairs_38 : decode cX0_pairs 38 = .ok (.iinc 2 1, 3) := by decide +kernel
theorem dX0_pairs_41 : decode cX0_pairs 41 = .ok (.goto (-37), 3) := by decide +kernel
theorem dX0_pairs_44 : decode cX0_pairs 44 = .ok (.iload_n 1, 1) := by decide +kernel
theorem dX0_pairs_45 : decode cX0_pairs 45 = .ok (.ireturn, 1) := by decide +kernel
theorem dX0_make_0 : decode cX0_make 0 = .ok (.aload_n 0, 1) := by decide +kernel
theorem dX0_make_1 : decode cX0_make 1 = .ok (.getfield 14, 3) := by decide +kernel
theorem dX0_make_4 : decode cX0_make 4 = .ok (.iconst 0, 1) := by decide +kernel
theorem dX0_make_5 : decode cX0_make 5 = .ok (.putfield 45, 3) := by decide +kernel
theorem dX0_make_8 : decode cX0_make 8 = .ok (.iconst 0, 1) := by decide +kernel
theorem dX0_make_9 : decode cX0_make 9 = .ok (.istore 4, 2) := by decide +kernel
theorem dX0_make_11 : decode cX0_make 11 = .ok (.iload 4, 2) := by decide +kernel
theorem dX0_make_13 : decode cX0_make 13 = .ok (.aload_n 1, 1) := by decide +kernel
theorem dX0_make_14 : decode cX0_make 14 = .ok (.getfield 45, 3) := by decide +kernel
theorem dX0_make_17 : decode cX0_make 17 = .ok (.if_icmp .ge 103, 3) := by decide +kernel
theorem dX0_make_20 : decode cX0_make 20 = .ok (.aload_n 1, 1) := by decide +kernel
theorem dX0_make_21 : decode cX0_make 21 = .ok (.iload 4, 2) := by decide +kernel
theorem dX0_make_23 : decode cX0_make 23 = .ok (.invokevirtual 54, 3) := by decide +kernel
theorem dX0_make_26 : decode cX0_make 26 = .ok (.istore 5, 2) := by decide +kernel
theorem dX0_make_28 : decode cX0_make 28 = .ok (.aload_n 1, 1) := by decide +kernel
theorem dX0_make_29 : decode cX0_make 29 = .ok (.iload 4, 2) := by decide +kernel
theorem dX0_make_31 : decode cX0_make 31 = .ok (.invokevirtual 48, 3) := by decide +kernel
theorem dX0_make_34 : decode cX0_make 34 = .ok (.iconst 2, 1) := by decide +kernel
theorem dX0_make_35 : decode cX0_make 35 = .ok (.if_icmp .ne 7, 3) := by decide +kernel
theorem dX0_make_38 : decode cX0_make 38 = .ok (.iconst 1, 1) := by decide +kernel
theorem dX0_make_39 : decode cX0_make 39 = .ok (.goto 4, 3) := by decide +kernel
theorem dX0_make_42 : decode cX0_make 42 = .ok (.iconst 0, 1) := by decide +kernel
theorem dX0_make_43 : decode cX0_make 43 = .ok (.istore 6, 2) := by decide +kernel
theorem dX0_make_45 : decode cX0_make 45 = .ok (.iload 6, 2) := by decide +kernel
theorem dX0_make_47 : decode cX0_make 47 = .ok (.ifCond .eq 51, 3) := by decide +kernel
theorem dX0_make_50 : decode cX0_make 50 = .ok (.iload 5, 2) := by decide +kernel
theorem dX0_make_52 : decode cX0_make 52 = .ok (.ifCond .lt 46, 3) := by decide +kernel
theorem dX0_make_55 : decode cX0_make 55 = .ok (.iload 5, 2) := by decide +kernel
theorem dX0_make_57 : decode cX0_make 57 = .ok (.aload_n 0, 1) := by decide +kernel
theorem dX0_make_58 : decode cX0_make 58 = .ok (.getfield 33, 3) := by decide +kernel
theorem dX0_make_61 : decode cX0_make 61 = .ok (.if_icmp .ge 37, 3) := by decide +kernel
theorem dX0_make_64 : decode cX0_make 64 = .ok (.iload 5, 2) := by decide +kernel
theorem dX0_make_66 : decode cX0_make 66 = .ok (.aload_n 3, 1) := by decide +kernel
theorem dX0_make_67 : decode cX0_make 67 = .ok (.arraylength, 1) := by decide +kernel
theorem dX0_make_68 : decode cX0_make 68 = .ok (.if_icmp .ge 30, 3) := by decide +kernel
theorem dX0_make_71 : decode cX0_make 71 = .ok (.aload_n 3, 1) := by decide +kernel
theorem dX0_make_72 : decode cX0_make 72 = .ok (.iload 5, 2) := by decide +kernel
theorem dX0_make_74 : decode cX0_make 74 = .ok (.aaload, 1) := by decide +kernel
theorem dX0_make_75 : decode cX0_make 75 = .ok (.getfield 57, 3) := by decide +kernel
theorem dX0_make_78 : decode cX0_make 78 = .ok (.ifCond .eq 20, 3) := by decide +kernel
theorem dX0_make_81 : decode cX0_make 81 = .ok (.aload_n 0, 1) := by decide +kernel
theorem dX0_make_82 : decode cX0_make 82 = .ok (.getfield 14, 3) := by decide +kernel
theorem dX0_make_85 : decode cX0_make 85 = .ok (.aload_n 3, 1) := by decide +kernel
theorem dX0_make_86 : decode cX0_make 86 = .ok (.iload 5, 2) := by decide +kernel
theorem dX0_make_88 : decode cX0_make 88 = .ok (.aaload, 1) := by decide +kernel
theorem dX0_make_89 : decode cX0_make 89 = .ok (.getfield 14, 3) := by decide +kernel
theorem dX0_make_92 : decode cX0_make 92 = .ok (.invokevirtual 61, 3) := by decide +kernel
theorem dX0_make_95 : decode cX0_make 95 = .ok (.goto 19, 3) := by decide +kernel
theorem dX0_make_98 : decode cX0_make 98 = .ok (.aload_n 0, 1) := by decide +kernel
theorem dX0_make_99 : decode cX0_make 99 = .ok (.getfield 14, 3) := by decide +kernel
theorem dX0_make_102 : decode cX0_make 102 = .ok (.aload_n 1, 1) := by decide +kernel
theorem dX0_make_103 : decode cX0_make 103 = .ok (.iload 4, 2) := by decide +kernel
theorem dX0_make_105 : decode cX0_make 105 = .ok (.invokevirtual 48, 3) := by decide +kernel
theorem dX0_make_108 : decode cX0_make 108 = .ok (.iload 5, 2) := by decide +kernel
theorem dX0_make_110 : decode cX0_make 110 = .ok (.invokevirtual 65, 3) := by decide +kernel
theorem dX0_make_113 : decode cX0_make 113 = .ok (.pop, 1) := by decide +kernel
theorem dX0_make_114 : decode cX0_make 114 = .ok (.iinc 4 1, 3) := by decide +kernel
theorem dX0_make_117 : decode cX0_make 117 = .ok (.goto (-106), 3) := by decide +kernel
theorem dX0_make_120 : decode cX0_make 120 = .ok (.aload_n 0, 1) := by decide +kernel
theorem dX0_make_121 : decode cX0_make 121 = .ok (.iload_n 2, 1) := by decide +kernel
theorem dX0_make_122 : decode cX0_make 122 = .ok (.ifCond .eq 41, 3) := by decide +kernel
theorem dX0_make_125 : decode cX0_make 125 = .ok (.aload_n 0, 1) := by decide +kernel
theorem dX0_make_126 : decode cX0_make 126 = .ok (.getfield 14, 3) := by decide +kernel
theorem dX0_make_129 : decode cX0_make 129 = .ok (.getfield 45, 3) := by decide +kernel
theorem dX0_make_132 : decode cX0_make 132 = .ok (.iconst 3, 1) := by decide +kernel
theorem dX0_make_133 : decode cX0_make 133 = .ok (.if_icmp .gt 30, 3) := by decide +kernel
theorem dX0_make_136 : decode cX0_make 136 = .ok (.aload_n 0, 1) := by decide +kernel
theorem dX0_make_137 : decode cX0_make 137 = .ok (.getfield 14, 3) := by decide +kernel
theorem dX0_make_140 : decode cX0_make 140 = .ok (.bipush 6, 2) := by decide +kernel
theorem dX0_make_142 : decode cX0_make 142 = .ok (.invokevirtual 69, 3) := by decide +kernel
theorem dX0_make_145 : decode cX0_make 145 = .ok (.ifCond .ne 18, 3) := by decide +kernel
theorem dX0_make_148 : decode cX0_make 148 = .ok (.aload_n 0, 1) := by decide +kernel
theorem dX0_make_149 : decode cX0_make 149 = .ok (.getfield 14, 3) := by decide +kernel
theorem dX0_make_152 : decode cX0_make 152 = .ok (.iconst 2, 1) := by decide +kernel
theorem dX0_make_153 : decode cX0_make 153 = .ok (.invokevirtual 69, 3) := by decide +kernel
theorem dX0_make_156 : decode cX0_make 156 = .ok (.ifCond .ne 7, 3) := by decide +kernel
theorem dX0_make_159 : decode cX0_make 159 = .ok (.iconst 1, 1) := by decide +kernel
theorem dX0_make_160 : decode cX0_make 160 = .ok (.goto 4, 3) := by decide +kernel
theorem dX0_make_163 : decode cX0_make 163 = .ok (.iconst 0, 1) := by decide +kernel
theorem dX0_make_164 : decode cX0_make 164 = .ok (.putfield 57, 3) := by decide +kernel
theorem dX0_make_167 : decode cX0_make 167 = .ok (.return_, 1) := by decide +kernel
theorem dX0_measure_0 : decode cX0_measure 0 = .ok (.aload_n 0, 1) := by decide +kernel
theorem dX0_measure_1 : decode cX0_measure 1 = .ok (.getfield 14, 3) := by decide +kernel
theorem dX0_measure_4 : decode cX0_measure 4 = .ok (.getfield 45, 3) := by decide +kernel
theorem dX0_measure_7 : decode cX0_measure 7 = .ok (.bipush 60, 2) := by decide +kernel
theorem dX0_measure_9 : decode cX0_measure 9 = .ok (.invokestatic 73, 3) := by decide +kernel
theorem dX0_measure_12 : decode cX0_measure 12 = .ok (.iconst 1, 1) := by decide +kernel
theorem dX0_measure_13 : decode cX0_measure 13 = .ok (.isub, 1) := by decide +kernel
theorem dX0_measure_14 : decode cX0_measure 14 = .ok (.istore_n 3, 1) := by decide +kernel
theorem dX0_measure_15 : decode cX0_measure 15 = .ok (.iload_n 3, 1) := by decide +kernel
theorem dX0_measure_16 : decode cX0_measure 16 = .ok (.ifCond .lt 199, 3) := by decide +kernel
theorem dX0_measure_19 : decode cX0_measure 19 = .ok (.iload_n 3, 1) := by decide +kernel
theorem dX0_measure_20 : decode cX0_measure 20 = .ok (.iconst 1, 1) := by decide +kernel
theorem dX0_measure_21 : decode cX0_measure 21 = .ok (.iadd, 1) := by decide +kernel
theorem dX0_measure_22 : decode cX0_measure 22 = .ok (.istore 4, 2) := by decide +kernel
theorem dX0_measure_24 : decode cX0_measure 24 = .ok (.aload_n 0, 1) := by decide +kernel
theorem dX0_measure_25 : decode cX0_measure 25 = .ok (.getfield 14, 3) := by decide +kernel
theorem dX0_measure_28 : decode cX0_measure 28 = .ok (.iload_n 3, 1) := by decide +kernel
theorem dX0_measure_29 : decode cX0_measure 29 = .ok (.invokevirtual 48, 3) := by decide +kernel
theorem dX0_measure_32 : decode cX0_measure 32 = .ok (.invokestatic 51, 3) := by decide +kernel
theorem dX0_measure_35 : decode cX0_measure 35 = .ok (.istore 5, 2) := by decide +kernel
theorem dX0_measure_37 : decode cX0_measure 37 = .ok (.iload 5, 2) := by decide +kernel
theorem dX0_measure_39 : decode cX0_measure 39 = .ok (.ifCond .ne 27, 3) := by decide +kernel
theorem dX0_measure_42 : decode cX0_measure 42 = .ok (.aload_n 0, 1) := by decide +kernel
theorem dX0_measure_43 : decode cX0_measure 43 = .ok (.iload_n 3, 1) := by decide +kernel
theorem dX0_measure_44 : decode cX0_measure 44 = .ok (.iconst 1, 1) := by decide +kernel
theorem dX0_measure_45 : decode cX0_measure 45 = .ok (.iconst 1, 1) := by decide +kernel
theorem dX0_measure_46 : decode cX0_measure 46 = .ok (.iconst 1, 1) := by decide +kernel
theorem dX0_measure_47 : decode cX0_measure 47 = .ok (.invokevirtual 79, 3) := by decide +kernel
theorem dX0_measure_50 : decode cX0_measure 50 = .ok (.aload_n 0, 1) := by decide +kernel
theorem dX0_measure_51 : decode cX0_measure 51 = .ok (.getfield 30, 3) := by decide +kernel
theorem dX0_measure_54 : decode cX0_measure 54 = .ok (.iload_n 3, 1) := by decide +kernel
theorem dX0_measure_55 : decode cX0_measure 55 = .ok (.aload_n 0, 1) := by decide +kernel
theorem dX0_measure_56 : decode cX0_measure 56 = .ok (.iload_n 3, 1) := by decide +kernel
theorem dX0_measure_57 : decode cX0_measure 57 = .ok (.aload_n 1, 1) := by decide +kernel
theorem dX0_measure_58 : decode cX0_measure 58 = .ok (.aload_n 2, 1) := by decide +kernel
theorem dX0_measure_59 : decode cX0_measure 59 = .ok (.invokevirtual 83, 3) := by decide +kernel
theorem dX0_measure_62 : decode cX0_measure 62 = .ok (.iastore, 1) := by decide +kernel
theorem dX0_measure_63 : decode cX0_measure 63 = .ok (.goto 146, 3) := by decide +kernel
theorem dX0_measure_66 : decode cX0_measure 66 = .ok (.iload 5, 2) := by decide +kernel
theorem dX0_measure_68 : decode cX0_measure 68 = .ok (.iconst 1, 1) := by decide +kernel
theorem dX0_measure_69 : decode cX0_measure 69 = .ok (.if_icmp .ne 46, 3) := by decide +kernel
theorem dX0_measure_72 : decode cX0_measure 72 = .ok (.aload_n 0, 1) := by decide +kernel
theorem dX0_measure_73 : decode cX0_measure 73 = .ok (.iload_n 3, 1) := by decide +kernel
theorem dX0_measure_74 : decode cX0_measure 74 = .ok (.aload_n 0, 1) := by decide +kernel
theorem dX0_measure_75 : decode cX0_measure 75 = .ok (.iload 4, 2) := by decide +kernel
theorem dX0_measure_77 : decode cX0_measure 77 = .ok (.invokevirtual 41, 3) := by decide +kernel
theorem dX0_measure_80 : decode cX0_measure 80 = .ok (.iconst 1, 1) := by decide +kernel
theorem dX0_measure_81 : decode cX0_measure 81 = .ok (.iadd, 1) := by decide +kernel
theorem dX0_measure_82 : decode cX0_measure 82 = .ok (.aload_n 0, 1) := by decide +kernel
theorem dX0_measure_83 : decode cX0_measure 83 = .ok (.iload 4, 2) := by decide +kernel
theorem dX0_measure_85 : decode cX0_measure 85 = .ok (.invokevirtual 87, 3) := by decide +kernel
theorem dX0_measure_88 : decode cX0_measure 88 = .ok (.aload_n 0, 1) := by decide +kernel
theorem dX0_measure_89 : decode cX0_measure 89 = .ok (.iload 4, 2) := by decide +kernel
theorem dX0_measure_91 : decode cX0_measure 91 = .ok (.invokevirtual 90, 3) := by decide +kernel
theorem dX0_measure_94 : decode cX0_measure 94 = .ok (.iconst 1, 1) := by decide +kernel
theorem dX0_measure_95 : decode cX0_measure 95 = .ok (.iadd, 1) := by decide +kernel
theorem dX0_measure_96 : decode cX0_measure 96 = .ok (.invokevirtual 79, 3) := by decide +kernel
theorem dX0_measure_99 : decode cX0_measure 99 = .ok (.aload_n 0, 1) := by decide +kernel
theorem dX0_measure_100 : decode cX0_measure 100 = .ok (.getfield 30, 3) := by decide +kernel
theorem dX0_measure_103 : decode cX0_measure 103 = .ok (.iload_n 3, 1) := by decide +kernel
theorem dX0_measure_104 : decode cX0_measure 104 = .ok (.aload_n 0, 1) := by decide +kernel
theorem dX0_measure_105 : decode cX0_measure 105 = .ok (.iload 4, 2) := by decide +kernel
theorem dX0_measure_107 : decode cX0_measure 107 = .ok (.invokevirtual 93, 3) := by decide +kernel
theorem dX0_measure_110 : decode cX0_measure 110 = .ok (.ineg, 1) := by decide +kernel
theorem dX0_measure_111 : decode cX0_measure 111 = .ok (.iastore, 1) := by decide +kernel
theorem dX0_measure_112 : decode cX0_measure 112 = .ok (.goto 97, 3) := by decide +kernel
theorem dX0_measure_115 : decode cX0_measure 115 = .ok (.aload_n 0, 1) := by decide +kernel
theorem dX0_measure_116 : decode cX0_measure 116 = .ok (.iload_n 3, 1) := by decide +kernel
theorem dX0_measure_117 : decode cX0_measure 117 = .ok (.invokevirtual 96, 3) := by decide +kernel
theorem dX0_measure_120 : decode cX0_measure 120 = .ok (.istore 6, 2) := by decide +kernel
theorem dX0_measure_122 : decode cX0_measure 122 = .ok (.aload_n 0, 1) := by decide +kernel
theorem dX0_measure_123 : decode cX0_measure 123 = .ok (.iload 4, 2) := by decide +kernel
theorem dX0_measure_125 : decode cX0_measure 125 = .ok (.invokevirtual 90, 3) := by decide +kernel
theorem dX0_measure_128 : decode cX0_measure 128 = .ok (.aload_n 0, 1) := by decide +kernel
theorem dX0_measure_129 : decode cX0_measure 129 = .ok (.iload 6, 2) := by decide +kernel
theorem dX0_measure_131 : decode cX0_measure 131 = .ok (.invokevirtual 90, 3) := by decide +kernel
theorem dX0_measure_134 : decode cX0_measure 134 = .ok (.invokestatic 99, 3) := by decide +kernel
theorem dX0_measure_137 : decode cX0_measure 137 = .ok (.iconst 1, 1) := by decide +kernel
theorem dX0_measure_138 : decode cX0_measure 138 = .ok (.iadd, 1) := by decide +kernel
theorem dX0_measure_139 : decode cX0_measure 139 = .ok (.istore 7, 2) := by decide +kernel
theorem dX0_measure_141 : decode cX0_measure 141 = .ok (.aload_n 0, 1) := by decide +kernel
theorem dX0_measure_142 : decode cX0_measure 142 = .ok (.iload_n 3, 1) := by decide +kernel
theorem dX0_measure_143 : decode cX0_measure 143 = .ok (.aload_n 0, 1) := by decide +kernel
theorem dX0_measure_144 : decode cX0_measure 144 = .ok (.iload 4, 2) := by decide +kernel
theorem dX0_measure_146 : decode cX0_measure 146 = .ok (.invokevirtual 41, 3) := by decide +kernel
theorem dX0_measure_149 : decode cX0_measure 149 = .ok (.aload_n 0, 1) := by decide +kernel
theorem dX0_measure_150 : decode cX0_measure 150 = .ok (.iload 6, 2) := by decide +kernel
theorem dX0_measure_152 : decode cX0_measure 152 = .ok (.invokevirtual 41, 3) := by decide +kernel
theorem dX0_measure_155 : decode cX0_measure 155 = .ok (.iadd, 1) := by decide +kernel
theorem dX0_measure_156 : decode cX0_measure 156 = .ok (.iconst 1, 1) := by decide +kernel
theorem dX0_measure_157 : decode cX0_measure 157 = .ok (.iadd, 1) := by decide +kernel
theorem dX0_measure_158 : decode cX0_measure 158 = .ok (.aload_n 0, 1) := by decide +kernel
theorem dX0_measure_159 : decode cX0_measure 159 = .ok (.iload 4, 2) := by decide +kernel
theorem dX0_measure_161 : decode cX0_measure 161 = .ok (.invokevirtual 87, 3) := by decide +kernel
theorem dX0_measure_164 : decode cX0_measure 164 = .ok (.aload_n 0, 1) := by decide +kernel
theorem dX0_measure_165 : decode cX0_measure 165 = .ok (.iload 6, 2) := by decide +kernel
theorem dX0_measure_167 : decode cX0_measure 167 = .ok (.invokevirtual 87, 3) := by decide +kernel
theorem dX0_measure_170 : decode cX0_measure 170 = .ok (.invokestatic 102, 3) := by decide +kernel
theorem dX0_measure_173 : decode cX0_measure 173 = .ok (.iload 7, 2) := by decide +kernel
theorem dX0_measure_175 : decode cX0_measure 175 = .ok (.invokevirtual 79, 3) := by decide +kernel
theorem dX0_measure_178 : decode cX0_measure 178 = .ok (.aload_n 0, 1) := by decide +kernel
theorem dX0_measure_179 : decode cX0_measure 179 = .ok (.getfield 30, 3) := by decide +kernel
theorem dX0_measure_182 : decode cX0_measure 182 = .ok (.iload_n 3, 1) := by decide +kernel
theorem dX0_measure_183 : decode cX0_measure 183 = .ok (.aload_n 0, 1) := by decide +kernel
theorem dX0_measure_184 : decode cX0_measure 184 = .ok (.getfield 14, 3) := by decide +kernel
theorem dX0_measure_187 : decode cX0_measure 187 = .ok (.iload_n 3, 1) := by decide +kernel
theorem dX0_measure_188 : decode cX0_measure 188 = .ok (.invokevirtual 48, 3) := by decide +kernel
theorem dX0_measure_191 : decode cX0_measure 191 = .ok (.aload_n 0, 1) := by decide +kernel
theorem dX0_measure_192 : decode cX0_measure 192 = .ok (.iload 4, 2) := by decide +kernel
theorem dX0_measure_194 : decode cX0_measure 194 = .ok (.invokevirtual 93, 3) := by decide +kernel
theorem dX0_measure_197 : decode cX0_measure 197 = .ok (.i2l, 1) := by decide +kernel
theorem dX0_measure_198 : decode cX0_measure 198 = .ok (.aload_n 0, 1) := by decide +kernel
theorem dX0_measure_199 : decode cX0_measure 199 = .ok (.iload 6, 2) := by decide +kernel
theorem dX0_measure_201 : decode cX0_measure 201 = .ok (.invokevirtual 93, 3) := by decide +kernel
theorem dX0_measure_204 : decode cX0_measure 204 = .ok (.i2l, 1) := by decide +kernel
theorem dX0_measure_205 : decode cX0_measure 205 = .ok (.invokestatic 105, 3) := by decide +kernel
theorem dX0_measure_208 : decode cX0_measure 208 = .ok (.iastore, 1) := by decide +kernel
theorem dX0_measure_209 : decode cX0_measure 209 = .ok (.iinc 3 (-1), 3) := by decide +kernel
theorem dX0_measure_212 : decode cX0_measure 212 = .ok (.goto (-197), 3) := by decide +kernel
theorem dX0_measure_215 : decode cX0_measure 215 = .ok (.return_, 1) := by decide +kernel
theorem dX0_put_0 : decode cX0_put 0 = .ok (.iload_n 1, 1) := by decide +kernel
theorem dX0_put_1 : decode cX0_put 1 = .ok (.ifCond .lt 31, 3) := by decide +kernel
theorem dX0_put_4 : decode cX0_put 4 = .ok (.iload_n 1, 1) := by decide +kernel
theorem dX0_put_5 : decode cX0_put 5 = .ok (.bipush 60, 2) := by decide +kernel
theorem dX0_put_7 : decode cX0_put 7 = .ok (.if_icmp .ge 25, 3) := by decide +kernel
theorem dX0_put_10 : decode cX0_put 10 = .ok (.aload_n 0, 1) := by decide +kernel
theorem dX0_put_11 : decode cX0_put 11 = .ok (.getfield 20, 3) := by decide +kernel
theorem dX0_put_14 : decode cX0_put 14 = .ok (.iload_n 1, 1) := by decide +kernel
theorem dX0_put_15 : decode cX0_put 15 = .ok (.iload_n 2, 1) := by decide +kernel
theorem dX0_put_16 : decode cX0_put 16 = .ok (.iastore, 1) := by decide +kernel
theorem dX0_put_17 : decode cX0_put 17 = .ok (.aload_n 0, 1) := by decide +kernel
theorem dX0_put_18 : decode cX0_put 18 = .ok (.getfield 24, 3) := by decide +kernel
theorem dX0_put_21 : decode cX0_put 21 = .ok (.iload_n 1, 1) := by decide +kernel
theorem dX0_put_22 : decode cX0_put 22 = .ok (.iload_n 3, 1) := by decide +kernel
theorem dX0_put_23 : decode cX0_put 23 = .ok (.iastore, 1) := by decide +kernel
theorem dX0_put_24 : decode cX0_put 24 = .ok (.aload_n 0, 1) := by decide +kernel
theorem dX0_put_25 : decode cX0_put 25 = .ok (.getfield 27, 3) := by decide +kernel
theorem dX0_put_28 : decode cX0_put 28 = .ok (.iload_n 1, 1) := by decide +kernel
theorem dX0_put_29 : decode cX0_put 29 = .ok (.iload 4, 2) := by decide +kernel
theorem dX0_put_31 : decode cX0_put 31 = .ok (.iastore, 1) := by decide +kernel
theorem dX0_put_32 : decode cX0_put 32 = .ok (.return_, 1) := by decide +kernel
theorem dX0_needOfPair_0 : decode cX0_needOfPair 0 = .ok (.iload_n 0, 1) := by decide +kernel
theorem dX0_needOfPair_1 : decode cX0_needOfPair 1 = .ok (.iload_n 1, 1) := by decide +kernel
theorem dX0_needOfPair_2 : decode cX0_needOfPair 2 = .ok (.if_icmp .ne 9, 3) := by decide +kernel
theorem dX0_needOfPair_5 : decode cX0_needOfPair 5 = .ok (.iload_n 0, 1) := by decide +kernel
theorem dX0_needOfPair_6 : decode cX0_needOfPair 6 = .ok (.iconst 1, 1) := by decide +kernel
theorem dX0_needOfPair_7 : decode cX0_needOfPair 7 = .ok (.iadd, 1) := by decide +kernel
theorem dX0_needOfPair_8 : decode cX0_needOfPair 8 = .ok (.goto 8, 3) := by decide +kernel
theorem dX0_needOfPair_11 : decode cX0_needOfPair 11 = .ok (.iload_n 0, 1) := by decide +kernel
theorem dX0_needOfPair_12 : decode cX0_needOfPair 12 = .ok (.iload_n 1, 1) := by decide +kernel
theorem dX0_needOfPair_13 : decode cX0_needOfPair 13 = .ok (.invokestatic 99, 3) := by decide +kernel
theorem dX0_needOfPair_16 : decode cX0_needOfPair 16 = .ok (.ireturn, 1) := by decide +kernel
theorem dX0_leafValue_0 : decode cX0_leafValue 0 = .ok (.aload_n 0, 1) := by decide +kernel
theorem dX0_leafValue_1 : decode cX0_leafValue 1 = .ok (.getfield 14, 3) := by decide +kernel
theorem dX0_leafValue_4 : decode cX0_leafValue 4 = .ok (.iload_n 1, 1) := by decide +kernel
theorem dX0_leafValue_5 : decode cX0_leafValue 5 = .ok (.invokevirtual 48, 3) := by decide +kernel
theorem dX0_leafValue_8 : decode cX0_leafValue 8 = .ok (.istore 4, 2) := by decide +kernel
theorem dX0_leafValue_10 : decode cX0_leafValue 10 = .ok (.aload_n 0, 1) := by decide +kernel
theorem dX0_leafValue_11 : decode cX0_leafValue 11 = .ok (.getfield 14, 3) := by decide +kernel
theorem dX0_leafValue_14 : decode cX0_leafValue 14 = .ok (.iload_n 1, 1) := by decide +kernel
theorem dX0_leafValue_15 : decode cX0_leafValue 15 = .ok (.invokevirtual 54, 3) := by decide +kernel
theorem dX0_leafValue_18 : decode cX0_leafValue 18 = .ok (.istore 5, 2) := by decide +kernel
theorem dX0_leafValue_20 : decode cX0_leafValue 20 = .ok (.iload 4, 2) := by decide +kernel
theorem dX0_leafValue_22 : decode cX0_leafValue 22 = .ok (.iconst 1, 1) := by decide +kernel
theorem dX0_leafValue_23 : decode cX0_leafValue 23 = .ok (.if_icmp .ne 10, 3) := by decide +kernel
theorem dX0_leafValue_26 : decode cX0_leafValue 26 = .ok (.aload_n 2, 1) := by decide +kernel
theorem dX0_leafValue_27 : decode cX0_leafValue 27 = .ok (.iload 5, 2) := by decide +kernel
theorem dX0_leafValue_29 : decode cX0_leafValue 29 = .ok (.invokestatic 37, 3) := by decide +kernel
theorem dX0_leafValue_32 : decode cX0_leafValue 32 = .ok (.ireturn, 1) := by decide +kernel
theorem dX0_leafValue_33 : decode cX0_leafValue 33 = .ok (.iload 4, 2) := by decide +kernel
theorem dX0_leafValue_35 : decode cX0_leafValue 35 = .ok (.iconst 2, 1) := by decide +kernel
theorem dX0_leafValue_36 : decode cX0_leafValue 36 = .ok (.if_icmp .ne 28, 3) := by decide +kernel
theorem dX0_leafValue_39 : decode cX0_leafValue 39 = .ok (.iload 5, 2) := by decide +kernel
theorem dX0_leafValue_41 : decode cX0_leafValue 41 = .ok (.ifCond .lt 21, 3) := by decide +kernel
theorem dX0_leafValue_44 : decode cX0_leafValue 44 = .ok (.iload 5, 2) := by decide +kernel
theorem dX0_leafValue_46 : decode cX0_leafValue 46 = .ok (.aload_n 3, 1) := by decide +kernel
theorem dX0_leafValue_47 : decode cX0_leafValue 47 = .ok (.arraylength, 1) := by decide +kernel
theorem dX0_leafValue_48 : decode cX0_leafValue 48 = .ok (.if_icmp .ge 14, 3) := by decide +kernel
theorem dX0_leafValue_51 : decode cX0_leafValue 51 = .ok (.aload_n 3, 1) := by decide +kernel
theorem dX0_leafValue_52 : decode cX0_leafValue 52 = .ok (.iload 5, 2) := by decide +kernel
theorem dX0_leafValue_54 : decode cX0_leafValue 54 = .ok (.aaload, 1) := by decide +kernel
theorem dX0_leafValue_55 : decode cX0_leafValue 55 = .ok (.iconst 0, 1) := by decide +kernel
theorem dX0_leafValue_56 : decode cX0_leafValue 56 = .ok (.invokevirtual 93, 3) := by decide +kernel
theorem dX0_leafValue_59 : decode cX0_leafValue 59 = .ok (.goto 4, 3) := by decide +kernel
theorem dX0_leafValue_62 : decode cX0_leafValue 62 = .ok (.iconst 0, 1) := by decide +kernel
theorem dX0_leafValue_63 : decode cX0_leafValue 63 = .ok (.ireturn, 1) := by decide +kernel
theorem dX0_leafValue_64 : decode cX0_leafValue 64 = .ok (.iload 5, 2) := by decide +kernel
theorem dX0_leafValue_66 : decode cX0_leafValue 66 = .ok (.ireturn, 1) := by decide +kernel
theorem dX0_operate_0 : decode cX0_operate 0 = .ok (.lload_n 1, 1) := by decide +kernel
theorem dX0_operate_1 : decode cX0_operate 1 = .ok (.lload_n 3, 1) := by decide +kernel
theorem dX0_operate_2 : decode cX0_operate 2 = .ok (.lmul, 1) := by decide +kernel
theorem dX0_operate_3 : decode cX0_operate 3 = .ok (.lstore 5, 2) := by decide +kernel
theorem dX0_operate_5 : decode cX0_operate 5 = .ok (.iload_n 0, 1) := by decide +kernel
theorem dX0_operate_6 : decode cX0_operate 6 = .ok (.iconst 4, 1) := by decide +kernel
theorem dX0_operate_7 : decode cX0_operate 7 = .ok (.if_icmp .ne 11, 3) := by decide +kernel
theorem dX0_operate_10 : decode cX0_operate 10 = .ok (.lload_n 1, 1) := by decide +kernel
theorem dX0_operate_11 : decode cX0_operate 11 = .ok (.lload_n 3, 1) := by decide +kernel
theorem dX0_operate_12 : decode cX0_operate 12 = .ok (.ladd, 1) := by decide +kernel
theorem dX0_operate_13 : decode cX0_operate 13 = .ok (.lstore 5, 2) := by decide +kernel
theorem dX0_operate_15 : decode cX0_operate 15 = .ok (.goto 13, 3) := by decide +kernel
theorem dX0_operate_18 : decode cX0_operate 18 = .ok (.iload_n 0, 1) := by decide +kernel
theorem dX0_operate_19 : decode cX0_operate 19 = .ok (.iconst 5, 1) := by decide +kernel
theorem dX0_operate_20 : decode cX0_operate 20 = .ok (.if_icmp .ne 8, 3) := by decide +kernel
theorem dX0_operate_23 : decode cX0_operate 23 = .ok (.lload_n 1, 1) := by decide +kernel
theorem dX0_operate_24 : decode cX0_operate 24 = .ok (.lload_n 3, 1) := by decide +kernel
theorem dX0_operate_25 : decode cX0_operate 25 = .ok (.lsub, 1) := by decide +kernel
theorem dX0_operate_26 : decode cX0_operate 26 = .ok (.lstore 5, 2) := by decide +kernel
theorem dX0_operate_28 : decode cX0_operate 28 = .ok (.ldc2_w 109, 3) := by decide +kernel
theorem dX0_operate_31 : decode cX0_operate 31 = .ok (.ldc2_w 111, 3) := by decide +kernel
theorem dX0_operate_34 : decode cX0_operate 34 = .ok (.lload 5, 2) := by decide +kernel
theorem dX0_operate_36 : decode cX0_operate 36 = .ok (.invokestatic 113, 3) := by decide +kernel
theorem dX0_operate_39 : decode cX0_operate 39 = .ok (.invokestatic 116, 3) := by decide +kernel
theorem dX0_operate_42 : decode cX0_operate 42 = .ok (.l2i, 1) := by decide +kernel
theorem dX0_operate_43 : decode cX0_operate 43 = .ok (.ireturn, 1) := by decide +kernel
