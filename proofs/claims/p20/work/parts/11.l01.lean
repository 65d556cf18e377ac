set_option maxRecDepth 100000 in
set_option maxHeartbeats 4000000 in
theorem f_L_tell_b311_ok {X : XT} {G : GT} {Z : ZT} (hZ : 0 ≤ Z.1) (k6 : Nat → Nat → Nat → Nat → Nat → Nat → Nat → Nat → Int32 → Mem → Option (Unit × Mem)) (hk6 : ∀ (a0 : Nat) (a1 : Nat) (a2 : Nat) (a3 : Nat) (a5 : Nat) (a6 : Nat) (a7 : Nat) (a8 : Nat) (x9 : Int32) (M : Mem), U X G Z cL_tell none (QM X G Z vU) 14 6 [(0, .ref (G.2 + a0)), (1, .ref (G.2 + a1)), (2, .ref (G.2 + a2)), (3, .ref (G.2 + a3)), (5, .ref (G.2 + a5)), (6, .ref (G.2 + a6)), (7, .ref (G.2 + a7)), (8, .ref (G.2 + a8)), (9, .int x9)] [] M (k6 a0 a1 a2 a3 a5 a6 a7 a8 x9 M)) (a0 : Nat) (a1 : Nat) (a2 : Nat) (a3 : Nat) (a5 : Nat) (a6 : Nat) (a7 : Nat) (a8 : Nat) (x9 : Int32) (t0 : Int64) (M : Mem) : U X G Z cL_tell none (QM X G Z vU) 14 311 [(0, .ref (G.2 + a0)), (1, .ref (G.2 + a1)), (2, .ref (G.2 + a2)), (3, .ref (G.2 + a3)), (5, .ref (G.2 + a5)), (6, .ref (G.2 + a6)), (7, .ref (G.2 + a7)), (8, .ref (G.2 + a8)), (9, .int x9)] [.long t0] M (f_L_tell_b311 k6 a0 a1 a2 a3 a5 a6 a7 a8 x9 t0 M) := by
  unfold f_L_tell_b311
  refine U_lstore 12 [(12, .long t0), (0, .ref (G.2 + a0)), (1, .ref (G.2 + a1)), (2, .ref (G.2 + a2)), (3, .ref (G.2 + a3)), (5, .ref (G.2 + a5)), (6, .ref (G.2 + a6)), (7, .ref (G.2 + a7)), (8, .ref (G.2 + a8)), (9, .int x9)] (by decide) rfl dL_tell_311 ?_
  refine U_aload 8 8 rfl dL_tell_313 ?_
  refine U_iload 9 9 rfl dL_tell_315 ?_
  refine U_lload 12 0 rfl dL_tell_317 ?_
  refine U_ldc2 wkL_15 dL_tell_319 ?_
  refine U_lcmp dL_tell_322 ?_
  refine U_ifle 331 dL_tell_323 (by decide) (fun _ => ?_) (fun _ => ?_)
  · refine U_lload 12 0 rfl dL_tell_331 ?_
    refine U_ldc2 wkL_18 dL_tell_333 ?_
    refine U_lcmp dL_tell_336 ?_
    refine U_ifge 345 dL_tell_337 (by decide) (fun _ => ?_) (fun _ => ?_)
    · refine U_lload 12 0 rfl dL_tell_345 ?_
      refine U_l2i dL_tell_347 ?_
      refine U_iast dL_tell_348 (fun M1 => ?_)
      refine U_iincB 9 9 (fun y2 => [(9, .int y2), (12, .long t0), (0, .ref (G.2 + a0)), (1, .ref (G.2 + a1)), (2, .ref (G.2 + a2)), (3, .ref (G.2 + a3)), (5, .ref (G.2 + a5)), (6, .ref (G.2 + a6)), (7, .ref (G.2 + a7)), (8, .ref (G.2 + a8))]) rfl ic_m1 (by decide) (fun _ => rfl) dL_tell_349 (fun y2 => ?_)
      refine U_goto 6 dL_tell_352 (by decide) ?_
      exact U_sub [2, 3, 4, 5, 6, 7, 8, 9, 0] rfl (hk6 a0 a1 a2 a3 a5 a6 a7 a8 y2 M1)
    · refine U_ldc wkL_20 dL_tell_340 ?_
      refine U_goto 348 dL_tell_342 (by decide) ?_
      refine U_iast dL_tell_348 (fun M3 => ?_)
      refine U_iincB 9 9 (fun y4 => [(9, .int y4), (12, .long t0), (0, .ref (G.2 + a0)), (1, .ref (G.2 + a1)), (2, .ref (G.2 + a2)), (3, .ref (G.2 + a3)), (5, .ref (G.2 + a5)), (6, .ref (G.2 + a6)), (7, .ref (G.2 + a7)), (8, .ref (G.2 + a8))]) rfl ic_m1 (by decide) (fun _ => rfl) dL_tell_349 (fun y4 => ?_)
      refine U_goto 6 dL_tell_352 (by decide) ?_
      exact U_sub [2, 3, 4, 5, 6, 7, 8, 9, 0] rfl (hk6 a0 a1 a2 a3 a5 a6 a7 a8 y4 M3)
  · refine U_ldc wkL_17 dL_tell_326 ?_
    refine U_goto 348 dL_tell_328 (by decide) ?_
    refine U_iast dL_tell_348 (fun M5 => ?_)
    refine U_iincB 9 9 (fun y6 => [(9, .int y6), (12, .long t0), (0, .ref (G.2 + a0)), (1, .ref (G.2 + a1)), (2, .ref (G.2 + a2)), (3, .ref (G.2 + a3)), (5, .ref (G.2 + a5)), (6, .ref (G.2 + a6)), (7, .ref (G.2 + a7)), (8, .ref (G.2 + a8))]) rfl ic_m1 (by decide) (fun _ => rfl) dL_tell_349 (fun y6 => ?_)
    refine U_goto 6 dL_tell_352 (by decide) ?_
    exact U_sub [2, 3, 4, 5, 6, 7, 8, 9, 0] rfl (hk6 a0 a1 a2 a3 a5 a6 a7 a8 y6 M5)
set_option maxRecDepth 100000 in
set_option maxHeartbeats 4000000 in
theorem f_L_tell_b232_ok {X : XT} {G : GT} {Z : ZT} (hZ : 0 ≤ Z.1) (k6 : Nat → Nat → Nat → Nat → Nat → Nat → Nat → Nat → Int32 → Mem → Option (Unit × Mem)) (hk6 : ∀ (a0 : Nat) (a1 : Nat) (a2 : Nat) (a3 : Nat) (a5 : Nat) (a6 : Nat) (a7 : Nat) (a8 : Nat) (x9 : Int32) (M : Mem), U X G Z cL_tell none (QM X G Z vU) 14 6 [(0, .ref (G.2 + a0)), (1, .ref (G.2 + a1)), (2, .ref (G.2 + a2)), (3, .ref (G.2 + a3)), (5, .ref (G.2 + a5)), (6, .ref (G.2 + a6)), (7, .ref (G.2 + a7)), (8, .ref (G.2 + a8)), (9, .int x9)] [] M (k6 a0 a1 a2 a3 a5 a6 a7 a8 x9 M)) (a0 : Nat) (a1 : Nat) (a2 : Nat) (a3 : Nat) (a5 : Nat) (a6 : Nat) (a7 : Nat) (a8 : Nat) (x9 : Int32) (x10 : Int32) (x11 : Int32) (t0 : Int32) (t1 : Int32) (t2 : Int32) (r3 : Nat) (M : Mem) : U X G Z cL_tell none (QM X G Z vU) 14 232 [(0, .ref (G.2 + a0)), (1, .ref (G.2 + a1)), (2, .ref (G.2 + a2)), (3, .ref (G.2 + a3)), (5, .ref (G.2 + a5)), (6, .ref (G.2 + a6)), (7, .ref (G.2 + a7)), (8, .ref (G.2 + a8)), (9, .int x9), (10, .int x10), (11, .int x11)] [.int t0, .int t1, .int t2, .ref (G.2 + r3)] M (f_L_tell_b232 k6 a0 a1 a2 a3 a5 a6 a7 a8 x9 x10 x11 t0 t1 t2 r3 M) := by
  unfold f_L_tell_b232
  refine U_iadd dL_tell_232 ?_
  refine U_iast dL_tell_233 (fun M1 => ?_)
  refine U_aload_n 2 rfl 2 rfl dL_tell_234 ?_
  refine U_iload 9 8 rfl dL_tell_235 ?_
  refine U_iald dL_tell_237 ?_
  refine U_iconst dL_tell_238 ic_3 ?_
  refine U_icmpne 252 dL_tell_239 (by decide) (fun _ => ?_) (fun _ => ?_)
  · refine U_aload_n 2 rfl 2 rfl dL_tell_252 ?_
    refine U_iload 9 8 rfl dL_tell_253 ?_
    refine U_iald dL_tell_255 ?_
    refine U_iconst dL_tell_256 ic_4 ?_
    refine U_icmpne 275 dL_tell_257 (by decide) (fun _ => ?_) (fun _ => ?_)
    · refine U_aload_n 2 rfl 2 rfl dL_tell_275 ?_
      refine U_iload 9 8 rfl dL_tell_276 ?_
      refine U_iald dL_tell_278 ?_
      refine U_iconst dL_tell_279 ic_5 ?_
      refine U_icmpne 298 dL_tell_280 (by decide) (fun _ => ?_) (fun _ => ?_)
      · refine U_aload 8 7 rfl dL_tell_298 ?_
        refine U_iload 10 9 rfl dL_tell_300 ?_
        refine U_iald dL_tell_302 ?_
        refine U_i2l dL_tell_303 ?_
        refine U_aload 8 7 rfl dL_tell_304 ?_
        refine U_iload 11 10 rfl dL_tell_306 ?_
        refine U_iald dL_tell_308 ?_
        refine U_i2l dL_tell_309 ?_
        refine U_lmul dL_tell_310 ?_
        exact U_sub [0, 1, 2, 3, 4, 5, 6, 7, 8] rfl (f_L_tell_b311_ok hZ k6 hk6 a0 a1 a2 a3 a5 a6 a7 a8 x9 ((Int32.toInt64 (M1.1 a8 (ix x10))) * (Int32.toInt64 (M1.1 a8 (ix x11)))) M1)
      · refine U_aload 8 7 rfl dL_tell_283 ?_
        refine U_iload 10 9 rfl dL_tell_285 ?_
        refine U_iald dL_tell_287 ?_
        refine U_aload 8 7 rfl dL_tell_288 ?_
        refine U_iload 11 10 rfl dL_tell_290 ?_
        refine U_iald dL_tell_292 ?_
        refine U_isub dL_tell_293 ?_
        refine U_i2l dL_tell_294 ?_
        refine U_goto 311 dL_tell_295 (by decide) ?_
        exact U_sub [0, 1, 2, 3, 4, 5, 6, 7, 8] rfl (f_L_tell_b311_ok hZ k6 hk6 a0 a1 a2 a3 a5 a6 a7 a8 x9 (Int32.toInt64 ((M1.1 a8 (ix x10)) - (M1.1 a8 (ix x11)))) M1)
    · refine U_aload 8 7 rfl dL_tell_260 ?_
      refine U_iload 10 9 rfl dL_tell_262 ?_
      refine U_iald dL_tell_264 ?_
      refine U_aload 8 7 rfl dL_tell_265 ?_
      refine U_iload 11 10 rfl dL_tell_267 ?_
      refine U_iald dL_tell_269 ?_
      refine U_iadd dL_tell_270 ?_
      refine U_i2l dL_tell_271 ?_
      refine U_goto 311 dL_tell_272 (by decide) ?_
      exact U_sub [0, 1, 2, 3, 4, 5, 6, 7, 8] rfl (f_L_tell_b311_ok hZ k6 hk6 a0 a1 a2 a3 a5 a6 a7 a8 x9 (Int32.toInt64 ((M1.1 a8 (ix x10)) + (M1.1 a8 (ix x11)))) M1)
  · refine U_aload 8 7 rfl dL_tell_242 ?_
    refine U_iload 10 9 rfl dL_tell_244 ?_
    refine U_iald dL_tell_246 ?_
    refine U_ineg dL_tell_247 ?_
    refine U_i2l dL_tell_248 ?_
    refine U_goto 311 dL_tell_249 (by decide) ?_
    exact U_sub [0, 1, 2, 3, 4, 5, 6, 7, 8] rfl (f_L_tell_b311_ok hZ k6 hk6 a0 a1 a2 a3 a5 a6 a7 a8 x9 (Int32.toInt64 (-(M1.1 a8 (ix x10)))) M1)
set_option maxRecDepth 100000 in
set_option maxHeartbeats 4000000 in
theorem f_L_tell_b200_ok {X : XT} {G : GT} {Z : ZT} (hZ : 0 ≤ Z.1) (k6 : Nat → Nat → Nat → Nat → Nat → Nat → Nat → Nat → Int32 → Mem → Option (Unit × Mem)) (hk6 : ∀ (a0 : Nat) (a1 : Nat) (a2 : Nat) (a3 : Nat) (a5 : Nat) (a6 : Nat) (a7 : Nat) (a8 : Nat) (x9 : Int32) (M : Mem), U X G Z cL_tell none (QM X G Z vU) 14 6 [(0, .ref (G.2 + a0)), (1, .ref (G.2 + a1)), (2, .ref (G.2 + a2)), (3, .ref (G.2 + a3)), (5, .ref (G.2 + a5)), (6, .ref (G.2 + a6)), (7, .ref (G.2 + a7)), (8, .ref (G.2 + a8)), (9, .int x9)] [] M (k6 a0 a1 a2 a3 a5 a6 a7 a8 x9 M)) (a0 : Nat) (a1 : Nat) (a2 : Nat) (a3 : Nat) (a5 : Nat) (a6 : Nat) (a7 : Nat) (a8 : Nat) (x9 : Int32) (x10 : Int32) (x11 : Int32) (t0 : Int32) (t1 : Int32) (r2 : Nat) (M : Mem) : U X G Z cL_tell none (QM X G Z vU) 14 200 [(0, .ref (G.2 + a0)), (1, .ref (G.2 + a1)), (2, .ref (G.2 + a2)), (3, .ref (G.2 + a3)), (5, .ref (G.2 + a5)), (6, .ref (G.2 + a6)), (7, .ref (G.2 + a7)), (8, .ref (G.2 + a8)), (9, .int x9), (10, .int x10), (11, .int x11)] [.int t0, .int t1, .ref (G.2 + r2)] M (f_L_tell_b200 k6 a0 a1 a2 a3 a5 a6 a7 a8 x9 x10 x11 t0 t1 r2 M) := by
  unfold f_L_tell_b200
  refine U_iast dL_tell_200 (fun M1 => ?_)
  refine U_aload 7 6 rfl dL_tell_201 ?_
  refine U_iload 9 8 rfl dL_tell_203 ?_
  refine U_iconst dL_tell_205 ic_1 ?_
  refine U_aload 7 6 rfl dL_tell_206 ?_
  refine U_iload 10 9 rfl dL_tell_208 ?_
  refine U_iald dL_tell_210 ?_
  refine U_aload 7 6 rfl dL_tell_211 ?_
  refine U_iload 11 10 rfl dL_tell_213 ?_
  refine U_iald dL_tell_215 ?_
  refine U_icmple 227 dL_tell_216 (by decide) (fun _ => ?_) (fun _ => ?_)
  · refine U_aload 7 6 rfl dL_tell_227 ?_
    refine U_iload 11 10 rfl dL_tell_229 ?_
    refine U_iald dL_tell_231 ?_
    exact U_sub [0, 1, 2, 3, 4, 5, 6, 7, 8, 9, 10] rfl (f_L_tell_b232_ok hZ k6 hk6 a0 a1 a2 a3 a5 a6 a7 a8 x9 x10 x11 (M1.1 a7 (ix x11)) 1 x9 a7 M1)
  · refine U_aload 7 6 rfl dL_tell_219 ?_
    refine U_iload 10 9 rfl dL_tell_221 ?_
    refine U_iald dL_tell_223 ?_
    refine U_goto 232 dL_tell_224 (by decide) ?_
    exact U_sub [0, 1, 2, 3, 4, 5, 6, 7, 8, 9, 10] rfl (f_L_tell_b232_ok hZ k6 hk6 a0 a1 a2 a3 a5 a6 a7 a8 x9 x10 x11 (M1.1 a7 (ix x10)) 1 x9 a7 M1)
set_option maxRecDepth 100000 in
set_option maxHeartbeats 4000000 in
theorem f_L_tell_b185_ok {X : XT} {G : GT} {Z : ZT} (hZ : 0 ≤ Z.1) (k6 : Nat → Nat → Nat → Nat → Nat → Nat → Nat → Nat → Int32 → Mem → Option (Unit × Mem)) (hk6 : ∀ (a0 : Nat) (a1 : Nat) (a2 : Nat) (a3 : Nat) (a5 : Nat) (a6 : Nat) (a7 : Nat) (a8 : Nat) (x9 : Int32) (M : Mem), U X G Z cL_tell none (QM X G Z vU) 14 6 [(0, .ref (G.2 + a0)), (1, .ref (G.2 + a1)), (2, .ref (G.2 + a2)), (3, .ref (G.2 + a3)), (5, .ref (G.2 + a5)), (6, .ref (G.2 + a6)), (7, .ref (G.2 + a7)), (8, .ref (G.2 + a8)), (9, .int x9)] [] M (k6 a0 a1 a2 a3 a5 a6 a7 a8 x9 M)) (a0 : Nat) (a1 : Nat) (a2 : Nat) (a3 : Nat) (a5 : Nat) (a6 : Nat) (a7 : Nat) (a8 : Nat) (x9 : Int32) (x10 : Int32) (x11 : Int32) (t0 : Int32) (r1 : Nat) (M : Mem) : U X G Z cL_tell none (QM X G Z vU) 14 185 [(0, .ref (G.2 + a0)), (1, .ref (G.2 + a1)), (2, .ref (G.2 + a2)), (3, .ref (G.2 + a3)), (5, .ref (G.2 + a5)), (6, .ref (G.2 + a6)), (7, .ref (G.2 + a7)), (8, .ref (G.2 + a8)), (9, .int x9), (10, .int x10), (11, .int x11)] [.int t0, .ref (G.2 + r1)] M (f_L_tell_b185 k6 a0 a1 a2 a3 a5 a6 a7 a8 x9 x10 x11 t0 r1 M) := by
  unfold f_L_tell_b185
  refine U_aload 6 5 rfl dL_tell_185 ?_
  refine U_iload 11 10 rfl dL_tell_187 ?_
  refine U_iald dL_tell_189 ?_
  refine U_goto 200 dL_tell_190 (by decide) ?_
  exact U_sub [0, 1, 2, 3, 4, 5, 6, 7, 8, 9, 10] rfl (f_L_tell_b200_ok hZ k6 hk6 a0 a1 a2 a3 a5 a6 a7 a8 x9 x10 x11 (M.1 a6 (ix x11)) t0 r1 M)
set_option maxRecDepth 100000 in
set_option maxHeartbeats 4000000 in
theorem f_L_tell_b138_ok {X : XT} {G : GT} {Z : ZT} (hZ : 0 ≤ Z.1) (k6 : Nat → Nat → Nat → Nat → Nat → Nat → Nat → Nat → Int32 → Mem → Option (Unit × Mem)) (hk6 : ∀ (a0 : Nat) (a1 : Nat) (a2 : Nat) (a3 : Nat) (a5 : Nat) (a6 : Nat) (a7 : Nat) (a8 : Nat) (x9 : Int32) (M : Mem), U X G Z cL_tell none (QM X G Z vU) 14 6 [(0, .ref (G.2 + a0)), (1, .ref (G.2 + a1)), (2, .ref (G.2 + a2)), (3, .ref (G.2 + a3)), (5, .ref (G.2 + a5)), (6, .ref (G.2 + a6)), (7, .ref (G.2 + a7)), (8, .ref (G.2 + a8)), (9, .int x9)] [] M (k6 a0 a1 a2 a3 a5 a6 a7 a8 x9 M)) (a0 : Nat) (a1 : Nat) (a2 : Nat) (a3 : Nat) (a5 : Nat) (a6 : Nat) (a7 : Nat) (a8 : Nat) (x9 : Int32) (x10 : Int32) (x11 : Int32) (t0 : Int32) (t1 : Int32) (t2 : Int32) (r3 : Nat) (M : Mem) : U X G Z cL_tell none (QM X G Z vU) 14 138 [(0, .ref (G.2 + a0)), (1, .ref (G.2 + a1)), (2, .ref (G.2 + a2)), (3, .ref (G.2 + a3)), (5, .ref (G.2 + a5)), (6, .ref (G.2 + a6)), (7, .ref (G.2 + a7)), (8, .ref (G.2 + a8)), (9, .int x9), (10, .int x10), (11, .int x11)] [.int t0, .int t1, .int t2, .ref (G.2 + r3)] M (f_L_tell_b138 k6 a0 a1 a2 a3 a5 a6 a7 a8 x9 x10 x11 t0 t1 t2 r3 M) := by
  unfold f_L_tell_b138
  refine U_iadd dL_tell_138 ?_
  refine U_iast dL_tell_139 (fun M1 => ?_)
  refine U_aload 6 5 rfl dL_tell_140 ?_
  refine U_iload 9 8 rfl dL_tell_142 ?_
  refine U_aload 6 5 rfl dL_tell_144 ?_
  refine U_iload 10 9 rfl dL_tell_146 ?_
  refine U_iald dL_tell_148 ?_
  refine U_aload 6 5 rfl dL_tell_149 ?_
  refine U_iload 11 10 rfl dL_tell_151 ?_
  refine U_iald dL_tell_153 ?_
  refine U_icmple 165 dL_tell_154 (by decide) (fun _ => ?_) (fun _ => ?_)
  · refine U_aload 6 5 rfl dL_tell_165 ?_
    refine U_iload 11 10 rfl dL_tell_167 ?_
    refine U_iald dL_tell_169 ?_
    refine U_aload 6 5 rfl dL_tell_170 ?_
    refine U_iload 10 9 rfl dL_tell_172 ?_
    refine U_iald dL_tell_174 ?_
    refine U_icmpgt 185 dL_tell_175 (by decide) (fun _ => ?_) (fun _ => ?_)
    · exact U_sub [0, 1, 2, 3, 4, 5, 6, 7, 8, 9, 10] rfl (f_L_tell_b185_ok hZ k6 hk6 a0 a1 a2 a3 a5 a6 a7 a8 x9 x10 x11 x9 a6 M1)
    · refine U_iload 11 10 rfl dL_tell_178 ?_
      refine U_iload 10 9 rfl dL_tell_180 ?_
      refine U_icmpne 193 dL_tell_182 (by decide) (fun _ => ?_) (fun _ => ?_)
      · refine U_aload 6 5 rfl dL_tell_193 ?_
        refine U_iload 10 9 rfl dL_tell_195 ?_
        refine U_iald dL_tell_197 ?_
        refine U_iconst dL_tell_198 ic_1 ?_
        refine U_iadd dL_tell_199 ?_
        exact U_sub [0, 1, 2, 3, 4, 5, 6, 7, 8, 9, 10] rfl (f_L_tell_b200_ok hZ k6 hk6 a0 a1 a2 a3 a5 a6 a7 a8 x9 x10 x11 ((M1.1 a6 (ix x10)) + 1) x9 a6 M1)
      · exact U_sub [0, 1, 2, 3, 4, 5, 6, 7, 8, 9, 10] rfl (f_L_tell_b185_ok hZ k6 hk6 a0 a1 a2 a3 a5 a6 a7 a8 x9 x10 x11 x9 a6 M1)
  · refine U_aload 6 5 rfl dL_tell_157 ?_
    refine U_iload 10 9 rfl dL_tell_159 ?_
    refine U_iald dL_tell_161 ?_
    refine U_goto 200 dL_tell_162 (by decide) ?_
    exact U_sub [0, 1, 2, 3, 4, 5, 6, 7, 8, 9, 10] rfl (f_L_tell_b200_ok hZ k6 hk6 a0 a1 a2 a3 a5 a6 a7 a8 x9 x10 x11 (M1.1 a6 (ix x10)) x9 a6 M1)
set_option maxRecDepth 100000 in
set_option maxHeartbeats 4000000 in
theorem f_L_tell_b109_ok {X : XT} {G : GT} {Z : ZT} (hZ : 0 ≤ Z.1) (k6 : Nat → Nat → Nat → Nat → Nat → Nat → Nat → Nat → Int32 → Mem → Option (Unit × Mem)) (hk6 : ∀ (a0 : Nat) (a1 : Nat) (a2 : Nat) (a3 : Nat) (a5 : Nat) (a6 : Nat) (a7 : Nat) (a8 : Nat) (x9 : Int32) (M : Mem), U X G Z cL_tell none (QM X G Z vU) 14 6 [(0, .ref (G.2 + a0)), (1, .ref (G.2 + a1)), (2, .ref (G.2 + a2)), (3, .ref (G.2 + a3)), (5, .ref (G.2 + a5)), (6, .ref (G.2 + a6)), (7, .ref (G.2 + a7)), (8, .ref (G.2 + a8)), (9, .int x9)] [] M (k6 a0 a1 a2 a3 a5 a6 a7 a8 x9 M)) (a0 : Nat) (a1 : Nat) (a2 : Nat) (a3 : Nat) (a5 : Nat) (a6 : Nat) (a7 : Nat) (a8 : Nat) (x9 : Int32) (x10 : Int32) (t0 : Int32) (M : Mem) : U X G Z cL_tell none (QM X G Z vU) 14 109 [(0, .ref (G.2 + a0)), (1, .ref (G.2 + a1)), (2, .ref (G.2 + a2)), (3, .ref (G.2 + a3)), (5, .ref (G.2 + a5)), (6, .ref (G.2 + a6)), (7, .ref (G.2 + a7)), (8, .ref (G.2 + a8)), (9, .int x9), (10, .int x10)] [.int t0] M (f_L_tell_b109 k6 a0 a1 a2 a3 a5 a6 a7 a8 x9 x10 t0 M) := by
  unfold f_L_tell_b109
  refine U_istore 11 [(11, .int t0), (0, .ref (G.2 + a0)), (1, .ref (G.2 + a1)), (2, .ref (G.2 + a2)), (3, .ref (G.2 + a3)), (5, .ref (G.2 + a5)), (6, .ref (G.2 + a6)), (7, .ref (G.2 + a7)), (8, .ref (G.2 + a8)), (9, .int x9), (10, .int x10)] (by decide) rfl dL_tell_109 ?_
  refine U_aload 5 5 rfl dL_tell_111 ?_
  refine U_iload 9 9 rfl dL_tell_113 ?_
  refine U_iconst dL_tell_115 ic_1 ?_
  refine U_aload 5 5 rfl dL_tell_116 ?_
  refine U_iload 10 10 rfl dL_tell_118 ?_
  refine U_iald dL_tell_120 ?_
  refine U_iadd dL_tell_121 ?_
  refine U_iload 11 0 rfl dL_tell_122 ?_
  refine U_iload 10 10 rfl dL_tell_124 ?_
  refine U_icmple 137 dL_tell_126 (by decide) (fun _ => ?_) (fun _ => ?_)
  · refine U_iconst dL_tell_137 ic_0 ?_
    exact U_sub [1, 2, 3, 4, 5, 6, 7, 8, 9, 10, 0] rfl (f_L_tell_b138_ok hZ k6 hk6 a0 a1 a2 a3 a5 a6 a7 a8 x9 x10 t0 0 (1 + (M.1 a5 (ix x10))) x9 a5 M)
  · refine U_aload 5 5 rfl dL_tell_129 ?_
    refine U_iload 11 0 rfl dL_tell_131 ?_
    refine U_iald dL_tell_133 ?_
    refine U_goto 138 dL_tell_134 (by decide) ?_
    exact U_sub [1, 2, 3, 4, 5, 6, 7, 8, 9, 10, 0] rfl (f_L_tell_b138_ok hZ k6 hk6 a0 a1 a2 a3 a5 a6 a7 a8 x9 x10 t0 (M.1 a5 (ix t0)) (1 + (M.1 a5 (ix x10))) x9 a5 M)
set_option maxRecDepth 100000 in
set_option maxHeartbeats 4000000 in
theorem f_L_tell_b6_ok {X : XT} {G : GT} {Z : ZT} (hZ : 0 ≤ Z.1) : ∀ (n : Nat) (a0 : Nat) (a1 : Nat) (a2 : Nat) (a3 : Nat) (a5 : Nat) (a6 : Nat) (a7 : Nat) (a8 : Nat) (x9 : Int32) (M : Mem), U X G Z cL_tell none (QM X G Z vU) 14 6 [(0, .ref (G.2 + a0)), (1, .ref (G.2 + a1)), (2, .ref (G.2 + a2)), (3, .ref (G.2 + a3)), (5, .ref (G.2 + a5)), (6, .ref (G.2 + a6)), (7, .ref (G.2 + a7)), (8, .ref (G.2 + a8)), (9, .int x9)] [] M (f_L_tell_b6 n a0 a1 a2 a3 a5 a6 a7 a8 x9 M) := by
  intro n
  induction n with
  | zero =>
    intros
    rw [f_L_tell_b6]
    exact U_none
  | succ n ih =>
    intro a0 a1 a2 a3 a5 a6 a7 a8 x9 M
    rw [f_L_tell_b6]
    refine U_iload 9 8 rfl dL_tell_6 ?_
    refine U_iflt 355 dL_tell_8 (by decide) (fun _ => ?_) (fun _ => ?_)
    · exact U_vret dL_tell_355
    · refine U_aload_n 2 rfl 2 rfl dL_tell_11 ?_
      refine U_iload 9 8 rfl dL_tell_12 ?_
      refine U_iald dL_tell_14 ?_
      refine U_iconst dL_tell_15 ic_3 ?_
      refine U_icmpge 82 dL_tell_16 (by decide) (fun _ => ?_) (fun _ => ?_)
      · refine U_iload 9 8 rfl dL_tell_82 ?_
        refine U_iconst dL_tell_84 ic_1 ?_
        refine U_iadd dL_tell_85 ?_
        refine U_bi (fun y1 => ?_)
        refine U_istore 10 [(10, .int y1), (0, .ref (G.2 + a0)), (1, .ref (G.2 + a1)), (2, .ref (G.2 + a2)), (3, .ref (G.2 + a3)), (5, .ref (G.2 + a5)), (6, .ref (G.2 + a6)), (7, .ref (G.2 + a7)), (8, .ref (G.2 + a8)), (9, .int x9)] (by decide) rfl dL_tell_86 ?_
        refine U_aload_n 2 rfl 3 rfl dL_tell_88 ?_
        refine U_iload 9 9 rfl dL_tell_89 ?_
        refine U_iald dL_tell_91 ?_
        refine U_iconst dL_tell_92 ic_3 ?_
        refine U_icmpne 101 dL_tell_93 (by decide) (fun _ => ?_) (fun _ => ?_)
        · refine U_iload 10 0 rfl dL_tell_101 ?_
          refine U_aload 5 5 rfl dL_tell_103 ?_
          refine U_iload 10 0 rfl dL_tell_105 ?_
          refine U_iald dL_tell_107 ?_
          refine U_iadd dL_tell_108 ?_
          exact U_sub [1, 2, 3, 4, 5, 6, 7, 8, 9, 0] rfl (f_L_tell_b109_ok hZ (f_L_tell_b6 n) ih a0 a1 a2 a3 a5 a6 a7 a8 x9 y1 (y1 + (M.1 a5 (ix y1))) M)
        · refine U_iload 10 0 rfl dL_tell_96 ?_
          refine U_goto 109 dL_tell_98 (by decide) ?_
          exact U_sub [1, 2, 3, 4, 5, 6, 7, 8, 9, 0] rfl (f_L_tell_b109_ok hZ (f_L_tell_b6 n) ih a0 a1 a2 a3 a5 a6 a7 a8 x9 y1 y1 M)
      · refine U_aload 5 4 rfl dL_tell_19 ?_
        refine U_iload 9 8 rfl dL_tell_21 ?_
        refine U_iconst dL_tell_23 ic_1 ?_
        refine U_iast dL_tell_24 (fun M2 => ?_)
        refine U_aload 6 5 rfl dL_tell_25 ?_
        refine U_iload 9 8 rfl dL_tell_27 ?_
        refine U_iconst dL_tell_29 ic_1 ?_
        refine U_iast dL_tell_30 (fun M3 => ?_)
        refine U_aload 7 6 rfl dL_tell_31 ?_
        refine U_iload 9 8 rfl dL_tell_33 ?_
        refine U_iconst dL_tell_35 ic_1 ?_
        refine U_iast dL_tell_36 (fun M4 => ?_)
        refine U_aload 8 7 rfl dL_tell_37 ?_
        refine U_iload 9 8 rfl dL_tell_39 ?_
        refine U_aload_n 2 rfl 2 rfl dL_tell_41 ?_
        refine U_iload 9 8 rfl dL_tell_42 ?_
        refine U_iald dL_tell_44 ?_
        refine U_ifne 55 dL_tell_45 (by decide) (fun _ => ?_) (fun _ => ?_)
        · refine U_aload_n 2 rfl 2 rfl dL_tell_55 ?_
          refine U_iload 9 8 rfl dL_tell_56 ?_
          refine U_iald dL_tell_58 ?_
          refine U_iconst dL_tell_59 ic_1 ?_
          refine U_icmpne 72 dL_tell_60 (by decide) (fun _ => ?_) (fun _ => ?_)
          · refine U_aload_n 1 rfl 1 rfl dL_tell_72 ?_
            refine U_aload_n 3 rfl 3 rfl dL_tell_73 ?_
            refine U_iload 9 8 rfl dL_tell_74 ?_
            refine U_iald dL_tell_76 ?_
            refine U_iald dL_tell_77 ?_
            refine U_iast dL_tell_78 (fun M5 => ?_)
            refine U_goto 349 dL_tell_79 (by decide) ?_
            refine U_iincB 9 8 (fun y6 => [(9, .int y6), (0, .ref (G.2 + a0)), (1, .ref (G.2 + a1)), (2, .ref (G.2 + a2)), (3, .ref (G.2 + a3)), (5, .ref (G.2 + a5)), (6, .ref (G.2 + a6)), (7, .ref (G.2 + a7)), (8, .ref (G.2 + a8))]) rfl ic_m1 (by decide) (fun _ => rfl) dL_tell_349 (fun y6 => ?_)
            refine U_goto 6 dL_tell_352 (by decide) ?_
            exact U_sub [1, 2, 3, 4, 5, 6, 7, 8, 0] rfl (ih a0 a1 a2 a3 a5 a6 a7 a8 y6 M5)
          · refine U_aload_n 0 rfl 0 rfl dL_tell_63 ?_
            refine U_aload_n 3 rfl 3 rfl dL_tell_64 ?_
            refine U_iload 9 8 rfl dL_tell_65 ?_
            refine U_iald dL_tell_67 ?_
            refine U_iald dL_tell_68 ?_
            refine U_goto 78 dL_tell_69 (by decide) ?_
            refine U_iast dL_tell_78 (fun M7 => ?_)
            refine U_goto 349 dL_tell_79 (by decide) ?_
            refine U_iincB 9 8 (fun y8 => [(9, .int y8), (0, .ref (G.2 + a0)), (1, .ref (G.2 + a1)), (2, .ref (G.2 + a2)), (3, .ref (G.2 + a3)), (5, .ref (G.2 + a5)), (6, .ref (G.2 + a6)), (7, .ref (G.2 + a7)), (8, .ref (G.2 + a8))]) rfl ic_m1 (by decide) (fun _ => rfl) dL_tell_349 (fun y8 => ?_)
            refine U_goto 6 dL_tell_352 (by decide) ?_
            exact U_sub [1, 2, 3, 4, 5, 6, 7, 8, 0] rfl (ih a0 a1 a2 a3 a5 a6 a7 a8 y8 M7)
        · refine U_aload_n 3 rfl 3 rfl dL_tell_48 ?_
          refine U_iload 9 8 rfl dL_tell_49 ?_
          refine U_iald dL_tell_51 ?_
          refine U_goto 78 dL_tell_52 (by decide) ?_
          refine U_iast dL_tell_78 (fun M9 => ?_)
          refine U_goto 349 dL_tell_79 (by decide) ?_
          refine U_iincB 9 8 (fun y10 => [(9, .int y10), (0, .ref (G.2 + a0)), (1, .ref (G.2 + a1)), (2, .ref (G.2 + a2)), (3, .ref (G.2 + a3)), (5, .ref (G.2 + a5)), (6, .ref (G.2 + a6)), (7, .ref (G.2 + a7)), (8, .ref (G.2 + a8))]) rfl ic_m1 (by decide) (fun _ => rfl) dL_tell_349 (fun y10 => ?_)
          refine U_goto 6 dL_tell_352 (by decide) ?_
          exact U_sub [1, 2, 3, 4, 5, 6, 7, 8, 0] rfl (ih a0 a1 a2 a3 a5 a6 a7 a8 y10 M9)
set_option maxRecDepth 100000 in
set_option maxHeartbeats 4000000 in
theorem u_f_L_tell {X : XT} {G : GT} {Z : ZT} (hZ : 0 ≤ Z.1) (a0 : Nat) (a1 : Nat) (a2 : Nat) (a3 : Nat) (x4 : Int32) (a5 : Nat) (a6 : Nat) (a7 : Nat) (a8 : Nat) (M : Mem) : U X G Z cL_tell none (QM X G Z vU) 14 0 [(0, .ref (G.2 + a0)), (1, .ref (G.2 + a1)), (2, .ref (G.2 + a2)), (3, .ref (G.2 + a3)), (4, .int x4), (5, .ref (G.2 + a5)), (6, .ref (G.2 + a6)), (7, .ref (G.2 + a7)), (8, .ref (G.2 + a8))] [] M (f_L_tell a0 a1 a2 a3 x4 a5 a6 a7 a8 M) := by
  unfold f_L_tell
  refine U_iload 4 4 rfl dL_tell_0 ?_
  refine U_iconst dL_tell_2 ic_1 ?_
  refine U_isub dL_tell_3 ?_
  refine U_bi (fun y1 => ?_)
  refine U_istore 9 [(9, .int y1), (0, .ref (G.2 + a0)), (1, .ref (G.2 + a1)), (2, .ref (G.2 + a2)), (3, .ref (G.2 + a3)), (4, .int x4), (5, .ref (G.2 + a5)), (6, .ref (G.2 + a6)), (7, .ref (G.2 + a7)), (8, .ref (G.2 + a8))] (by decide) rfl dL_tell_4 ?_
  exact U_sub [1, 2, 3, 4, 6, 7, 8, 9, 0] rfl (f_L_tell_b6_ok hZ FU a0 a1 a2 a3 a5 a6 a7 a8 y1 M)
theorem mc_f_L_tell {G : GT} (l : Launch) (a0 : Nat) (a1 : Nat) (a2 : Nat) (a3 : Nat) (x4 : Int32) (a5 : Nat) (a6 : Nat) (a7 : Nat) (a8 : Nat) (M : Mem) (r : Unit) (M1 : Mem) (ho : f_L_tell a0 a1 a2 a3 x4 a5 a6 a7 a8 M = some (r, M1)) : MCL l G yL_tell cL_tell 14 none 0 [.ref (G.2 + a0), .ref (G.2 + a1), .ref (G.2 + a2), .ref (G.2 + a3), .int x4, .ref (G.2 + a5), .ref (G.2 + a6), .ref (G.2 + a7), .ref (G.2 + a8)] M (vU r) M1 :=
  MCL.ofU (lv := [(0, .ref (G.2 + a0)), (1, .ref (G.2 + a1)), (2, .ref (G.2 + a2)), (3, .ref (G.2 + a3)), (4, .int x4), (5, .ref (G.2 + a5)), (6, .ref (G.2 + a6)), (7, .ref (G.2 + a7)), (8, .ref (G.2 + a8))]) (by decide +kernel) rfl rfl (Nat.le_of_ble_eq_true rfl) ho (fun X Z hZ => u_f_L_tell (Nat.le_of_eq hZ.symm) a0 a1 a2 a3 x4 a5 a6 a7 a8 M)
set_option maxRecDepth 100000 in
set_option maxHeartbeats 4000000 in
theorem f_L_worths_b3_ok {X : XT} {G : GT} {Z : ZT} (hZ : 2 ≤ Z.1) : ∀ (n : Nat) (a0 : Nat) (a1 : Nat) (a2 : Nat) (a3 : Nat) (a4 : Nat) (a5 : Nat) (x6 : Int32) (M : Mem), U X G Z cL_worths none (QM X G Z vU) 12 3 [(0, .ref (G.2 + a0)), (1, .ref (G.2 + a1)), (2, .ref (G.2 + a2)), (3, .ref (G.2 + a3)), (4, .ref (G.2 + a4)), (5, .ref (G.2 + a5)), (6, .int x6)] [] M (f_L_worths_b3 n a0 a1 a2 a3 a4 a5 x6 M) := by
  intro n
  induction n with
  | zero =>
    intros
    rw [f_L_worths_b3]
    exact U_none
  | succ n ih =>
    intro a0 a1 a2 a3 a4 a5 x6 M
    rw [f_L_worths_b3]
    refine U_iload 6 6 rfl dL_worths_3 ?_
    refine U_aload_n 0 rfl 0 rfl dL_worths_5 ?_
    refine U_iconst dL_worths_6 ic_0 ?_
    refine U_iald dL_worths_7 ?_
    refine U_icmpge 90 dL_worths_8 (by decide) (fun _ => ?_) (fun _ => ?_)
    · exact U_vret dL_worths_90
    · refine U_bipush dL_worths_11 bp_64 ?_
      refine U_newa xa_i dL_worths_13 (fun b1 M1 => ?_)
      refine U_astore 7 [(7, .ref (G.2 + b1)), (0, .ref (G.2 + a0)), (1, .ref (G.2 + a1)), (2, .ref (G.2 + a2)), (3, .ref (G.2 + a3)), (4, .ref (G.2 + a4)), (5, .ref (G.2 + a5)), (6, .int x6)] (by decide) rfl dL_worths_15 ?_
      refine U_bipush dL_worths_17 bp_64 ?_
      refine U_newa xa_i dL_worths_19 (fun b2 M2 => ?_)
      refine U_astore 8 [(8, .ref (G.2 + b2)), (7, .ref (G.2 + b1)), (0, .ref (G.2 + a0)), (1, .ref (G.2 + a1)), (2, .ref (G.2 + a2)), (3, .ref (G.2 + a3)), (4, .ref (G.2 + a4)), (5, .ref (G.2 + a5)), (6, .int x6)] (by decide) rfl dL_worths_21 ?_
      refine U_bipush dL_worths_23 bp_64 ?_
      refine U_newa xa_i dL_worths_25 (fun b3 M3 => ?_)
      refine U_astore 9 [(9, .ref (G.2 + b3)), (8, .ref (G.2 + b2)), (7, .ref (G.2 + b1)), (0, .ref (G.2 + a0)), (1, .ref (G.2 + a1)), (2, .ref (G.2 + a2)), (3, .ref (G.2 + a3)), (4, .ref (G.2 + a4)), (5, .ref (G.2 + a5)), (6, .int x6)] (by decide) rfl dL_worths_27 ?_
      refine U_bipush dL_worths_29 bp_64 ?_
      refine U_newa xa_i dL_worths_31 (fun b4 M4 => ?_)
      refine U_astore 10 [(10, .ref (G.2 + b4)), (9, .ref (G.2 + b3)), (8, .ref (G.2 + b2)), (7, .ref (G.2 + b1)), (0, .ref (G.2 + a0)), (1, .ref (G.2 + a1)), (2, .ref (G.2 + a2)), (3, .ref (G.2 + a3)), (4, .ref (G.2 + a4)), (5, .ref (G.2 + a5)), (6, .int x6)] (by decide) rfl dL_worths_33 ?_
      refine U_aload_n 0 rfl 4 rfl dL_worths_35 ?_
      refine U_aload_n 2 rfl 6 rfl dL_worths_36 ?_
      refine U_aload_n 3 rfl 7 rfl dL_worths_37 ?_
      refine U_aload 4 8 rfl dL_worths_38 ?_
      refine U_iload 6 10 rfl dL_worths_40 ?_
      refine U_aload 7 3 rfl dL_worths_42 ?_
      refine U_aload 8 2 rfl dL_worths_44 ?_
      refine kL_21 (Nat.lt_of_lt_of_le (Nat.le_of_ble_eq_true rfl : 1 + 1 ≤ 2) hZ) (fun lq rq Mq hh => mc_f_L_expand lq a0 a2 a3 a4 x6 b1 b2 M4 rq Mq hh) (fun rq Mq hh => (u_f_L_expand (X := (X.1, X.2.1, X.2.2.1, X.2.2.2.1, X.2.2.2.2.1, X.2.2.2.2.2.1, X.2.2.2.2.2.2.1, X.2.2.2.2.2.2.2.1, X.2.2.2.2.2.2.2.2)) (G := G) (Z := (1, Z.2)) (Nat.le_refl _) a0 a2 a3 a4 x6 b1 b2 M4 rq Mq hh).1) (Nat.le_of_ble_eq_true rfl) dL_worths_46 (fun r5 M5 => ?_)
      refine U_istore 11 [(11, .int r5), (10, .ref (G.2 + b4)), (9, .ref (G.2 + b3)), (8, .ref (G.2 + b2)), (7, .ref (G.2 + b1)), (0, .ref (G.2 + a0)), (1, .ref (G.2 + a1)), (2, .ref (G.2 + a2)), (3, .ref (G.2 + a3)), (4, .ref (G.2 + a4)), (5, .ref (G.2 + a5)), (6, .int x6)] (by decide) rfl dL_worths_49 ?_
      refine U_aload_n 1 rfl 6 rfl dL_worths_51 ?_
      refine U_aload 5 10 rfl dL_worths_52 ?_
      refine U_aload 7 4 rfl dL_worths_54 ?_
      refine U_aload 8 3 rfl dL_worths_56 ?_
      refine U_iload 11 0 rfl dL_worths_58 ?_
      refine U_aload 9 2 rfl dL_worths_60 ?_
      refine U_bipush dL_worths_62 bp_64 ?_
      refine U_newa xa_i dL_worths_64 (fun b6 M6 => ?_)
      refine U_bipush dL_worths_66 bp_64 ?_
      refine U_newa xa_i dL_worths_68 (fun b7 M7 => ?_)
      refine U_aload 10 1 rfl dL_worths_70 ?_
      refine kL_25 (Nat.lt_of_lt_of_le (Nat.le_of_ble_eq_true rfl : 0 + 1 ≤ 2) hZ) (fun lq rq Mq hh => mc_f_L_tell lq a1 a5 b1 b2 r5 b3 b6 b7 b4 M7 rq Mq hh) (fun rq Mq hh => (u_f_L_tell (X := (X.1, X.2.1, X.2.2.1, X.2.2.2.1, X.2.2.2.2.1, X.2.2.2.2.2.1, X.2.2.2.2.2.2.1, X.2.2.2.2.2.2.2.1, X.2.2.2.2.2.2.2.2)) (G := G) (Z := (0, Z.2)) (Nat.le_refl _) a1 a5 b1 b2 r5 b3 b6 b7 b4 M7 rq Mq hh).1) (Nat.le_of_ble_eq_true rfl) dL_worths_72 (fun _ M8 => ?_)
      refine U_aload 5 10 rfl dL_worths_75 ?_
      refine U_iload 6 11 rfl dL_worths_77 ?_
      refine U_aload 10 1 rfl dL_worths_79 ?_
      refine U_iconst dL_worths_81 ic_0 ?_
      refine U_iald dL_worths_82 ?_
      refine U_iast dL_worths_83 (fun M9 => ?_)
      refine U_iincB 6 11 (fun y10 => [(6, .int y10), (11, .int r5), (10, .ref (G.2 + b4)), (9, .ref (G.2 + b3)), (8, .ref (G.2 + b2)), (7, .ref (G.2 + b1)), (0, .ref (G.2 + a0)), (1, .ref (G.2 + a1)), (2, .ref (G.2 + a2)), (3, .ref (G.2 + a3)), (4, .ref (G.2 + a4)), (5, .ref (G.2 + a5))]) rfl ic_1 (by decide) (fun _ => rfl) dL_worths_84 (fun y10 => ?_)
      refine U_goto 3 dL_worths_87 (by decide) ?_
      exact U_sub [6, 7, 8, 9, 10, 11, 0] rfl (ih a0 a1 a2 a3 a4 a5 y10 M9)
set_option maxRecDepth 100000 in
set_option maxHeartbeats 4000000 in
theorem u_f_L_worths {X : XT} {G : GT} {Z : ZT} (hZ : 2 ≤ Z.1) (a0 : Nat) (a1 : Nat) (a2 : Nat) (a3 : Nat) (a4 : Nat) (a5 : Nat) (M : Mem) : U X G Z cL_worths none (QM X G Z vU) 12 0 [(0, .ref (G.2 + a0)), (1, .ref (G.2 + a1)), (2, .ref (G.2 + a2)), (3, .ref (G.2 + a3)), (4, .ref (G.2 + a4)), (5, .ref (G.2 + a5))] [] M (f_L_worths a0 a1 a2 a3 a4 a5 M) := by
  unfold f_L_worths
  refine U_iconst dL_worths_0 ic_0 ?_
  refine U_istore 6 [(6, .int 0), (0, .ref (G.2 + a0)), (1, .ref (G.2 + a1)), (2, .ref (G.2 + a2)), (3, .ref (G.2 + a3)), (4, .ref (G.2 + a4)), (5, .ref (G.2 + a5))] (by decide) rfl dL_worths_1 ?_
  exact U_sub [1, 2, 3, 4, 5, 6, 0] rfl (f_L_worths_b3_ok hZ FU a0 a1 a2 a3 a4 a5 0 M)
theorem mc_f_L_worths {G : GT} (l : Launch) (a0 : Nat) (a1 : Nat) (a2 : Nat) (a3 : Nat) (a4 : Nat) (a5 : Nat) (M : Mem) (r : Unit) (M1 : Mem) (ho : f_L_worths a0 a1 a2 a3 a4 a5 M = some (r, M1)) : MCL l G yL_worths cL_worths 12 none 2 [.ref (G.2 + a0), .ref (G.2 + a1), .ref (G.2 + a2), .ref (G.2 + a3), .ref (G.2 + a4), .ref (G.2 + a5)] M (vU r) M1 :=
  MCL.ofU (lv := [(0, .ref (G.2 + a0)), (1, .ref (G.2 + a1)), (2, .ref (G.2 + a2)), (3, .ref (G.2 + a3)), (4, .ref (G.2 + a4)), (5, .ref (G.2 + a5))]) (by decide +kernel) rfl rfl (Nat.le_of_ble_eq_true rfl) ho (fun X Z hZ => u_f_L_worths (Nat.le_of_eq hZ.symm) a0 a1 a2 a3 a4 a5 M)
