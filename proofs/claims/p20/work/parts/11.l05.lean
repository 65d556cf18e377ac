set_option maxRecDepth 100000 in
set_option maxHeartbeats 4000000 in
theorem f_L_isFormula_b386_ok {X : XT} {G : GT} {Z : ZT} (hZ : 6 ≤ Z.1) (x7 : Int32) (a11 : Nat) (x14 : Int32) (x15 : Int32) (M : Mem) : U X G Z cL_isFormula (some .boolean) (QM X G Z vI) 17 386 [(0, .ref (G.2 + 0)), (7, .int x7), (11, .ref (G.2 + a11)), (14, .int x14), (15, .int x15)] [] M (f_L_isFormula_b386 x7 a11 x14 x15 M) := by
  unfold f_L_isFormula_b386
  refine U_aload_n 0 rfl 0 rfl dL_isFormula_386 ?_
  refine U_iload 7 1 rfl dL_isFormula_387 ?_
  refine kL_91 (Nat.lt_of_lt_of_le (Nat.le_of_ble_eq_true rfl : 5 + 1 ≤ 6) hZ) (fun lq rq Mq hh => mc_f_LP_proved lq x7 M rq Mq hh) (Nat.le_of_ble_eq_true rfl) dL_isFormula_389 (fun r1 M1 => ?_)
  refine U_istore 16 [(16, .int r1), (0, .ref (G.2 + 0)), (7, .int x7), (11, .ref (G.2 + a11)), (14, .int x14), (15, .int x15)] (by decide) rfl dL_isFormula_392 ?_
  refine U_iload 15 5 rfl dL_isFormula_394 ?_
  refine U_ifeq 460 dL_isFormula_396 (by decide) (fun _ => ?_) (fun _ => ?_)
  · refine U_iconst dL_isFormula_460 ic_0 ?_
    exact U_zret dL_isFormula_461
  · refine U_aload_n 0 rfl 1 rfl dL_isFormula_399 ?_
    refine U_iload 7 2 rfl dL_isFormula_400 ?_
    refine U_iload 14 4 rfl dL_isFormula_402 ?_
    refine U_iconst dL_isFormula_404 ic_0 ?_
    refine kL_87 (Nat.lt_of_lt_of_le (Nat.le_of_ble_eq_true rfl : 3 + 1 ≤ 6) hZ) (fun lq rq Mq hh => mc_f_LP_node lq x7 x14 0 M1 rq Mq hh) (Nat.le_of_ble_eq_true rfl) dL_isFormula_405 (fun r2 M2 => ?_)
    refine U_ldc wkL_78 dL_isFormula_408 ?_
    refine U_icmpne 460 dL_isFormula_410 (by decide) (fun _ => ?_) (fun _ => ?_)
    · refine U_iconst dL_isFormula_460 ic_0 ?_
      exact U_zret dL_isFormula_461
    · refine U_aload_n 0 rfl 1 rfl dL_isFormula_413 ?_
      refine U_iload 7 2 rfl dL_isFormula_414 ?_
      refine U_iconst dL_isFormula_416 ic_0 ?_
      refine U_bipush dL_isFormula_417 bp_7 ?_
      refine kL_87 (Nat.lt_of_lt_of_le (Nat.le_of_ble_eq_true rfl : 3 + 1 ≤ 6) hZ) (fun lq rq Mq hh => mc_f_LP_node lq x7 0 7 M2 rq Mq hh) (Nat.le_of_ble_eq_true rfl) dL_isFormula_419 (fun r3 M3 => ?_)
      refine U_ldc wkL_78 dL_isFormula_422 ?_
      refine U_icmpne 460 dL_isFormula_424 (by decide) (fun _ => ?_) (fun _ => ?_)
      · refine U_iconst dL_isFormula_460 ic_0 ?_
        exact U_zret dL_isFormula_461
      · refine U_aload_n 0 rfl 1 rfl dL_isFormula_427 ?_
        refine U_iload 7 2 rfl dL_isFormula_428 ?_
        refine U_iconst dL_isFormula_430 ic_m1 ?_
        refine U_iconst dL_isFormula_431 ic_0 ?_
        refine kL_87 (Nat.lt_of_lt_of_le (Nat.le_of_ble_eq_true rfl : 3 + 1 ≤ 6) hZ) (fun lq rq Mq hh => mc_f_LP_node lq x7 (-1) 0 M3 rq Mq hh) (Nat.le_of_ble_eq_true rfl) dL_isFormula_432 (fun r4 M4 => ?_)
        refine U_ldc wkL_78 dL_isFormula_435 ?_
        refine U_icmpne 460 dL_isFormula_437 (by decide) (fun _ => ?_) (fun _ => ?_)
        · refine U_iconst dL_isFormula_460 ic_0 ?_
          exact U_zret dL_isFormula_461
        · refine U_iload 16 0 rfl dL_isFormula_440 ?_
          refine U_ldc wkL_40 dL_isFormula_442 ?_
          refine U_icmpeq 456 dL_isFormula_444 (by decide) (fun _ => ?_) (fun _ => ?_)
          · refine U_iconst dL_isFormula_456 ic_1 ?_
            refine U_goto 461 dL_isFormula_457 (by decide) ?_
            exact U_zret dL_isFormula_461
          · refine U_iload 16 0 rfl dL_isFormula_447 ?_
            refine U_aload 11 3 rfl dL_isFormula_449 ?_
            refine U_iconst dL_isFormula_451 ic_0 ?_
            refine U_iald dL_isFormula_452 ?_
            refine U_icmpne 460 dL_isFormula_453 (by decide) (fun _ => ?_) (fun _ => ?_)
            · refine U_iconst dL_isFormula_460 ic_0 ?_
              exact U_zret dL_isFormula_461
            · refine U_iconst dL_isFormula_456 ic_1 ?_
              refine U_goto 461 dL_isFormula_457 (by decide) ?_
              exact U_zret dL_isFormula_461
set_option maxRecDepth 100000 in
set_option maxHeartbeats 4000000 in
theorem f_L_isFormula_b318_ok {X : XT} {G : GT} {Z : ZT} (hZ : 6 ≤ Z.1) (k193 : Int32 → Nat → Nat → Nat → Nat → Nat → Int32 → Int32 → Int32 → Mem → Option (Int32 × Mem)) (hk193 : ∀ (x7 : Int32) (a8 : Nat) (a9 : Nat) (a10 : Nat) (a11 : Nat) (a13 : Nat) (x14 : Int32) (x15 : Int32) (x16 : Int32) (M : Mem), U X G Z cL_isFormula (some .boolean) (QM X G Z vI) 17 193 [(0, .ref (G.2 + 0)), (7, .int x7), (8, .ref (G.2 + a8)), (9, .ref (G.2 + a9)), (10, .ref (G.2 + a10)), (11, .ref (G.2 + a11)), (13, .ref (G.2 + a13)), (14, .int x14), (15, .int x15), (16, .int x16)] [] M (k193 x7 a8 a9 a10 a11 a13 x14 x15 x16 M)) (x7 : Int32) (a8 : Nat) (a9 : Nat) (a10 : Nat) (a11 : Nat) (a13 : Nat) (x14 : Int32) (x16 : Int32) (t0 : Int32) (t1 : Int32) (M : Mem) : U X G Z cL_isFormula (some .boolean) (QM X G Z vI) 17 318 [(0, .ref (G.2 + 0)), (7, .int x7), (8, .ref (G.2 + a8)), (9, .ref (G.2 + a9)), (10, .ref (G.2 + a10)), (11, .ref (G.2 + a11)), (13, .ref (G.2 + a13)), (14, .int x14), (16, .int x16)] [.int t0, .int t1] M (f_L_isFormula_b318 k193 x7 a8 a9 a10 a11 a13 x14 x16 t0 t1 M) := by
  unfold f_L_isFormula_b318
  refine U_icmpne 377 dL_isFormula_318 (by decide) (fun _ => ?_) (fun _ => ?_)
  · refine U_iconst dL_isFormula_377 ic_0 ?_
    refine U_istore 15 [(15, .int 0), (0, .ref (G.2 + 0)), (7, .int x7), (8, .ref (G.2 + a8)), (9, .ref (G.2 + a9)), (10, .ref (G.2 + a10)), (11, .ref (G.2 + a11)), (13, .ref (G.2 + a13)), (14, .int x14), (16, .int x16)] (by decide) rfl dL_isFormula_378 ?_
    refine U_iincB 16 9 (fun y1 => [(16, .int y1), (15, .int 0), (0, .ref (G.2 + 0)), (7, .int x7), (8, .ref (G.2 + a8)), (9, .ref (G.2 + a9)), (10, .ref (G.2 + a10)), (11, .ref (G.2 + a11)), (13, .ref (G.2 + a13)), (14, .int x14)]) rfl ic_1 (by decide) (fun _ => rfl) dL_isFormula_380 (fun y1 => ?_)
    refine U_goto 193 dL_isFormula_383 (by decide) ?_
    exact U_sub [2, 3, 4, 5, 6, 7, 8, 9, 1, 0] rfl (hk193 x7 a8 a9 a10 a11 a13 x14 0 y1 M)
  · refine U_aload_n 0 rfl 0 rfl dL_isFormula_321 ?_
    refine U_iload 7 1 rfl dL_isFormula_322 ?_
    refine U_iload 16 8 rfl dL_isFormula_324 ?_
    refine U_iconst dL_isFormula_326 ic_4 ?_
    refine kL_87 (Nat.lt_of_lt_of_le (Nat.le_of_ble_eq_true rfl : 3 + 1 ≤ 6) hZ) (fun lq rq Mq hh => mc_f_LP_node lq x7 x16 4 M rq Mq hh) (Nat.le_of_ble_eq_true rfl) dL_isFormula_327 (fun r2 M2 => ?_)
    refine U_aload 11 5 rfl dL_isFormula_330 ?_
    refine U_iload 16 8 rfl dL_isFormula_332 ?_
    refine U_iald dL_isFormula_334 ?_
    refine U_icmpne 377 dL_isFormula_335 (by decide) (fun _ => ?_) (fun _ => ?_)
    · refine U_iconst dL_isFormula_377 ic_0 ?_
      refine U_istore 15 [(15, .int 0), (0, .ref (G.2 + 0)), (7, .int x7), (8, .ref (G.2 + a8)), (9, .ref (G.2 + a9)), (10, .ref (G.2 + a10)), (11, .ref (G.2 + a11)), (13, .ref (G.2 + a13)), (14, .int x14), (16, .int x16)] (by decide) rfl dL_isFormula_378 ?_
      refine U_iincB 16 9 (fun y3 => [(16, .int y3), (15, .int 0), (0, .ref (G.2 + 0)), (7, .int x7), (8, .ref (G.2 + a8)), (9, .ref (G.2 + a9)), (10, .ref (G.2 + a10)), (11, .ref (G.2 + a11)), (13, .ref (G.2 + a13)), (14, .int x14)]) rfl ic_1 (by decide) (fun _ => rfl) dL_isFormula_380 (fun y3 => ?_)
      refine U_goto 193 dL_isFormula_383 (by decide) ?_
      exact U_sub [2, 3, 4, 5, 6, 7, 8, 9, 1, 0] rfl (hk193 x7 a8 a9 a10 a11 a13 x14 0 y3 M2)
    · refine U_aload_n 0 rfl 0 rfl dL_isFormula_338 ?_
      refine U_iload 7 1 rfl dL_isFormula_339 ?_
      refine U_iload 16 8 rfl dL_isFormula_341 ?_
      refine U_iconst dL_isFormula_343 ic_5 ?_
      refine kL_87 (Nat.lt_of_lt_of_le (Nat.le_of_ble_eq_true rfl : 3 + 1 ≤ 6) hZ) (fun lq rq Mq hh => mc_f_LP_node lq x7 x16 5 M2 rq Mq hh) (Nat.le_of_ble_eq_true rfl) dL_isFormula_344 (fun r4 M4 => ?_)
      refine U_aload 10 4 rfl dL_isFormula_347 ?_
      refine U_iload 16 8 rfl dL_isFormula_349 ?_
      refine U_iald dL_isFormula_351 ?_
      refine U_icmpne 377 dL_isFormula_352 (by decide) (fun _ => ?_) (fun _ => ?_)
      · refine U_iconst dL_isFormula_377 ic_0 ?_
        refine U_istore 15 [(15, .int 0), (0, .ref (G.2 + 0)), (7, .int x7), (8, .ref (G.2 + a8)), (9, .ref (G.2 + a9)), (10, .ref (G.2 + a10)), (11, .ref (G.2 + a11)), (13, .ref (G.2 + a13)), (14, .int x14), (16, .int x16)] (by decide) rfl dL_isFormula_378 ?_
        refine U_iincB 16 9 (fun y5 => [(16, .int y5), (15, .int 0), (0, .ref (G.2 + 0)), (7, .int x7), (8, .ref (G.2 + a8)), (9, .ref (G.2 + a9)), (10, .ref (G.2 + a10)), (11, .ref (G.2 + a11)), (13, .ref (G.2 + a13)), (14, .int x14)]) rfl ic_1 (by decide) (fun _ => rfl) dL_isFormula_380 (fun y5 => ?_)
        refine U_goto 193 dL_isFormula_383 (by decide) ?_
        exact U_sub [2, 3, 4, 5, 6, 7, 8, 9, 1, 0] rfl (hk193 x7 a8 a9 a10 a11 a13 x14 0 y5 M4)
      · refine U_aload_n 0 rfl 0 rfl dL_isFormula_355 ?_
        refine U_iload 7 1 rfl dL_isFormula_356 ?_
        refine U_iload 16 8 rfl dL_isFormula_358 ?_
        refine U_bipush dL_isFormula_360 bp_6 ?_
        refine kL_87 (Nat.lt_of_lt_of_le (Nat.le_of_ble_eq_true rfl : 3 + 1 ≤ 6) hZ) (fun lq rq Mq hh => mc_f_LP_node lq x7 x16 6 M4 rq Mq hh) (Nat.le_of_ble_eq_true rfl) dL_isFormula_362 (fun r6 M6 => ?_)
        refine U_aload 13 6 rfl dL_isFormula_365 ?_
        refine U_iload 16 8 rfl dL_isFormula_367 ?_
        refine U_iald dL_isFormula_369 ?_
        refine U_icmpne 377 dL_isFormula_370 (by decide) (fun _ => ?_) (fun _ => ?_)
        · refine U_iconst dL_isFormula_377 ic_0 ?_
          refine U_istore 15 [(15, .int 0), (0, .ref (G.2 + 0)), (7, .int x7), (8, .ref (G.2 + a8)), (9, .ref (G.2 + a9)), (10, .ref (G.2 + a10)), (11, .ref (G.2 + a11)), (13, .ref (G.2 + a13)), (14, .int x14), (16, .int x16)] (by decide) rfl dL_isFormula_378 ?_
          refine U_iincB 16 9 (fun y7 => [(16, .int y7), (15, .int 0), (0, .ref (G.2 + 0)), (7, .int x7), (8, .ref (G.2 + a8)), (9, .ref (G.2 + a9)), (10, .ref (G.2 + a10)), (11, .ref (G.2 + a11)), (13, .ref (G.2 + a13)), (14, .int x14)]) rfl ic_1 (by decide) (fun _ => rfl) dL_isFormula_380 (fun y7 => ?_)
          refine U_goto 193 dL_isFormula_383 (by decide) ?_
          exact U_sub [2, 3, 4, 5, 6, 7, 8, 9, 1, 0] rfl (hk193 x7 a8 a9 a10 a11 a13 x14 0 y7 M6)
        · refine U_iconst dL_isFormula_373 ic_1 ?_
          refine U_goto 378 dL_isFormula_374 (by decide) ?_
          refine U_istore 15 [(15, .int 1), (0, .ref (G.2 + 0)), (7, .int x7), (8, .ref (G.2 + a8)), (9, .ref (G.2 + a9)), (10, .ref (G.2 + a10)), (11, .ref (G.2 + a11)), (13, .ref (G.2 + a13)), (14, .int x14), (16, .int x16)] (by decide) rfl dL_isFormula_378 ?_
          refine U_iincB 16 9 (fun y8 => [(16, .int y8), (15, .int 1), (0, .ref (G.2 + 0)), (7, .int x7), (8, .ref (G.2 + a8)), (9, .ref (G.2 + a9)), (10, .ref (G.2 + a10)), (11, .ref (G.2 + a11)), (13, .ref (G.2 + a13)), (14, .int x14)]) rfl ic_1 (by decide) (fun _ => rfl) dL_isFormula_380 (fun y8 => ?_)
          refine U_goto 193 dL_isFormula_383 (by decide) ?_
          exact U_sub [2, 3, 4, 5, 6, 7, 8, 9, 1, 0] rfl (hk193 x7 a8 a9 a10 a11 a13 x14 1 y8 M6)
set_option maxRecDepth 100000 in
set_option maxHeartbeats 4000000 in
theorem f_L_isFormula_b280_ok {X : XT} {G : GT} {Z : ZT} (hZ : 6 ≤ Z.1) (k193 : Int32 → Nat → Nat → Nat → Nat → Nat → Int32 → Int32 → Int32 → Mem → Option (Int32 × Mem)) (hk193 : ∀ (x7 : Int32) (a8 : Nat) (a9 : Nat) (a10 : Nat) (a11 : Nat) (a13 : Nat) (x14 : Int32) (x15 : Int32) (x16 : Int32) (M : Mem), U X G Z cL_isFormula (some .boolean) (QM X G Z vI) 17 193 [(0, .ref (G.2 + 0)), (7, .int x7), (8, .ref (G.2 + a8)), (9, .ref (G.2 + a9)), (10, .ref (G.2 + a10)), (11, .ref (G.2 + a11)), (13, .ref (G.2 + a13)), (14, .int x14), (15, .int x15), (16, .int x16)] [] M (k193 x7 a8 a9 a10 a11 a13 x14 x15 x16 M)) (x7 : Int32) (a8 : Nat) (a9 : Nat) (a10 : Nat) (a11 : Nat) (a13 : Nat) (x14 : Int32) (x16 : Int32) (t0 : Int32) (t1 : Int32) (M : Mem) : U X G Z cL_isFormula (some .boolean) (QM X G Z vI) 17 280 [(0, .ref (G.2 + 0)), (7, .int x7), (8, .ref (G.2 + a8)), (9, .ref (G.2 + a9)), (10, .ref (G.2 + a10)), (11, .ref (G.2 + a11)), (13, .ref (G.2 + a13)), (14, .int x14), (16, .int x16)] [.int t0, .int t1] M (f_L_isFormula_b280 k193 x7 a8 a9 a10 a11 a13 x14 x16 t0 t1 M) := by
  unfold f_L_isFormula_b280
  refine U_icmpne 377 dL_isFormula_280 (by decide) (fun _ => ?_) (fun _ => ?_)
  · refine U_iconst dL_isFormula_377 ic_0 ?_
    refine U_istore 15 [(15, .int 0), (0, .ref (G.2 + 0)), (7, .int x7), (8, .ref (G.2 + a8)), (9, .ref (G.2 + a9)), (10, .ref (G.2 + a10)), (11, .ref (G.2 + a11)), (13, .ref (G.2 + a13)), (14, .int x14), (16, .int x16)] (by decide) rfl dL_isFormula_378 ?_
    refine U_iincB 16 9 (fun y1 => [(16, .int y1), (15, .int 0), (0, .ref (G.2 + 0)), (7, .int x7), (8, .ref (G.2 + a8)), (9, .ref (G.2 + a9)), (10, .ref (G.2 + a10)), (11, .ref (G.2 + a11)), (13, .ref (G.2 + a13)), (14, .int x14)]) rfl ic_1 (by decide) (fun _ => rfl) dL_isFormula_380 (fun y1 => ?_)
    refine U_goto 193 dL_isFormula_383 (by decide) ?_
    exact U_sub [2, 3, 4, 5, 6, 7, 8, 9, 1, 0] rfl (hk193 x7 a8 a9 a10 a11 a13 x14 0 y1 M)
  · refine U_aload_n 0 rfl 0 rfl dL_isFormula_283 ?_
    refine U_iload 7 1 rfl dL_isFormula_284 ?_
    refine U_iload 16 8 rfl dL_isFormula_286 ?_
    refine U_iconst dL_isFormula_288 ic_3 ?_
    refine kL_87 (Nat.lt_of_lt_of_le (Nat.le_of_ble_eq_true rfl : 3 + 1 ≤ 6) hZ) (fun lq rq Mq hh => mc_f_LP_node lq x7 x16 3 M rq Mq hh) (Nat.le_of_ble_eq_true rfl) dL_isFormula_289 (fun r2 M2 => ?_)
    refine U_aload 8 2 rfl dL_isFormula_292 ?_
    refine U_iload 16 8 rfl dL_isFormula_294 ?_
    refine U_iald dL_isFormula_296 ?_
    refine U_iconst dL_isFormula_297 ic_4 ?_
    refine U_icmpge 306 dL_isFormula_298 (by decide) (fun _ => ?_) (fun _ => ?_)
    · refine U_iload 16 8 rfl dL_isFormula_306 ?_
      refine U_iconst dL_isFormula_308 ic_1 ?_
      refine U_iadd dL_isFormula_309 ?_
      refine U_aload 10 4 rfl dL_isFormula_310 ?_
      refine U_iload 16 8 rfl dL_isFormula_312 ?_
      refine U_iconst dL_isFormula_314 ic_1 ?_
      refine U_iadd dL_isFormula_315 ?_
      refine U_iald dL_isFormula_316 ?_
      refine U_iadd dL_isFormula_317 ?_
      exact U_sub [0, 1, 2, 3, 4, 5, 6, 7, 8] rfl (f_L_isFormula_b318_ok hZ k193 hk193 x7 a8 a9 a10 a11 a13 x14 x16 ((x16 + 1) + (M2.1 a10 (ix (x16 + 1)))) r2 M2)
    · refine U_ldc wkL_40 dL_isFormula_301 ?_
      refine U_goto 318 dL_isFormula_303 (by decide) ?_
      exact U_sub [0, 1, 2, 3, 4, 5, 6, 7, 8] rfl (f_L_isFormula_b318_ok hZ k193 hk193 x7 a8 a9 a10 a11 a13 x14 x16 (-1000009) r2 M2)
set_option maxRecDepth 100000 in
set_option maxHeartbeats 4000000 in
theorem f_L_isFormula_b250_ok {X : XT} {G : GT} {Z : ZT} (hZ : 6 ≤ Z.1) (k193 : Int32 → Nat → Nat → Nat → Nat → Nat → Int32 → Int32 → Int32 → Mem → Option (Int32 × Mem)) (hk193 : ∀ (x7 : Int32) (a8 : Nat) (a9 : Nat) (a10 : Nat) (a11 : Nat) (a13 : Nat) (x14 : Int32) (x15 : Int32) (x16 : Int32) (M : Mem), U X G Z cL_isFormula (some .boolean) (QM X G Z vI) 17 193 [(0, .ref (G.2 + 0)), (7, .int x7), (8, .ref (G.2 + a8)), (9, .ref (G.2 + a9)), (10, .ref (G.2 + a10)), (11, .ref (G.2 + a11)), (13, .ref (G.2 + a13)), (14, .int x14), (15, .int x15), (16, .int x16)] [] M (k193 x7 a8 a9 a10 a11 a13 x14 x15 x16 M)) (x7 : Int32) (a8 : Nat) (a9 : Nat) (a10 : Nat) (a11 : Nat) (a13 : Nat) (x14 : Int32) (x16 : Int32) (t0 : Int32) (t1 : Int32) (M : Mem) : U X G Z cL_isFormula (some .boolean) (QM X G Z vI) 17 250 [(0, .ref (G.2 + 0)), (7, .int x7), (8, .ref (G.2 + a8)), (9, .ref (G.2 + a9)), (10, .ref (G.2 + a10)), (11, .ref (G.2 + a11)), (13, .ref (G.2 + a13)), (14, .int x14), (16, .int x16)] [.int t0, .int t1] M (f_L_isFormula_b250 k193 x7 a8 a9 a10 a11 a13 x14 x16 t0 t1 M) := by
  unfold f_L_isFormula_b250
  refine U_icmpne 377 dL_isFormula_250 (by decide) (fun _ => ?_) (fun _ => ?_)
  · refine U_iconst dL_isFormula_377 ic_0 ?_
    refine U_istore 15 [(15, .int 0), (0, .ref (G.2 + 0)), (7, .int x7), (8, .ref (G.2 + a8)), (9, .ref (G.2 + a9)), (10, .ref (G.2 + a10)), (11, .ref (G.2 + a11)), (13, .ref (G.2 + a13)), (14, .int x14), (16, .int x16)] (by decide) rfl dL_isFormula_378 ?_
    refine U_iincB 16 9 (fun y1 => [(16, .int y1), (15, .int 0), (0, .ref (G.2 + 0)), (7, .int x7), (8, .ref (G.2 + a8)), (9, .ref (G.2 + a9)), (10, .ref (G.2 + a10)), (11, .ref (G.2 + a11)), (13, .ref (G.2 + a13)), (14, .int x14)]) rfl ic_1 (by decide) (fun _ => rfl) dL_isFormula_380 (fun y1 => ?_)
    refine U_goto 193 dL_isFormula_383 (by decide) ?_
    exact U_sub [2, 3, 4, 5, 6, 7, 8, 9, 1, 0] rfl (hk193 x7 a8 a9 a10 a11 a13 x14 0 y1 M)
  · refine U_aload_n 0 rfl 0 rfl dL_isFormula_253 ?_
    refine U_iload 7 1 rfl dL_isFormula_254 ?_
    refine U_iload 16 8 rfl dL_isFormula_256 ?_
    refine U_iconst dL_isFormula_258 ic_2 ?_
    refine kL_87 (Nat.lt_of_lt_of_le (Nat.le_of_ble_eq_true rfl : 3 + 1 ≤ 6) hZ) (fun lq rq Mq hh => mc_f_LP_node lq x7 x16 2 M rq Mq hh) (Nat.le_of_ble_eq_true rfl) dL_isFormula_259 (fun r2 M2 => ?_)
    refine U_aload 8 2 rfl dL_isFormula_262 ?_
    refine U_iload 16 8 rfl dL_isFormula_264 ?_
    refine U_iald dL_isFormula_266 ?_
    refine U_iconst dL_isFormula_267 ic_3 ?_
    refine U_icmpge 276 dL_isFormula_268 (by decide) (fun _ => ?_) (fun _ => ?_)
    · refine U_iload 16 8 rfl dL_isFormula_276 ?_
      refine U_iconst dL_isFormula_278 ic_1 ?_
      refine U_iadd dL_isFormula_279 ?_
      exact U_sub [0, 1, 2, 3, 4, 5, 6, 7, 8] rfl (f_L_isFormula_b280_ok hZ k193 hk193 x7 a8 a9 a10 a11 a13 x14 x16 (x16 + 1) r2 M2)
    · refine U_ldc wkL_40 dL_isFormula_271 ?_
      refine U_goto 280 dL_isFormula_273 (by decide) ?_
      exact U_sub [0, 1, 2, 3, 4, 5, 6, 7, 8] rfl (f_L_isFormula_b280_ok hZ k193 hk193 x7 a8 a9 a10 a11 a13 x14 x16 (-1000009) r2 M2)
set_option maxRecDepth 100000 in
set_option maxHeartbeats 4000000 in
theorem f_L_isFormula_b193_ok {X : XT} {G : GT} {Z : ZT} (hZ : 6 ≤ Z.1) : ∀ (n : Nat) (x7 : Int32) (a8 : Nat) (a9 : Nat) (a10 : Nat) (a11 : Nat) (a13 : Nat) (x14 : Int32) (x15 : Int32) (x16 : Int32) (M : Mem), U X G Z cL_isFormula (some .boolean) (QM X G Z vI) 17 193 [(0, .ref (G.2 + 0)), (7, .int x7), (8, .ref (G.2 + a8)), (9, .ref (G.2 + a9)), (10, .ref (G.2 + a10)), (11, .ref (G.2 + a11)), (13, .ref (G.2 + a13)), (14, .int x14), (15, .int x15), (16, .int x16)] [] M (f_L_isFormula_b193 n x7 a8 a9 a10 a11 a13 x14 x15 x16 M) := by
  intro n
  induction n with
  | zero =>
    intros
    rw [f_L_isFormula_b193]
    exact U_none
  | succ n ih =>
    intro x7 a8 a9 a10 a11 a13 x14 x15 x16 M
    rw [f_L_isFormula_b193]
    refine U_iload 16 9 rfl dL_isFormula_193 ?_
    refine U_iload 14 7 rfl dL_isFormula_195 ?_
    refine U_icmpge 386 dL_isFormula_197 (by decide) (fun _ => ?_) (fun _ => ?_)
    · exact U_sub [0, 1, 5, 7, 8] rfl (f_L_isFormula_b386_ok hZ x7 a11 x14 x15 M)
    · refine U_iload 15 8 rfl dL_isFormula_200 ?_
      refine U_ifeq 386 dL_isFormula_202 (by decide) (fun _ => ?_) (fun _ => ?_)
      · exact U_sub [0, 1, 5, 7, 8] rfl (f_L_isFormula_b386_ok hZ x7 a11 x14 x15 M)
      · refine U_aload_n 0 rfl 0 rfl dL_isFormula_205 ?_
        refine U_iload 7 1 rfl dL_isFormula_206 ?_
        refine U_iload 16 9 rfl dL_isFormula_208 ?_
        refine U_iconst dL_isFormula_210 ic_0 ?_
        refine kL_87 (Nat.lt_of_lt_of_le (Nat.le_of_ble_eq_true rfl : 3 + 1 ≤ 6) hZ) (fun lq rq Mq hh => mc_f_LP_node lq x7 x16 0 M rq Mq hh) (Nat.le_of_ble_eq_true rfl) dL_isFormula_211 (fun r1 M1 => ?_)
        refine U_aload 8 2 rfl dL_isFormula_214 ?_
        refine U_iload 16 9 rfl dL_isFormula_216 ?_
        refine U_iald dL_isFormula_218 ?_
        refine U_icmpne 377 dL_isFormula_219 (by decide) (fun _ => ?_) (fun _ => ?_)
        · refine U_iconst dL_isFormula_377 ic_0 ?_
          refine U_istore 15 [(15, .int 0), (0, .ref (G.2 + 0)), (7, .int x7), (8, .ref (G.2 + a8)), (9, .ref (G.2 + a9)), (10, .ref (G.2 + a10)), (11, .ref (G.2 + a11)), (13, .ref (G.2 + a13)), (14, .int x14), (16, .int x16)] (by decide) rfl dL_isFormula_378 ?_
          refine U_iincB 16 9 (fun y2 => [(16, .int y2), (15, .int 0), (0, .ref (G.2 + 0)), (7, .int x7), (8, .ref (G.2 + a8)), (9, .ref (G.2 + a9)), (10, .ref (G.2 + a10)), (11, .ref (G.2 + a11)), (13, .ref (G.2 + a13)), (14, .int x14)]) rfl ic_1 (by decide) (fun _ => rfl) dL_isFormula_380 (fun y2 => ?_)
          refine U_goto 193 dL_isFormula_383 (by decide) ?_
          exact U_sub [2, 3, 4, 5, 6, 7, 8, 9, 1, 0] rfl (ih x7 a8 a9 a10 a11 a13 x14 0 y2 M1)
        · refine U_aload_n 0 rfl 0 rfl dL_isFormula_222 ?_
          refine U_iload 7 1 rfl dL_isFormula_223 ?_
          refine U_iload 16 9 rfl dL_isFormula_225 ?_
          refine U_iconst dL_isFormula_227 ic_1 ?_
          refine kL_87 (Nat.lt_of_lt_of_le (Nat.le_of_ble_eq_true rfl : 3 + 1 ≤ 6) hZ) (fun lq rq Mq hh => mc_f_LP_node lq x7 x16 1 M1 rq Mq hh) (Nat.le_of_ble_eq_true rfl) dL_isFormula_228 (fun r3 M3 => ?_)
          refine U_aload 8 2 rfl dL_isFormula_231 ?_
          refine U_iload 16 9 rfl dL_isFormula_233 ?_
          refine U_iald dL_isFormula_235 ?_
          refine U_iconst dL_isFormula_236 ic_3 ?_
          refine U_icmpge 248 dL_isFormula_237 (by decide) (fun _ => ?_) (fun _ => ?_)
          · refine U_ldc wkL_40 dL_isFormula_248 ?_
            exact U_sub [0, 1, 2, 3, 4, 5, 6, 7, 9] rfl (f_L_isFormula_b250_ok hZ (f_L_isFormula_b193 n) ih x7 a8 a9 a10 a11 a13 x14 x16 (-1000009) r3 M3)
          · refine U_aload 9 3 rfl dL_isFormula_240 ?_
            refine U_iload 16 9 rfl dL_isFormula_242 ?_
            refine U_iald dL_isFormula_244 ?_
            refine U_goto 250 dL_isFormula_245 (by decide) ?_
            exact U_sub [0, 1, 2, 3, 4, 5, 6, 7, 9] rfl (f_L_isFormula_b250_ok hZ (f_L_isFormula_b193 n) ih x7 a8 a9 a10 a11 a13 x14 x16 (M3.1 a9 (ix x16)) r3 M3)
set_option maxRecDepth 100000 in
set_option maxHeartbeats 4000000 in
theorem f_L_isFormula_b188_ok {X : XT} {G : GT} {Z : ZT} (hZ : 6 ≤ Z.1) (x7 : Int32) (a8 : Nat) (a9 : Nat) (a10 : Nat) (a11 : Nat) (a13 : Nat) (x14 : Int32) (t0 : Int32) (M : Mem) : U X G Z cL_isFormula (some .boolean) (QM X G Z vI) 17 188 [(0, .ref (G.2 + 0)), (7, .int x7), (8, .ref (G.2 + a8)), (9, .ref (G.2 + a9)), (10, .ref (G.2 + a10)), (11, .ref (G.2 + a11)), (13, .ref (G.2 + a13)), (14, .int x14)] [.int t0] M (f_L_isFormula_b188 x7 a8 a9 a10 a11 a13 x14 t0 M) := by
  unfold f_L_isFormula_b188
  refine U_istore 15 [(15, .int t0), (0, .ref (G.2 + 0)), (7, .int x7), (8, .ref (G.2 + a8)), (9, .ref (G.2 + a9)), (10, .ref (G.2 + a10)), (11, .ref (G.2 + a11)), (13, .ref (G.2 + a13)), (14, .int x14)] (by decide) rfl dL_isFormula_188 ?_
  refine U_iconst dL_isFormula_190 ic_0 ?_
  refine U_istore 16 [(16, .int 0), (15, .int t0), (0, .ref (G.2 + 0)), (7, .int x7), (8, .ref (G.2 + a8)), (9, .ref (G.2 + a9)), (10, .ref (G.2 + a10)), (11, .ref (G.2 + a11)), (13, .ref (G.2 + a13)), (14, .int x14)] (by decide) rfl dL_isFormula_191 ?_
  exact U_sub [2, 3, 4, 5, 6, 7, 8, 9, 1, 0] rfl (f_L_isFormula_b193_ok hZ FU x7 a8 a9 a10 a11 a13 x14 t0 0 M)
set_option maxRecDepth 100000 in
set_option maxHeartbeats 4000000 in
theorem f_L_isFormula_b187_ok {X : XT} {G : GT} {Z : ZT} (hZ : 6 ≤ Z.1) (x7 : Int32) (a8 : Nat) (a9 : Nat) (a10 : Nat) (a11 : Nat) (a13 : Nat) (x14 : Int32) (M : Mem) : U X G Z cL_isFormula (some .boolean) (QM X G Z vI) 17 187 [(0, .ref (G.2 + 0)), (7, .int x7), (8, .ref (G.2 + a8)), (9, .ref (G.2 + a9)), (10, .ref (G.2 + a10)), (11, .ref (G.2 + a11)), (13, .ref (G.2 + a13)), (14, .int x14)] [] M (f_L_isFormula_b187 x7 a8 a9 a10 a11 a13 x14 M) := by
  unfold f_L_isFormula_b187
  refine U_iconst dL_isFormula_187 ic_0 ?_
  exact U_sub [0, 1, 2, 3, 4, 5, 6, 7] rfl (f_L_isFormula_b188_ok hZ x7 a8 a9 a10 a11 a13 x14 0 M)
set_option maxRecDepth 100000 in
set_option maxHeartbeats 4000000 in
theorem f_L_isFormula_b139_ok {X : XT} {G : GT} {Z : ZT} (hZ : 6 ≤ Z.1) (x7 : Int32) (a8 : Nat) (a9 : Nat) (a10 : Nat) (a11 : Nat) (a12 : Nat) (a13 : Nat) (x14 : Int32) (t0 : Int32) (t1 : Int32) (M : Mem) : U X G Z cL_isFormula (some .boolean) (QM X G Z vI) 17 139 [(0, .ref (G.2 + 0)), (7, .int x7), (8, .ref (G.2 + a8)), (9, .ref (G.2 + a9)), (10, .ref (G.2 + a10)), (11, .ref (G.2 + a11)), (12, .ref (G.2 + a12)), (13, .ref (G.2 + a13)), (14, .int x14)] [.int t0, .int t1] M (f_L_isFormula_b139 x7 a8 a9 a10 a11 a12 a13 x14 t0 t1 M) := by
  unfold f_L_isFormula_b139
  refine U_icmpne 187 dL_isFormula_139 (by decide) (fun _ => ?_) (fun _ => ?_)
  · exact U_sub [0, 1, 2, 3, 4, 5, 7, 8] rfl (f_L_isFormula_b187_ok hZ x7 a8 a9 a10 a11 a13 x14 M)
  · refine U_aload_n 0 rfl 0 rfl dL_isFormula_142 ?_
    refine U_iload 7 1 rfl dL_isFormula_143 ?_
    refine U_iconst dL_isFormula_145 ic_4 ?_
    refine kL_84 (Nat.lt_of_lt_of_le (Nat.le_of_ble_eq_true rfl : 3 + 1 ≤ 6) hZ) (fun lq rq Mq hh => mc_f_LP_formula lq x7 4 M rq Mq hh) (Nat.le_of_ble_eq_true rfl) dL_isFormula_146 (fun r1 M1 => ?_)
    refine U_aload 13 7 rfl dL_isFormula_149 ?_
    refine U_iconst dL_isFormula_151 ic_0 ?_
    refine U_iald dL_isFormula_152 ?_
    refine U_icmpne 187 dL_isFormula_153 (by decide) (fun _ => ?_) (fun _ => ?_)
    · exact U_sub [0, 1, 2, 3, 4, 5, 7, 8] rfl (f_L_isFormula_b187_ok hZ x7 a8 a9 a10 a11 a13 x14 M1)
    · refine U_aload_n 0 rfl 0 rfl dL_isFormula_156 ?_
      refine U_iload 7 1 rfl dL_isFormula_157 ?_
      refine U_iconst dL_isFormula_159 ic_5 ?_
      refine kL_84 (Nat.lt_of_lt_of_le (Nat.le_of_ble_eq_true rfl : 3 + 1 ≤ 6) hZ) (fun lq rq Mq hh => mc_f_LP_formula lq x7 5 M1 rq Mq hh) (Nat.le_of_ble_eq_true rfl) dL_isFormula_160 (fun r2 M2 => ?_)
      refine U_aload 12 6 rfl dL_isFormula_163 ?_
      refine U_iconst dL_isFormula_165 ic_0 ?_
      refine U_iald dL_isFormula_166 ?_
      refine U_icmpne 187 dL_isFormula_167 (by decide) (fun _ => ?_) (fun _ => ?_)
      · exact U_sub [0, 1, 2, 3, 4, 5, 7, 8] rfl (f_L_isFormula_b187_ok hZ x7 a8 a9 a10 a11 a13 x14 M2)
      · refine U_aload_n 0 rfl 0 rfl dL_isFormula_170 ?_
        refine U_iload 7 1 rfl dL_isFormula_171 ?_
        refine U_bipush dL_isFormula_173 bp_7 ?_
        refine kL_84 (Nat.lt_of_lt_of_le (Nat.le_of_ble_eq_true rfl : 3 + 1 ≤ 6) hZ) (fun lq rq Mq hh => mc_f_LP_formula lq x7 7 M2 rq Mq hh) (Nat.le_of_ble_eq_true rfl) dL_isFormula_175 (fun r3 M3 => ?_)
        refine U_ldc wkL_78 dL_isFormula_178 ?_
        refine U_icmpne 187 dL_isFormula_180 (by decide) (fun _ => ?_) (fun _ => ?_)
        · exact U_sub [0, 1, 2, 3, 4, 5, 7, 8] rfl (f_L_isFormula_b187_ok hZ x7 a8 a9 a10 a11 a13 x14 M3)
        · refine U_iconst dL_isFormula_183 ic_1 ?_
          refine U_goto 188 dL_isFormula_184 (by decide) ?_
          exact U_sub [0, 1, 2, 3, 4, 5, 7, 8] rfl (f_L_isFormula_b188_ok hZ x7 a8 a9 a10 a11 a13 x14 1 M3)
set_option maxRecDepth 100000 in
set_option maxHeartbeats 4000000 in
theorem u_f_L_isFormula {X : XT} {G : GT} {Z : ZT} (hZ : 6 ≤ Z.1) (a1 : Nat) (a2 : Nat) (a3 : Nat) (a4 : Nat) (a5 : Nat) (a6 : Nat) (x7 : Int32) (M : Mem) : U X G Z cL_isFormula (some .boolean) (QM X G Z vI) 17 0 [(0, .ref (G.2 + 0)), (1, .ref (G.2 + a1)), (2, .ref (G.2 + a2)), (3, .ref (G.2 + a3)), (4, .ref (G.2 + a4)), (5, .ref (G.2 + a5)), (6, .ref (G.2 + a6)), (7, .int x7)] [] M (f_L_isFormula a1 a2 a3 a4 a5 a6 x7 M) := by
  unfold f_L_isFormula
  refine U_bipush dL_isFormula_0 bp_64 ?_
  refine U_newa xa_i dL_isFormula_2 (fun b1 M1 => ?_)
  refine U_astore 8 [(8, .ref (G.2 + b1)), (0, .ref (G.2 + 0)), (1, .ref (G.2 + a1)), (2, .ref (G.2 + a2)), (3, .ref (G.2 + a3)), (4, .ref (G.2 + a4)), (5, .ref (G.2 + a5)), (6, .ref (G.2 + a6)), (7, .int x7)] (by decide) rfl dL_isFormula_4 ?_
  refine U_bipush dL_isFormula_6 bp_64 ?_
  refine U_newa xa_i dL_isFormula_8 (fun b2 M2 => ?_)
  refine U_astore 9 [(9, .ref (G.2 + b2)), (8, .ref (G.2 + b1)), (0, .ref (G.2 + 0)), (1, .ref (G.2 + a1)), (2, .ref (G.2 + a2)), (3, .ref (G.2 + a3)), (4, .ref (G.2 + a4)), (5, .ref (G.2 + a5)), (6, .ref (G.2 + a6)), (7, .int x7)] (by decide) rfl dL_isFormula_10 ?_
  refine U_bipush dL_isFormula_12 bp_64 ?_
  refine U_newa xa_i dL_isFormula_14 (fun b3 M3 => ?_)
  refine U_astore 10 [(10, .ref (G.2 + b3)), (9, .ref (G.2 + b2)), (8, .ref (G.2 + b1)), (0, .ref (G.2 + 0)), (1, .ref (G.2 + a1)), (2, .ref (G.2 + a2)), (3, .ref (G.2 + a3)), (4, .ref (G.2 + a4)), (5, .ref (G.2 + a5)), (6, .ref (G.2 + a6)), (7, .int x7)] (by decide) rfl dL_isFormula_16 ?_
  refine U_bipush dL_isFormula_18 bp_64 ?_
  refine U_newa xa_i dL_isFormula_20 (fun b4 M4 => ?_)
  refine U_astore 11 [(11, .ref (G.2 + b4)), (10, .ref (G.2 + b3)), (9, .ref (G.2 + b2)), (8, .ref (G.2 + b1)), (0, .ref (G.2 + 0)), (1, .ref (G.2 + a1)), (2, .ref (G.2 + a2)), (3, .ref (G.2 + a3)), (4, .ref (G.2 + a4)), (5, .ref (G.2 + a5)), (6, .ref (G.2 + a6)), (7, .int x7)] (by decide) rfl dL_isFormula_22 ?_
  refine U_bipush dL_isFormula_24 bp_64 ?_
  refine U_newa xa_i dL_isFormula_26 (fun b5 M5 => ?_)
  refine U_astore 12 [(12, .ref (G.2 + b5)), (11, .ref (G.2 + b4)), (10, .ref (G.2 + b3)), (9, .ref (G.2 + b2)), (8, .ref (G.2 + b1)), (0, .ref (G.2 + 0)), (1, .ref (G.2 + a1)), (2, .ref (G.2 + a2)), (3, .ref (G.2 + a3)), (4, .ref (G.2 + a4)), (5, .ref (G.2 + a5)), (6, .ref (G.2 + a6)), (7, .int x7)] (by decide) rfl dL_isFormula_28 ?_
  refine U_bipush dL_isFormula_30 bp_64 ?_
  refine U_newa xa_i dL_isFormula_32 (fun b6 M6 => ?_)
  refine U_astore 13 [(13, .ref (G.2 + b6)), (12, .ref (G.2 + b5)), (11, .ref (G.2 + b4)), (10, .ref (G.2 + b3)), (9, .ref (G.2 + b2)), (8, .ref (G.2 + b1)), (0, .ref (G.2 + 0)), (1, .ref (G.2 + a1)), (2, .ref (G.2 + a2)), (3, .ref (G.2 + a3)), (4, .ref (G.2 + a4)), (5, .ref (G.2 + a5)), (6, .ref (G.2 + a6)), (7, .int x7)] (by decide) rfl dL_isFormula_34 ?_
  refine U_aload_n 1 rfl 7 rfl dL_isFormula_36 ?_
  refine U_aload_n 3 rfl 9 rfl dL_isFormula_37 ?_
  refine U_aload 4 10 rfl dL_isFormula_38 ?_
  refine U_aload 5 11 rfl dL_isFormula_40 ?_
  refine U_iload 7 13 rfl dL_isFormula_42 ?_
  refine U_aload 8 5 rfl dL_isFormula_44 ?_
  refine U_aload 9 4 rfl dL_isFormula_46 ?_
  refine kL_21 (Nat.lt_of_lt_of_le (Nat.le_of_ble_eq_true rfl : 1 + 1 ≤ 6) hZ) (fun lq rq Mq hh => mc_f_L_expand lq a1 a3 a4 a5 x7 b1 b2 M6 rq Mq hh) (fun rq Mq hh => (u_f_L_expand (X := (X.1, X.2.1, X.2.2.1, X.2.2.2.1, X.2.2.2.2.1, X.2.2.2.2.2.1, X.2.2.2.2.2.2.1, X.2.2.2.2.2.2.2.1, X.2.2.2.2.2.2.2.2)) (G := G) (Z := (1, Z.2)) (Nat.le_refl _) a1 a3 a4 a5 x7 b1 b2 M6 rq Mq hh).1) (Nat.le_of_ble_eq_true rfl) dL_isFormula_48 (fun r7 M7 => ?_)
  refine U_istore 14 [(14, .int r7), (13, .ref (G.2 + b6)), (12, .ref (G.2 + b5)), (11, .ref (G.2 + b4)), (10, .ref (G.2 + b3)), (9, .ref (G.2 + b2)), (8, .ref (G.2 + b1)), (0, .ref (G.2 + 0)), (1, .ref (G.2 + a1)), (2, .ref (G.2 + a2)), (3, .ref (G.2 + a3)), (4, .ref (G.2 + a4)), (5, .ref (G.2 + a5)), (6, .ref (G.2 + a6)), (7, .int x7)] (by decide) rfl dL_isFormula_51 ?_
  refine U_aload_n 2 rfl 9 rfl dL_isFormula_53 ?_
  refine U_aload 6 13 rfl dL_isFormula_54 ?_
  refine U_aload 8 6 rfl dL_isFormula_56 ?_
  refine U_aload 9 5 rfl dL_isFormula_58 ?_
  refine U_iload 14 0 rfl dL_isFormula_60 ?_
  refine U_aload 10 4 rfl dL_isFormula_62 ?_
  refine U_aload 11 3 rfl dL_isFormula_64 ?_
  refine U_aload 12 2 rfl dL_isFormula_66 ?_
  refine U_aload 13 1 rfl dL_isFormula_68 ?_
  refine kL_25 (Nat.lt_of_lt_of_le (Nat.le_of_ble_eq_true rfl : 0 + 1 ≤ 6) hZ) (fun lq rq Mq hh => mc_f_L_tell lq a2 a6 b1 b2 r7 b3 b4 b5 b6 M7 rq Mq hh) (fun rq Mq hh => (u_f_L_tell (X := (X.1, X.2.1, X.2.2.1, X.2.2.2.1, X.2.2.2.2.1, X.2.2.2.2.2.1, X.2.2.2.2.2.2.1, X.2.2.2.2.2.2.2.1, X.2.2.2.2.2.2.2.2)) (G := G) (Z := (0, Z.2)) (Nat.le_refl _) a2 a6 b1 b2 r7 b3 b4 b5 b6 M7 rq Mq hh).1) (Nat.le_of_ble_eq_true rfl) dL_isFormula_70 (fun _ M8 => ?_)
  refine U_aload_n 0 rfl 7 rfl dL_isFormula_73 ?_
  refine U_iload 7 14 rfl dL_isFormula_74 ?_
  refine U_iconst dL_isFormula_76 ic_0 ?_
  refine kL_84 (Nat.lt_of_lt_of_le (Nat.le_of_ble_eq_true rfl : 3 + 1 ≤ 6) hZ) (fun lq rq Mq hh => mc_f_LP_formula lq x7 0 M8 rq Mq hh) (Nat.le_of_ble_eq_true rfl) dL_isFormula_77 (fun r9 M9 => ?_)
  refine U_aload_n 3 rfl 10 rfl dL_isFormula_80 ?_
  refine U_iload 7 14 rfl dL_isFormula_81 ?_
  refine U_iald dL_isFormula_83 ?_
  refine U_icmpne 187 dL_isFormula_84 (by decide) (fun _ => ?_) (fun _ => ?_)
  · exact U_sub [7, 14, 6, 5, 4, 3, 1, 0] rfl (f_L_isFormula_b187_ok hZ x7 b1 b2 b3 b4 b6 r7 M9)
  · refine U_aload_n 0 rfl 7 rfl dL_isFormula_87 ?_
    refine U_iload 7 14 rfl dL_isFormula_88 ?_
    refine U_iconst dL_isFormula_90 ic_1 ?_
    refine kL_84 (Nat.lt_of_lt_of_le (Nat.le_of_ble_eq_true rfl : 3 + 1 ≤ 6) hZ) (fun lq rq Mq hh => mc_f_LP_formula lq x7 1 M9 rq Mq hh) (Nat.le_of_ble_eq_true rfl) dL_isFormula_91 (fun r10 M10 => ?_)
    refine U_iload 14 0 rfl dL_isFormula_94 ?_
    refine U_icmpne 187 dL_isFormula_96 (by decide) (fun _ => ?_) (fun _ => ?_)
    · exact U_sub [7, 14, 6, 5, 4, 3, 1, 0] rfl (f_L_isFormula_b187_ok hZ x7 b1 b2 b3 b4 b6 r7 M10)
    · refine U_aload_n 0 rfl 7 rfl dL_isFormula_99 ?_
      refine U_iload 7 14 rfl dL_isFormula_100 ?_
      refine U_iconst dL_isFormula_102 ic_2 ?_
      refine kL_84 (Nat.lt_of_lt_of_le (Nat.le_of_ble_eq_true rfl : 3 + 1 ≤ 6) hZ) (fun lq rq Mq hh => mc_f_LP_formula lq x7 2 M10 rq Mq hh) (Nat.le_of_ble_eq_true rfl) dL_isFormula_103 (fun r11 M11 => ?_)
      refine U_aload 11 3 rfl dL_isFormula_106 ?_
      refine U_iconst dL_isFormula_108 ic_0 ?_
      refine U_iald dL_isFormula_109 ?_
      refine U_icmpne 187 dL_isFormula_110 (by decide) (fun _ => ?_) (fun _ => ?_)
      · exact U_sub [7, 14, 6, 5, 4, 3, 1, 0] rfl (f_L_isFormula_b187_ok hZ x7 b1 b2 b3 b4 b6 r7 M11)
      · refine U_aload_n 0 rfl 7 rfl dL_isFormula_113 ?_
        refine U_iload 7 14 rfl dL_isFormula_114 ?_
        refine U_iconst dL_isFormula_116 ic_3 ?_
        refine kL_84 (Nat.lt_of_lt_of_le (Nat.le_of_ble_eq_true rfl : 3 + 1 ≤ 6) hZ) (fun lq rq Mq hh => mc_f_LP_formula lq x7 3 M11 rq Mq hh) (Nat.le_of_ble_eq_true rfl) dL_isFormula_117 (fun r12 M12 => ?_)
        refine U_aload_n 1 rfl 8 rfl dL_isFormula_120 ?_
        refine U_aload_n 3 rfl 10 rfl dL_isFormula_121 ?_
        refine U_aload 4 11 rfl dL_isFormula_122 ?_
        refine U_aload 5 12 rfl dL_isFormula_124 ?_
        refine U_iload 7 14 rfl dL_isFormula_126 ?_
        refine kL_9 (Nat.lt_of_lt_of_le (Nat.le_of_ble_eq_true rfl : 0 + 1 ≤ 6) hZ) (fun lq rq Mq hh => mc_f_L_isCheap lq a1 a3 a4 a5 x7 M12 rq Mq hh) (fun rq Mq hh => (u_f_L_isCheap (X := (X.1, X.2.1, X.2.2.1, X.2.2.2.1, X.2.2.2.2.1, X.2.2.2.2.2.1, X.2.2.2.2.2.2.1, X.2.2.2.2.2.2.2.1, X.2.2.2.2.2.2.2.2)) (G := G) (Z := (0, Z.2)) (Nat.le_refl _) a1 a3 a4 a5 x7 M12 rq Mq hh).1) (Nat.le_of_ble_eq_true rfl) dL_isFormula_128 (fun r13 M13 => ?_)
        refine U_ifeq 138 dL_isFormula_131 (by decide) (fun _ => ?_) (fun _ => ?_)
        · refine U_iconst dL_isFormula_138 ic_0 ?_
          exact U_sub [7, 14, 6, 5, 4, 3, 2, 1, 0] rfl (f_L_isFormula_b139_ok hZ x7 b1 b2 b3 b4 b5 b6 r7 0 r12 M13)
        · refine U_iconst dL_isFormula_134 ic_1 ?_
          refine U_goto 139 dL_isFormula_135 (by decide) ?_
          exact U_sub [7, 14, 6, 5, 4, 3, 2, 1, 0] rfl (f_L_isFormula_b139_ok hZ x7 b1 b2 b3 b4 b5 b6 r7 1 r12 M13)
theorem mc_f_L_isFormula {G : GT} (l : Launch) (a1 : Nat) (a2 : Nat) (a3 : Nat) (a4 : Nat) (a5 : Nat) (a6 : Nat) (x7 : Int32) (M : Mem) (r : Int32) (M1 : Mem) (ho : f_L_isFormula a1 a2 a3 a4 a5 a6 x7 M = some (r, M1)) : MCL l G yL_isFormula cL_isFormula 17 (some .boolean) 6 [.ref (G.2 + 0), .ref (G.2 + a1), .ref (G.2 + a2), .ref (G.2 + a3), .ref (G.2 + a4), .ref (G.2 + a5), .ref (G.2 + a6), .int x7] M (vI r) M1 :=
  MCL.ofU (lv := [(0, .ref (G.2 + 0)), (1, .ref (G.2 + a1)), (2, .ref (G.2 + a2)), (3, .ref (G.2 + a3)), (4, .ref (G.2 + a4)), (5, .ref (G.2 + a5)), (6, .ref (G.2 + a6)), (7, .int x7)]) (by decide +kernel) rfl rfl (Nat.le_of_ble_eq_true rfl) ho (fun X Z hZ => u_f_L_isFormula (Nat.le_of_eq hZ.symm) a1 a2 a3 a4 a5 a6 x7 M)
