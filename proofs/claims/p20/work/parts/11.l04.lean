set_option maxRecDepth 100000 in
set_option maxHeartbeats 4000000 in
theorem f_L_acts_b381_ok {X : XT} {G : GT} {Z : ZT} (hZ : 306 ≤ Z.1) : ∀ (n : Nat) (a1 : Nat) (a2 : Nat) (a3 : Nat) (a4 : Nat) (a5 : Nat) (x9 : Int32) (x10 : Int32) (x11 : Int32) (x13 : Int32) (a14 : Nat) (a15 : Nat) (x16 : Int32) (M : Mem), U X G Z cL_acts (some .boolean) (QM X G Z vI) 18 381 [(0, .ref (G.2 + 0)), (1, .ref (G.2 + a1)), (2, .ref (G.2 + a2)), (3, .ref (G.2 + a3)), (4, .ref (G.2 + a4)), (5, .ref (G.2 + a5)), (9, .int x9), (10, .int x10), (11, .int x11), (13, .int x13), (14, .ref (G.2 + a14)), (15, .ref (G.2 + a15)), (16, .int x16)] [] M (f_L_acts_b381 n a1 a2 a3 a4 a5 x9 x10 x11 x13 a14 a15 x16 M) := by
  intro n
  induction n with
  | zero =>
    intros
    rw [f_L_acts_b381]
    exact U_none
  | succ n ih =>
    intro a1 a2 a3 a4 a5 x9 x10 x11 x13 a14 a15 x16 M
    rw [f_L_acts_b381]
    refine U_iload 16 12 rfl dL_acts_381 ?_
    refine U_iload 13 9 rfl dL_acts_383 ?_
    refine U_icmpge 420 dL_acts_385 (by decide) (fun _ => ?_) (fun _ => ?_)
    · refine U_bipush dL_acts_420 bp_64 ?_
      refine U_newa xa_i dL_acts_422 (fun b1 M1 => ?_)
      refine U_astore 16 [(16, .ref (G.2 + b1)), (0, .ref (G.2 + 0)), (1, .ref (G.2 + a1)), (2, .ref (G.2 + a2)), (3, .ref (G.2 + a3)), (4, .ref (G.2 + a4)), (5, .ref (G.2 + a5)), (9, .int x9), (10, .int x10), (11, .int x11), (13, .int x13), (14, .ref (G.2 + a14)), (15, .ref (G.2 + a15))] (by decide) rfl dL_acts_424 ?_
      refine U_aload_n 1 rfl 2 rfl dL_acts_426 ?_
      refine U_aload_n 3 rfl 4 rfl dL_acts_427 ?_
      refine U_aload 4 5 rfl dL_acts_428 ?_
      refine U_aload 5 6 rfl dL_acts_430 ?_
      refine U_iload 9 7 rfl dL_acts_432 ?_
      refine U_aload 14 11 rfl dL_acts_434 ?_
      refine U_aload 15 12 rfl dL_acts_436 ?_
      refine kL_21 (Nat.lt_of_lt_of_le (Nat.le_of_ble_eq_true rfl : 1 + 1 ≤ 306) hZ) (fun lq rq Mq hh => mc_f_L_expand lq a1 a3 a4 a5 x9 a14 a15 M1 rq Mq hh) (fun rq Mq hh => (u_f_L_expand (X := (X.1, X.2.1, X.2.2.1, X.2.2.2.1, X.2.2.2.2.1, X.2.2.2.2.2.1, X.2.2.2.2.2.2.1, X.2.2.2.2.2.2.2.1, X.2.2.2.2.2.2.2.2)) (G := G) (Z := (1, Z.2)) (Nat.le_refl _) a1 a3 a4 a5 x9 a14 a15 M1 rq Mq hh).1) (Nat.le_of_ble_eq_true rfl) dL_acts_438 (fun r2 M2 => ?_)
      refine U_istore 17 [(17, .int r2), (16, .ref (G.2 + b1)), (0, .ref (G.2 + 0)), (1, .ref (G.2 + a1)), (2, .ref (G.2 + a2)), (3, .ref (G.2 + a3)), (4, .ref (G.2 + a4)), (5, .ref (G.2 + a5)), (9, .int x9), (10, .int x10), (11, .int x11), (13, .int x13), (14, .ref (G.2 + a14)), (15, .ref (G.2 + a15))] (by decide) rfl dL_acts_441 ?_
      refine U_aload_n 2 rfl 4 rfl dL_acts_443 ?_
      refine U_bipush dL_acts_444 bp_8 ?_
      refine U_newa xa_i dL_acts_446 (fun b3 M3 => ?_)
      refine U_aload 14 12 rfl dL_acts_448 ?_
      refine U_aload 15 13 rfl dL_acts_450 ?_
      refine U_iload 17 0 rfl dL_acts_452 ?_
      refine U_bipush dL_acts_454 bp_64 ?_
      refine U_newa xa_i dL_acts_456 (fun b4 M4 => ?_)
      refine U_aload 16 1 rfl dL_acts_458 ?_
      refine U_bipush dL_acts_460 bp_64 ?_
      refine U_newa xa_i dL_acts_462 (fun b5 M5 => ?_)
      refine U_bipush dL_acts_464 bp_64 ?_
      refine U_newa xa_i dL_acts_466 (fun b6 M6 => ?_)
      refine kL_25 (Nat.lt_of_lt_of_le (Nat.le_of_ble_eq_true rfl : 0 + 1 ≤ 306) hZ) (fun lq rq Mq hh => mc_f_L_tell lq a2 b3 a14 a15 r2 b4 b1 b5 b6 M6 rq Mq hh) (fun rq Mq hh => (u_f_L_tell (X := (X.1, X.2.1, X.2.2.1, X.2.2.2.1, X.2.2.2.2.1, X.2.2.2.2.2.1, X.2.2.2.2.2.2.1, X.2.2.2.2.2.2.2.1, X.2.2.2.2.2.2.2.2)) (G := G) (Z := (0, Z.2)) (Nat.le_refl _) a2 b3 a14 a15 r2 b4 b1 b5 b6 M6 rq Mq hh).1) (Nat.le_of_ble_eq_true rfl) dL_acts_468 (fun _ M7 => ?_)
      refine U_aload_n 0 rfl 2 rfl dL_acts_471 ?_
      refine U_iload 9 8 rfl dL_acts_472 ?_
      refine U_iload 10 9 rfl dL_acts_474 ?_
      refine kL_75 (Nat.lt_of_lt_of_le (Nat.le_of_ble_eq_true rfl : 7 + 1 ≤ 306) hZ) (fun lq rq Mq hh => mc_f_LP_turn lq x9 x10 M7 rq Mq hh) (Nat.le_of_ble_eq_true rfl) dL_acts_476 (fun r8 M8 => ?_)
      refine U_aload 16 1 rfl dL_acts_479 ?_
      refine U_iconst dL_acts_481 ic_0 ?_
      refine U_iald dL_acts_482 ?_
      refine U_icmpne 490 dL_acts_483 (by decide) (fun _ => ?_) (fun _ => ?_)
      · refine U_iconst dL_acts_490 ic_0 ?_
        exact U_zret dL_acts_491
      · refine U_iconst dL_acts_486 ic_1 ?_
        refine U_goto 491 dL_acts_487 (by decide) ?_
        exact U_zret dL_acts_491
    · refine U_aload 4 4 rfl dL_acts_388 ?_
      refine U_iload 11 8 rfl dL_acts_390 ?_
      refine U_iload 16 12 rfl dL_acts_392 ?_
      refine U_iadd dL_acts_394 ?_
      refine U_aload 14 10 rfl dL_acts_395 ?_
      refine U_iload 16 12 rfl dL_acts_397 ?_
      refine U_iald dL_acts_399 ?_
      refine U_iast dL_acts_400 (fun M9 => ?_)
      refine U_aload 5 5 rfl dL_acts_401 ?_
      refine U_iload 11 8 rfl dL_acts_403 ?_
      refine U_iload 16 12 rfl dL_acts_405 ?_
      refine U_iadd dL_acts_407 ?_
      refine U_aload 15 11 rfl dL_acts_408 ?_
      refine U_iload 16 12 rfl dL_acts_410 ?_
      refine U_iald dL_acts_412 ?_
      refine U_iast dL_acts_413 (fun M10 => ?_)
      refine U_iincB 16 12 (fun y11 => [(16, .int y11), (0, .ref (G.2 + 0)), (1, .ref (G.2 + a1)), (2, .ref (G.2 + a2)), (3, .ref (G.2 + a3)), (4, .ref (G.2 + a4)), (5, .ref (G.2 + a5)), (9, .int x9), (10, .int x10), (11, .int x11), (13, .int x13), (14, .ref (G.2 + a14)), (15, .ref (G.2 + a15))]) rfl ic_1 (by decide) (fun _ => rfl) dL_acts_414 (fun y11 => ?_)
      refine U_goto 381 dL_acts_417 (by decide) ?_
      exact U_sub [1, 2, 3, 4, 5, 6, 7, 8, 9, 10, 11, 12, 0] rfl (ih a1 a2 a3 a4 a5 x9 x10 x11 x13 a14 a15 y11 M10)
set_option maxRecDepth 100000 in
set_option maxHeartbeats 4000000 in
theorem f_L_acts_b341_ok {X : XT} {G : GT} {Z : ZT} (hZ : 306 ≤ Z.1) (k306 : Nat → Nat → Nat → Nat → Nat → Int32 → Int32 → Int32 → Int32 → Int32 → Nat → Nat → Int32 → Mem → Option (Int32 × Mem)) (hk306 : ∀ (a1 : Nat) (a2 : Nat) (a3 : Nat) (a4 : Nat) (a5 : Nat) (x9 : Int32) (x10 : Int32) (x11 : Int32) (x12 : Int32) (x13 : Int32) (a14 : Nat) (a15 : Nat) (x16 : Int32) (M : Mem), U X G Z cL_acts (some .boolean) (QM X G Z vI) 18 306 [(0, .ref (G.2 + 0)), (1, .ref (G.2 + a1)), (2, .ref (G.2 + a2)), (3, .ref (G.2 + a3)), (4, .ref (G.2 + a4)), (5, .ref (G.2 + a5)), (9, .int x9), (10, .int x10), (11, .int x11), (12, .int x12), (13, .int x13), (14, .ref (G.2 + a14)), (15, .ref (G.2 + a15)), (16, .int x16)] [] M (k306 a1 a2 a3 a4 a5 x9 x10 x11 x12 x13 a14 a15 x16 M)) (a1 : Nat) (a2 : Nat) (a3 : Nat) (a4 : Nat) (a5 : Nat) (x9 : Int32) (x10 : Int32) (x11 : Int32) (x12 : Int32) (x13 : Int32) (a14 : Nat) (a15 : Nat) (x16 : Int32) (t0 : Int32) (M : Mem) : U X G Z cL_acts (some .boolean) (QM X G Z vI) 18 341 [(0, .ref (G.2 + 0)), (1, .ref (G.2 + a1)), (2, .ref (G.2 + a2)), (3, .ref (G.2 + a3)), (4, .ref (G.2 + a4)), (5, .ref (G.2 + a5)), (9, .int x9), (10, .int x10), (11, .int x11), (12, .int x12), (13, .int x13), (14, .ref (G.2 + a14)), (15, .ref (G.2 + a15)), (16, .int x16)] [.int t0] M (f_L_acts_b341 k306 a1 a2 a3 a4 a5 x9 x10 x11 x12 x13 a14 a15 x16 t0 M) := by
  unfold f_L_acts_b341
  refine U_istore 17 [(17, .int t0), (0, .ref (G.2 + 0)), (1, .ref (G.2 + a1)), (2, .ref (G.2 + a2)), (3, .ref (G.2 + a3)), (4, .ref (G.2 + a4)), (5, .ref (G.2 + a5)), (9, .int x9), (10, .int x10), (11, .int x11), (12, .int x12), (13, .int x13), (14, .ref (G.2 + a14)), (15, .ref (G.2 + a15)), (16, .int x16)] (by decide) rfl dL_acts_341 ?_
  refine U_aload 14 12 rfl dL_acts_343 ?_
  refine U_iload 17 0 rfl dL_acts_345 ?_
  refine U_aload 4 5 rfl dL_acts_347 ?_
  refine U_iload 11 9 rfl dL_acts_349 ?_
  refine U_iload 16 14 rfl dL_acts_351 ?_
  refine U_iadd dL_acts_353 ?_
  refine U_iald dL_acts_354 ?_
  refine U_iast dL_acts_355 (fun M1 => ?_)
  refine U_aload 15 13 rfl dL_acts_356 ?_
  refine U_iload 17 0 rfl dL_acts_358 ?_
  refine U_aload 5 6 rfl dL_acts_360 ?_
  refine U_iload 11 9 rfl dL_acts_362 ?_
  refine U_iload 16 14 rfl dL_acts_364 ?_
  refine U_iadd dL_acts_366 ?_
  refine U_iald dL_acts_367 ?_
  refine U_iast dL_acts_368 (fun M2 => ?_)
  refine U_iincB 16 14 (fun y3 => [(16, .int y3), (17, .int t0), (0, .ref (G.2 + 0)), (1, .ref (G.2 + a1)), (2, .ref (G.2 + a2)), (3, .ref (G.2 + a3)), (4, .ref (G.2 + a4)), (5, .ref (G.2 + a5)), (9, .int x9), (10, .int x10), (11, .int x11), (12, .int x12), (13, .int x13), (14, .ref (G.2 + a14)), (15, .ref (G.2 + a15))]) rfl ic_1 (by decide) (fun _ => rfl) dL_acts_369 (fun y3 => ?_)
  refine U_goto 306 dL_acts_372 (by decide) ?_
  exact U_sub [2, 3, 4, 5, 6, 7, 8, 9, 10, 11, 12, 13, 14, 0] rfl (hk306 a1 a2 a3 a4 a5 x9 x10 x11 x12 x13 a14 a15 y3 M2)
set_option maxRecDepth 100000 in
set_option maxHeartbeats 4000000 in
theorem f_L_acts_b306_ok {X : XT} {G : GT} {Z : ZT} (hZ : 306 ≤ Z.1) : ∀ (n : Nat) (a1 : Nat) (a2 : Nat) (a3 : Nat) (a4 : Nat) (a5 : Nat) (x9 : Int32) (x10 : Int32) (x11 : Int32) (x12 : Int32) (x13 : Int32) (a14 : Nat) (a15 : Nat) (x16 : Int32) (M : Mem), U X G Z cL_acts (some .boolean) (QM X G Z vI) 18 306 [(0, .ref (G.2 + 0)), (1, .ref (G.2 + a1)), (2, .ref (G.2 + a2)), (3, .ref (G.2 + a3)), (4, .ref (G.2 + a4)), (5, .ref (G.2 + a5)), (9, .int x9), (10, .int x10), (11, .int x11), (12, .int x12), (13, .int x13), (14, .ref (G.2 + a14)), (15, .ref (G.2 + a15)), (16, .int x16)] [] M (f_L_acts_b306 n a1 a2 a3 a4 a5 x9 x10 x11 x12 x13 a14 a15 x16 M) := by
  intro n
  induction n with
  | zero =>
    intros
    rw [f_L_acts_b306]
    exact U_none
  | succ n ih =>
    intro a1 a2 a3 a4 a5 x9 x10 x11 x12 x13 a14 a15 x16 M
    rw [f_L_acts_b306]
    refine U_iload 16 13 rfl dL_acts_306 ?_
    refine U_iload 13 10 rfl dL_acts_308 ?_
    refine U_icmpge 375 dL_acts_310 (by decide) (fun _ => ?_) (fun _ => ?_)
    · refine U_iload 10 7 rfl dL_acts_375 ?_
      refine U_iconst dL_acts_377 ic_1 ?_
      refine U_iadd dL_acts_378 ?_
      refine U_bi (fun y1 => ?_)
      refine U_istore 16 [(16, .int y1), (0, .ref (G.2 + 0)), (1, .ref (G.2 + a1)), (2, .ref (G.2 + a2)), (3, .ref (G.2 + a3)), (4, .ref (G.2 + a4)), (5, .ref (G.2 + a5)), (9, .int x9), (10, .int x10), (11, .int x11), (12, .int x12), (13, .int x13), (14, .ref (G.2 + a14)), (15, .ref (G.2 + a15))] (by decide) rfl dL_acts_379 ?_
      exact U_sub [1, 2, 3, 4, 5, 6, 7, 8, 9, 11, 12, 13, 0] rfl (f_L_acts_b381_ok hZ FU a1 a2 a3 a4 a5 x9 x10 x11 x13 a14 a15 y1 M)
    · refine U_iload 16 13 rfl dL_acts_313 ?_
      refine U_iload 12 9 rfl dL_acts_315 ?_
      refine U_icmpge 331 dL_acts_317 (by decide) (fun _ => ?_) (fun _ => ?_)
      · refine U_iload 16 13 rfl dL_acts_331 ?_
        refine U_iload 12 9 rfl dL_acts_333 ?_
        refine U_isub dL_acts_335 ?_
        refine U_iload 10 7 rfl dL_acts_336 ?_
        refine U_iadd dL_acts_338 ?_
        refine U_iconst dL_acts_339 ic_1 ?_
        refine U_iadd dL_acts_340 ?_
        exact U_sub [0, 1, 2, 3, 4, 5, 6, 7, 8, 9, 10, 11, 12, 13] rfl (f_L_acts_b341_ok hZ (f_L_acts_b306 n) ih a1 a2 a3 a4 a5 x9 x10 x11 x12 x13 a14 a15 x16 (((x16 - x12) + x10) + 1) M)
      · refine U_iload 16 13 rfl dL_acts_320 ?_
        refine U_iload 13 10 rfl dL_acts_322 ?_
        refine U_iadd dL_acts_324 ?_
        refine U_iload 12 9 rfl dL_acts_325 ?_
        refine U_isub dL_acts_327 ?_
        refine U_goto 341 dL_acts_328 (by decide) ?_
        exact U_sub [0, 1, 2, 3, 4, 5, 6, 7, 8, 9, 10, 11, 12, 13] rfl (f_L_acts_b341_ok hZ (f_L_acts_b306 n) ih a1 a2 a3 a4 a5 x9 x10 x11 x12 x13 a14 a15 x16 ((x16 + x13) - x12) M)
set_option maxRecDepth 100000 in
set_option maxHeartbeats 4000000 in
theorem f_L_acts_b264_ok {X : XT} {G : GT} {Z : ZT} (hZ : 306 ≤ Z.1) (a1 : Nat) (a2 : Nat) (a3 : Nat) (a4 : Nat) (a5 : Nat) (x9 : Int32) (x10 : Int32) (x11 : Int32) (M : Mem) : U X G Z cL_acts (some .boolean) (QM X G Z vI) 18 264 [(0, .ref (G.2 + 0)), (1, .ref (G.2 + a1)), (2, .ref (G.2 + a2)), (3, .ref (G.2 + a3)), (4, .ref (G.2 + a4)), (5, .ref (G.2 + a5)), (9, .int x9), (10, .int x10), (11, .int x11)] [] M (f_L_acts_b264 a1 a2 a3 a4 a5 x9 x10 x11 M) := by
  unfold f_L_acts_b264
  refine U_aload 4 4 rfl dL_acts_264 ?_
  refine U_iload 11 8 rfl dL_acts_266 ?_
  refine U_iload 10 7 rfl dL_acts_268 ?_
  refine U_iconst dL_acts_270 ic_1 ?_
  refine U_iadd dL_acts_271 ?_
  refine kL_80 (Nat.lt_of_lt_of_le (Nat.le_of_ble_eq_true rfl : 0 + 1 ≤ 306) hZ) (fun lq rq Mq hh => mc_f_L_part lq a4 x11 (x10 + 1) M rq Mq hh) (fun rq Mq hh => (u_f_L_part (X := (X.1, X.2.1, X.2.2.1, X.2.2.2.1, X.2.2.2.2.1, X.2.2.2.2.2.1, X.2.2.2.2.2.2.1, X.2.2.2.2.2.2.2.1, X.2.2.2.2.2.2.2.2)) (G := G) (Z := (0, Z.2)) (Nat.le_refl _) a4 x11 (x10 + 1) M rq Mq hh).1) (Nat.le_of_ble_eq_true rfl) dL_acts_272 (fun r1 M1 => ?_)
  refine U_istore 12 [(12, .int r1), (0, .ref (G.2 + 0)), (1, .ref (G.2 + a1)), (2, .ref (G.2 + a2)), (3, .ref (G.2 + a3)), (4, .ref (G.2 + a4)), (5, .ref (G.2 + a5)), (9, .int x9), (10, .int x10), (11, .int x11)] (by decide) rfl dL_acts_275 ?_
  refine U_aload 4 5 rfl dL_acts_277 ?_
  refine U_iload 11 9 rfl dL_acts_279 ?_
  refine U_iload 12 0 rfl dL_acts_281 ?_
  refine kL_80 (Nat.lt_of_lt_of_le (Nat.le_of_ble_eq_true rfl : 0 + 1 ≤ 306) hZ) (fun lq rq Mq hh => mc_f_L_part lq a4 x11 r1 M1 rq Mq hh) (fun rq Mq hh => (u_f_L_part (X := (X.1, X.2.1, X.2.2.1, X.2.2.2.1, X.2.2.2.2.1, X.2.2.2.2.2.1, X.2.2.2.2.2.2.1, X.2.2.2.2.2.2.2.1, X.2.2.2.2.2.2.2.2)) (G := G) (Z := (0, Z.2)) (Nat.le_refl _) a4 x11 r1 M1 rq Mq hh).1) (Nat.le_of_ble_eq_true rfl) dL_acts_283 (fun r2 M2 => ?_)
  refine U_istore 13 [(13, .int r2), (12, .int r1), (0, .ref (G.2 + 0)), (1, .ref (G.2 + a1)), (2, .ref (G.2 + a2)), (3, .ref (G.2 + a3)), (4, .ref (G.2 + a4)), (5, .ref (G.2 + a5)), (9, .int x9), (10, .int x10), (11, .int x11)] (by decide) rfl dL_acts_286 ?_
  refine U_bipush dL_acts_288 bp_64 ?_
  refine U_newa xa_i dL_acts_290 (fun b3 M3 => ?_)
  refine U_astore 14 [(14, .ref (G.2 + b3)), (13, .int r2), (12, .int r1), (0, .ref (G.2 + 0)), (1, .ref (G.2 + a1)), (2, .ref (G.2 + a2)), (3, .ref (G.2 + a3)), (4, .ref (G.2 + a4)), (5, .ref (G.2 + a5)), (9, .int x9), (10, .int x10), (11, .int x11)] (by decide) rfl dL_acts_292 ?_
  refine U_bipush dL_acts_294 bp_64 ?_
  refine U_newa xa_i dL_acts_296 (fun b4 M4 => ?_)
  refine U_astore 15 [(15, .ref (G.2 + b4)), (14, .ref (G.2 + b3)), (13, .int r2), (12, .int r1), (0, .ref (G.2 + 0)), (1, .ref (G.2 + a1)), (2, .ref (G.2 + a2)), (3, .ref (G.2 + a3)), (4, .ref (G.2 + a4)), (5, .ref (G.2 + a5)), (9, .int x9), (10, .int x10), (11, .int x11)] (by decide) rfl dL_acts_298 ?_
  refine U_iload 10 11 rfl dL_acts_300 ?_
  refine U_iconst dL_acts_302 ic_1 ?_
  refine U_iadd dL_acts_303 ?_
  refine U_bi (fun y5 => ?_)
  refine U_istore 16 [(16, .int y5), (15, .ref (G.2 + b4)), (14, .ref (G.2 + b3)), (13, .int r2), (12, .int r1), (0, .ref (G.2 + 0)), (1, .ref (G.2 + a1)), (2, .ref (G.2 + a2)), (3, .ref (G.2 + a3)), (4, .ref (G.2 + a4)), (5, .ref (G.2 + a5)), (9, .int x9), (10, .int x10), (11, .int x11)] (by decide) rfl dL_acts_304 ?_
  exact U_sub [5, 6, 7, 8, 9, 10, 11, 12, 13, 4, 3, 2, 1, 0] rfl (f_L_acts_b306_ok hZ FU a1 a2 a3 a4 a5 x9 x10 x11 r1 r2 b3 b4 y5 M4)
set_option maxRecDepth 100000 in
set_option maxHeartbeats 4000000 in
theorem f_L_acts_b130_ok {X : XT} {G : GT} {Z : ZT} (hZ : 306 ≤ Z.1) (a1 : Nat) (x9 : Int32) (t0 : Int32) (t1 : Int32) (t2 : Int32) (t3 : Int32) (r4 : Nat) (M : Mem) : U X G Z cL_acts (some .boolean) (QM X G Z vI) 18 130 [(0, .ref (G.2 + 0)), (1, .ref (G.2 + a1)), (9, .int x9)] [.int t0, .int t1, .int t2, .int t3, .ref (G.2 + r4)] M (f_L_acts_b130 a1 x9 t0 t1 t2 t3 r4 M) := by
  unfold f_L_acts_b130
  refine U_gd (fun hz3 => ?_)
  refine U_irem (nz_ne hz3) dL_acts_130 ?_
  refine U_iadd dL_acts_131 ?_
  refine U_iast dL_acts_132 (fun M1 => ?_)
  refine U_aload_n 0 rfl 0 rfl dL_acts_133 ?_
  refine U_aload_n 1 rfl 1 rfl dL_acts_134 ?_
  refine U_iconst dL_acts_135 ic_1 ?_
  refine U_iald dL_acts_136 ?_
  refine kL_72 (Nat.lt_of_lt_of_le (Nat.le_of_ble_eq_true rfl : 7 + 1 ≤ 306) hZ) (fun lq rq Mq hh => mc_f_LP_setPlaces lq (M1.1 a1 (ix 1)) M1 rq Mq hh) (Nat.le_of_ble_eq_true rfl) dL_acts_137 (fun r2 M2 => ?_)
  refine U_iload 9 2 rfl dL_acts_140 ?_
  refine U_icmpne 149 dL_acts_142 (by decide) (fun _ => ?_) (fun _ => ?_)
  · refine U_iconst dL_acts_149 ic_0 ?_
    exact U_zret dL_acts_150
  · refine U_iconst dL_acts_145 ic_1 ?_
    refine U_goto 150 dL_acts_146 (by decide) ?_
    exact U_zret dL_acts_150
set_option maxRecDepth 100000 in
set_option maxHeartbeats 4000000 in
theorem u_f_L_acts {X : XT} {G : GT} {Z : ZT} (hZ : 306 ≤ Z.1) (a1 : Nat) (a2 : Nat) (a3 : Nat) (a4 : Nat) (a5 : Nat) (x6 : Int32) (M : Mem) : U X G Z cL_acts (some .boolean) (QM X G Z vI) 18 0 [(0, .ref (G.2 + 0)), (1, .ref (G.2 + a1)), (2, .ref (G.2 + a2)), (3, .ref (G.2 + a3)), (4, .ref (G.2 + a4)), (5, .ref (G.2 + a5)), (6, .int x6)] [] M (f_L_acts a1 a2 a3 a4 a5 x6 M) := by
  unfold f_L_acts
  refine U_iload 6 6 rfl dL_acts_0 ?_
  refine U_iconst dL_acts_2 ic_5 ?_
  refine U_ishr dL_acts_3 ?_
  refine U_ldc wkL_64 dL_acts_4 ?_
  refine kL_36 (Nat.lt_of_lt_of_le (Nat.le_of_ble_eq_true rfl : 0 + 1 ≤ 306) hZ) (fun lq rq Mq hh => mc_f_L_low lq (x6 >>> (5 &&& 31)) 10000000 M rq Mq hh) (fun rq Mq hh => (u_f_L_low (X := (X.1, X.2.1, X.2.2.1, X.2.2.2.1, X.2.2.2.2.1, X.2.2.2.2.2.1, X.2.2.2.2.2.2.1, X.2.2.2.2.2.2.2.1, X.2.2.2.2.2.2.2.2)) (G := G) (Z := (0, Z.2)) (Nat.le_refl _) (x6 >>> (5 &&& 31)) 10000000 M rq Mq hh).1) (Nat.le_of_ble_eq_true rfl) dL_acts_6 (fun r1 M1 => ?_)
  refine U_istore 7 [(7, .int r1), (0, .ref (G.2 + 0)), (1, .ref (G.2 + a1)), (2, .ref (G.2 + a2)), (3, .ref (G.2 + a3)), (4, .ref (G.2 + a4)), (5, .ref (G.2 + a5)), (6, .int x6)] (by decide) rfl dL_acts_9 ?_
  refine U_iload 6 7 rfl dL_acts_11 ?_
  refine U_bipush dL_acts_13 bp_12 ?_
  refine kL_36 (Nat.lt_of_lt_of_le (Nat.le_of_ble_eq_true rfl : 0 + 1 ≤ 306) hZ) (fun lq rq Mq hh => mc_f_L_low lq x6 12 M1 rq Mq hh) (fun rq Mq hh => (u_f_L_low (X := (X.1, X.2.1, X.2.2.1, X.2.2.2.1, X.2.2.2.2.1, X.2.2.2.2.2.1, X.2.2.2.2.2.2.1, X.2.2.2.2.2.2.2.1, X.2.2.2.2.2.2.2.2)) (G := G) (Z := (0, Z.2)) (Nat.le_refl _) x6 12 M1 rq Mq hh).1) (Nat.le_of_ble_eq_true rfl) dL_acts_15 (fun r2 M2 => ?_)
  refine U_istore 8 [(8, .int r2), (7, .int r1), (0, .ref (G.2 + 0)), (1, .ref (G.2 + a1)), (2, .ref (G.2 + a2)), (3, .ref (G.2 + a3)), (4, .ref (G.2 + a4)), (5, .ref (G.2 + a5)), (6, .int x6)] (by decide) rfl dL_acts_18 ?_
  refine U_iload 8 0 rfl dL_acts_20 ?_
  refine U_iconst dL_acts_22 ic_3 ?_
  refine U_icmpge 39 dL_acts_23 (by decide) (fun _ => ?_) (fun _ => ?_)
  · refine U_iload 8 0 rfl dL_acts_39 ?_
    refine U_bipush dL_acts_41 bp_6 ?_
    refine U_icmpge 97 dL_acts_43 (by decide) (fun _ => ?_) (fun _ => ?_)
    · refine U_iload 8 0 rfl dL_acts_97 ?_
      refine U_bipush dL_acts_99 bp_8 ?_
      refine U_icmpge 151 dL_acts_101 (by decide) (fun _ => ?_) (fun _ => ?_)
      · refine U_iload 7 1 rfl dL_acts_151 ?_
        refine U_aload_n 1 rfl 3 rfl dL_acts_153 ?_
        refine U_iconst dL_acts_154 ic_0 ?_
        refine U_iald dL_acts_155 ?_
        refine U_gd (fun hz10 => ?_)
        refine U_irem (nz_ne hz10) dL_acts_156 ?_
        refine U_bi (fun y3 => ?_)
        refine U_istore 9 [(9, .int y3), (8, .int r2), (7, .int r1), (0, .ref (G.2 + 0)), (1, .ref (G.2 + a1)), (2, .ref (G.2 + a2)), (3, .ref (G.2 + a3)), (4, .ref (G.2 + a4)), (5, .ref (G.2 + a5)), (6, .int x6)] (by decide) rfl dL_acts_157 ?_
        refine U_iload 7 2 rfl dL_acts_159 ?_
        refine U_iconst dL_acts_161 ic_4 ?_
        refine U_idiv (by decide) dL_acts_162 ?_
        refine U_aload_n 3 rfl 6 rfl dL_acts_163 ?_
        refine U_iload 9 0 rfl dL_acts_164 ?_
        refine U_iald dL_acts_166 ?_
        refine U_iconst dL_acts_167 ic_1 ?_
        refine U_iadd dL_acts_168 ?_
        refine U_gd (fun hz9 => ?_)
        refine U_irem (nz_ne hz9) dL_acts_169 ?_
        refine U_bi (fun y4 => ?_)
        refine U_istore 10 [(10, .int y4), (9, .int y3), (8, .int r2), (7, .int r1), (0, .ref (G.2 + 0)), (1, .ref (G.2 + a1)), (2, .ref (G.2 + a2)), (3, .ref (G.2 + a3)), (4, .ref (G.2 + a4)), (5, .ref (G.2 + a5)), (6, .int x6)] (by decide) rfl dL_acts_170 ?_
        refine U_iload 10 0 rfl dL_acts_172 ?_
        refine U_aload_n 3 rfl 7 rfl dL_acts_174 ?_
        refine U_iload 9 1 rfl dL_acts_175 ?_
        refine U_iald dL_acts_177 ?_
        refine U_icmpne 213 dL_acts_178 (by decide) (fun _ => ?_) (fun _ => ?_)
        · refine U_bipush dL_acts_213 bp_16 ?_
          refine U_iload 9 1 rfl dL_acts_215 ?_
          refine U_imul dL_acts_217 ?_
          refine U_bi (fun y5 => ?_)
          refine U_istore 11 [(11, .int y5), (10, .int y4), (9, .int y3), (8, .int r2), (7, .int r1), (0, .ref (G.2 + 0)), (1, .ref (G.2 + a1)), (2, .ref (G.2 + a2)), (3, .ref (G.2 + a3)), (4, .ref (G.2 + a4)), (5, .ref (G.2 + a5)), (6, .int x6)] (by decide) rfl dL_acts_218 ?_
          refine U_aload 4 9 rfl dL_acts_220 ?_
          refine U_iload 11 0 rfl dL_acts_222 ?_
          refine U_iload 10 1 rfl dL_acts_224 ?_
          refine U_iadd dL_acts_226 ?_
          refine U_iald dL_acts_227 ?_
          refine U_iconst dL_acts_228 ic_4 ?_
          refine U_icmpeq 264 dL_acts_229 (by decide) (fun _ => ?_) (fun _ => ?_)
          · exact U_sub [5, 6, 7, 8, 9, 10, 2, 1, 0] rfl (f_L_acts_b264_ok hZ a1 a2 a3 a4 a5 y3 y4 y5 M2)
          · refine U_aload 4 9 rfl dL_acts_232 ?_
            refine U_iload 11 0 rfl dL_acts_234 ?_
            refine U_iload 10 1 rfl dL_acts_236 ?_
            refine U_iadd dL_acts_238 ?_
            refine U_iald dL_acts_239 ?_
            refine U_bipush dL_acts_240 bp_6 ?_
            refine U_icmpeq 264 dL_acts_242 (by decide) (fun _ => ?_) (fun _ => ?_)
            · exact U_sub [5, 6, 7, 8, 9, 10, 2, 1, 0] rfl (f_L_acts_b264_ok hZ a1 a2 a3 a4 a5 y3 y4 y5 M2)
            · refine U_aload_n 0 rfl 5 rfl dL_acts_245 ?_
              refine U_iload 9 2 rfl dL_acts_246 ?_
              refine U_iload 10 1 rfl dL_acts_248 ?_
              refine kL_75 (Nat.lt_of_lt_of_le (Nat.le_of_ble_eq_true rfl : 7 + 1 ≤ 306) hZ) (fun lq rq Mq hh => mc_f_LP_turn lq y3 y4 M2 rq Mq hh) (Nat.le_of_ble_eq_true rfl) dL_acts_250 (fun r6 M6 => ?_)
              refine U_ldc wkL_79 dL_acts_253 ?_
              refine U_icmpne 262 dL_acts_255 (by decide) (fun _ => ?_) (fun _ => ?_)
              · refine U_iconst dL_acts_262 ic_0 ?_
                exact U_zret dL_acts_263
              · refine U_iconst dL_acts_258 ic_1 ?_
                refine U_goto 263 dL_acts_259 (by decide) ?_
                exact U_zret dL_acts_263
        · refine U_aload_n 0 rfl 4 rfl dL_acts_181 ?_
          refine U_iload 9 1 rfl dL_acts_182 ?_
          refine U_iload 10 0 rfl dL_acts_184 ?_
          refine kL_75 (Nat.lt_of_lt_of_le (Nat.le_of_ble_eq_true rfl : 7 + 1 ≤ 306) hZ) (fun lq rq Mq hh => mc_f_LP_turn lq y3 y4 M2 rq Mq hh) (Nat.le_of_ble_eq_true rfl) dL_acts_186 (fun r7 M7 => ?_)
          refine U_ldc wkL_78 dL_acts_189 ?_
          refine U_icmpne 211 dL_acts_191 (by decide) (fun _ => ?_) (fun _ => ?_)
          · refine U_iconst dL_acts_211 ic_0 ?_
            exact U_zret dL_acts_212
          · refine U_aload_n 0 rfl 4 rfl dL_acts_194 ?_
            refine U_aload_n 1 rfl 5 rfl dL_acts_195 ?_
            refine U_iconst dL_acts_196 ic_0 ?_
            refine U_iald dL_acts_197 ?_
            refine U_iconst dL_acts_198 ic_0 ?_
            refine kL_75 (Nat.lt_of_lt_of_le (Nat.le_of_ble_eq_true rfl : 7 + 1 ≤ 306) hZ) (fun lq rq Mq hh => mc_f_LP_turn lq (M7.1 a1 (ix 0)) 0 M7 rq Mq hh) (Nat.le_of_ble_eq_true rfl) dL_acts_199 (fun r8 M8 => ?_)
            refine U_ldc wkL_78 dL_acts_202 ?_
            refine U_icmpne 211 dL_acts_204 (by decide) (fun _ => ?_) (fun _ => ?_)
            · refine U_iconst dL_acts_211 ic_0 ?_
              exact U_zret dL_acts_212
            · refine U_iconst dL_acts_207 ic_1 ?_
              refine U_goto 212 dL_acts_208 (by decide) ?_
              exact U_zret dL_acts_212
      · refine U_aload_n 1 rfl 3 rfl dL_acts_104 ?_
        refine U_iconst dL_acts_105 ic_1 ?_
        refine U_iald dL_acts_106 ?_
        refine U_bi (fun y11 => ?_)
        refine U_istore 9 [(9, .int y11), (8, .int r2), (7, .int r1), (0, .ref (G.2 + 0)), (1, .ref (G.2 + a1)), (2, .ref (G.2 + a2)), (3, .ref (G.2 + a3)), (4, .ref (G.2 + a4)), (5, .ref (G.2 + a5)), (6, .int x6)] (by decide) rfl dL_acts_107 ?_
        refine U_aload_n 1 rfl 4 rfl dL_acts_109 ?_
        refine U_iconst dL_acts_110 ic_1 ?_
        refine U_iconst dL_acts_111 ic_2 ?_
        refine U_iload 7 2 rfl dL_acts_112 ?_
        refine U_bipush dL_acts_114 bp_7 ?_
        refine U_irem (by decide) dL_acts_116 ?_
        refine U_iload 7 2 rfl dL_acts_117 ?_
        refine U_iconst dL_acts_119 ic_3 ?_
        refine U_irem (by decide) dL_acts_120 ?_
        refine U_ifne 129 dL_acts_121 (by decide) (fun _ => ?_) (fun _ => ?_)
        · refine U_iconst dL_acts_129 ic_3 ?_
          exact U_sub [3, 4, 0] rfl (f_L_acts_b130_ok hZ a1 y11 3 (r1 - r1 / 7 * 7) 2 1 a1 M2)
        · refine U_bipush dL_acts_124 bp_7 ?_
          refine U_goto 130 dL_acts_126 (by decide) ?_
          exact U_sub [3, 4, 0] rfl (f_L_acts_b130_ok hZ a1 y11 7 (r1 - r1 / 7 * 7) 2 1 a1 M2)
    · refine U_iload 7 1 rfl dL_acts_46 ?_
      refine U_bipush dL_acts_48 bp_8 ?_
      refine U_irem (by decide) dL_acts_50 ?_
      refine U_bi (fun y12 => ?_)
      refine U_istore 9 [(9, .int y12), (8, .int r2), (7, .int r1), (0, .ref (G.2 + 0)), (1, .ref (G.2 + a1)), (2, .ref (G.2 + a2)), (3, .ref (G.2 + a3)), (4, .ref (G.2 + a4)), (5, .ref (G.2 + a5)), (6, .int x6)] (by decide) rfl dL_acts_51 ?_
      refine U_aload_n 2 rfl 5 rfl dL_acts_53 ?_
      refine U_iload 9 0 rfl dL_acts_54 ?_
      refine U_iald dL_acts_56 ?_
      refine U_bi (fun y13 => ?_)
      refine U_istore 10 [(10, .int y13), (9, .int y12), (8, .int r2), (7, .int r1), (0, .ref (G.2 + 0)), (1, .ref (G.2 + a1)), (2, .ref (G.2 + a2)), (3, .ref (G.2 + a3)), (4, .ref (G.2 + a4)), (5, .ref (G.2 + a5)), (6, .int x6)] (by decide) rfl dL_acts_57 ?_
      refine U_aload_n 2 rfl 6 rfl dL_acts_59 ?_
      refine U_iload 9 1 rfl dL_acts_60 ?_
      refine U_iload 7 3 rfl dL_acts_62 ?_
      refine U_bipush dL_acts_64 bp_8 ?_
      refine U_idiv (by decide) dL_acts_66 ?_
      refine U_sipush dL_acts_67 sp_1999 ?_
      refine U_irem (by decide) dL_acts_70 ?_
      refine U_sipush dL_acts_71 sp_999 ?_
      refine U_isub dL_acts_74 ?_
      refine U_iast dL_acts_75 (fun M14 => ?_)
      refine U_aload_n 0 rfl 4 rfl dL_acts_76 ?_
      refine U_iload 9 1 rfl dL_acts_77 ?_
      refine U_aload_n 2 rfl 6 rfl dL_acts_79 ?_
      refine U_iload 9 1 rfl dL_acts_80 ?_
      refine U_iald dL_acts_82 ?_
      refine kL_69 (Nat.lt_of_lt_of_le (Nat.le_of_ble_eq_true rfl : 7 + 1 ≤ 306) hZ) (fun lq rq Mq hh => mc_f_LP_setCell lq y12 (M14.1 a2 (ix y12)) M14 rq Mq hh) (Nat.le_of_ble_eq_true rfl) dL_acts_83 (fun r15 M15 => ?_)
      refine U_iload 10 0 rfl dL_acts_86 ?_
      refine U_icmpne 95 dL_acts_88 (by decide) (fun _ => ?_) (fun _ => ?_)
      · refine U_iconst dL_acts_95 ic_0 ?_
        exact U_zret dL_acts_96
      · refine U_iconst dL_acts_91 ic_1 ?_
        refine U_goto 96 dL_acts_92 (by decide) ?_
        exact U_zret dL_acts_96
  · refine U_aload_n 0 rfl 2 rfl dL_acts_26 ?_
    refine U_aload_n 1 rfl 3 rfl dL_acts_27 ?_
    refine U_aload_n 3 rfl 5 rfl dL_acts_28 ?_
    refine U_aload 4 6 rfl dL_acts_29 ?_
    refine U_aload 5 7 rfl dL_acts_31 ?_
    refine U_iload 7 1 rfl dL_acts_33 ?_
    refine kL_65 (Nat.lt_of_lt_of_le (Nat.le_of_ble_eq_true rfl : 305 + 1 ≤ 306) hZ) (fun lq rq Mq hh => mc_f_L_reads lq a1 a3 a4 a5 r1 M2 rq Mq hh) (fun rq Mq hh => (u_f_L_reads (X := (X.1, X.2.1, X.2.2.1, X.2.2.2.1, X.2.2.2.2.1, X.2.2.2.2.2.1, X.2.2.2.2.2.2.1, X.2.2.2.2.2.2.2.1, X.2.2.2.2.2.2.2.2)) (G := G) (Z := (305, Z.2)) (Nat.le_refl _) a1 a3 a4 a5 r1 M2 rq Mq hh).1) (Nat.le_of_ble_eq_true rfl) dL_acts_35 (fun r16 M16 => ?_)
    exact U_zret dL_acts_38
theorem mc_f_L_acts {G : GT} (l : Launch) (a1 : Nat) (a2 : Nat) (a3 : Nat) (a4 : Nat) (a5 : Nat) (x6 : Int32) (M : Mem) (r : Int32) (M1 : Mem) (ho : f_L_acts a1 a2 a3 a4 a5 x6 M = some (r, M1)) : MCL l G yL_acts cL_acts 18 (some .boolean) 306 [.ref (G.2 + 0), .ref (G.2 + a1), .ref (G.2 + a2), .ref (G.2 + a3), .ref (G.2 + a4), .ref (G.2 + a5), .int x6] M (vI r) M1 :=
  MCL.ofU (lv := [(0, .ref (G.2 + 0)), (1, .ref (G.2 + a1)), (2, .ref (G.2 + a2)), (3, .ref (G.2 + a3)), (4, .ref (G.2 + a4)), (5, .ref (G.2 + a5)), (6, .int x6)]) (by decide +kernel) rfl rfl (Nat.le_of_ble_eq_true rfl) ho (fun X Z hZ => u_f_L_acts (Nat.le_of_eq hZ.symm) a1 a2 a3 a4 a5 x6 M)
